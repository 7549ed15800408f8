set_option maxHeartbeats 4000000 in
set_option maxRecDepth 100000 in
theorem r_runs (l : Launch) (g : q_G) {K : Nat → Nat} {L : List Nat} (hN : L.Nodup) {f : Nat → va_E} (hT : q_Ty g K L f) (mo : Nat) (hmo : mo ∈ L) (kmo : K mo = 12) (sr : Nat) (hsr : sr ∈ L) (ksr : K sr = 151) (hp : Nat) (hhp : hp ∈ L) (khp : K hp = 159) (dy : Nat) (hdy : dy ∈ L) (kdy : K dy = 160) (cs : Nat) (hcs : cs ∈ L) (kcs : K cs = 161) (c1 : Nat) (hc1 : c1 ∈ L) (kc1 : K c1 = 162) (c2 : Nat) (hc2 : c2 ∈ L) (kc2 : K c2 = 163) (c3 : Nat) (hc3 : c3 ∈ L) (kc3 : K c3 = 164) (bg : Nat) (hbg : bg ∈ L) (kbg : K bg = 165) (lp : Nat) (hlp : lp ∈ L) (klp : K lp = 166) (xt : Int) (lxt : 0 ≤ xt) (uxt : xt ≤ 9999) (xm : Int) (lxm : 0 ≤ xm) (uxm : xm ≤ 60) (xc : Int) (lxc : 0 ≤ xc) (uxc : xc ≤ 10) (xn : Int) (lxn : 0 ≤ xn) (uxn : xn ≤ 60) (hf0 : q_is (q_z f sr 3) xt) (hf1 : q_is (q_z f sr 4) xm) (hf2 : q_is (q_z f sr 0) xc) (hf3 : q_is (q_z f mo 35) xn) (hr0 : q_ir (q_r f mo 13) sr) (hr1 : q_ir (q_r f mo 24) hp) (hr2 : q_ir (q_r f mo 25) dy) (hr3 : q_ir (q_r f mo 29) cs) (hr4 : q_ir (q_r f mo 30) c1) (hr5 : q_ir (q_r f mo 31) c2) (hr6 : q_ir (q_r f mo 32) c3) (hr7 : q_ir (q_r f mo 33) bg) (hr8 : q_ir (q_r f mo 34) lp) (hgr : q_gr f sr) (hsc : q_sc f mo cs c1 c2) : q_Ct l g K L yX12_runs cX12_runs 6 (some .int) 11 251 [.ref mo] f [(12, 26, 28), (151, 3, 4), (151, 9, 9), (151, 11, 89), (151, 92, 657), (159, 0, 9), (160, 0, 9), (165, 0, 1), (166, 0, 1)] (q_Pi (fun (z : Int) (f1 : Nat → va_E) => 0 ≤ z ∧ z ≤ 40 ∧ 0 ≤ q_z f1 sr 3 ∧ q_z f1 sr 3 ≤ 9999 ∧ 0 ≤ q_z f1 sr 4 ∧ q_z f1 sr 4 ≤ 60 ∧ q_is (q_z f1 sr 0) xc ∧ q_gr f1 sr)) := by
  refine q_ofb (by decide +kernel) hN hT (Nat.le_of_ble_eq_true rfl) ?_
  intro p e s m below meth c ls cx hr hlk hB hl
  have hl : lv_has ls 6 [(0, .ref mo)] := hl
  have J9 : ∀ (n : Nat) (f9 : Nat → va_E) (v9_1 : Int) (lv9_1 : 0 ≤ v9_1) (uv9_1 : v9_1 ≤ 40) (v9_2 : Int) (lv9_2 : 0 ≤ v9_2) (uv9_2 : v9_2 ≤ 2) (v9_3 : Int) (lv9_3 : 0 ≤ v9_3) (uv9_3 : v9_3 ≤ 60) (v9_4 : Int) (lv9_4 : 0 ≤ v9_4) (uv9_4 : v9_4 ≤ 1) (w9_sr_3 : Int) (lw9_sr_3 : 0 ≤ w9_sr_3) (uw9_sr_3 : w9_sr_3 ≤ 9999) (w9_sr_4 : Int) (lw9_sr_4 : 0 ≤ w9_sr_4) (uw9_sr_4 : w9_sr_4 ≤ 60) (hj_sr_0 : q_is (q_z f9 sr 0) xc) (hj_mo_35 : q_is (q_z f9 mo 35) xn) (hj_sr_3 : q_is (q_z f9 sr 3) w9_sr_3) (hj_sr_4 : q_is (q_z f9 sr 4) w9_sr_4) (hq_mo_13 : q_ir (q_r f9 mo 13) sr) (hq_mo_24 : q_ir (q_r f9 mo 24) hp) (hq_mo_25 : q_ir (q_r f9 mo 25) dy) (hq_mo_29 : q_ir (q_r f9 mo 29) cs) (hq_mo_30 : q_ir (q_r f9 mo 30) c1) (hq_mo_31 : q_ir (q_r f9 mo 31) c2) (hq_mo_32 : q_ir (q_r f9 mo 32) c3) (hq_mo_33 : q_ir (q_r f9 mo 33) bg) (hq_mo_34 : q_ir (q_r f9 mo 34) lp) (hgr9 : q_gr f9 sr) (hsc9 : q_sc f9 mo cs c1 c2) (hrn : k_rn f9 cs bg lp xn v9_2 v9_3) (hmu : (k_mu f9 bg lp v9_2 v9_3) < n) (H : Heap) (locs : List Loc) (hB : q_B g K L (fun q => q ∈ L) [(12, 26, 28), (151, 3, 4), (151, 9, 9), (151, 11, 89), (151, 92, 657), (159, 0, 9), (160, 0, 9), (165, 0, 1), (166, 0, 1)] f f9 s H locs) (ls : Array Slot) (hl : lv_has ls 6 [(0, .ref mo), (1, .int (q_i v9_1)), (2, .int (q_i v9_2)), (3, .int (q_i v9_3)), (4, .int (q_i v9_4))]), W p l e { frames := 11, cells := 0, slots := 0, locals := 251 } s m ([.ref mo] : List Value).toArray below meth c H locs 0 0 (MQ below (q_Q g K L [(12, 26, 28), (151, 3, 4), (151, 9, 9), (151, 11, 89), (151, 92, 657), (159, 0, 9), (160, 0, 9), (165, 0, 1), (166, 0, 1)] f (q_Pi (fun (z : Int) (f1 : Nat → va_E) => 0 ≤ z ∧ z ≤ 40 ∧ 0 ≤ q_z f1 sr 3 ∧ q_z f1 sr 3 ≤ 9999 ∧ 0 ≤ q_z f1 sr 4 ∧ q_z f1 sr 4 ≤ 60 ∧ q_is (q_z f1 sr 0) xc ∧ q_gr f1 sr))) ([.ref mo] : List Value).toArray s 0 0 (fun q => q ∈ L)) (F0 m 9 ls []) := by
    intro n
    induction n with
    | zero =>
      intro f9 v9_1 lv9_1 uv9_1 v9_2 lv9_2 uv9_2 v9_3 lv9_3 uv9_3 v9_4 lv9_4 uv9_4 w9_sr_3 lw9_sr_3 uw9_sr_3 w9_sr_4 lw9_sr_4 uw9_sr_4 hj_sr_0 hj_mo_35 hj_sr_3 hj_sr_4 hq_mo_13 hq_mo_24 hq_mo_25 hq_mo_29 hq_mo_30 hq_mo_31 hq_mo_32 hq_mo_33 hq_mo_34 hgr9 hsc9 hrn hmu
      exact absurd hmu (Nat.not_lt_zero _)
    | succ n ih9 =>
      intro f9 v9_1 lv9_1 uv9_1 v9_2 lv9_2 uv9_2 v9_3 lv9_3 uv9_3 v9_4 lv9_4 uv9_4 w9_sr_3 lw9_sr_3 uw9_sr_3 w9_sr_4 lw9_sr_4 uw9_sr_4 hj_sr_0 hj_mo_35 hj_sr_3 hj_sr_4 hq_mo_13 hq_mo_24 hq_mo_25 hq_mo_29 hq_mo_30 hq_mo_31 hq_mo_32 hq_mo_33 hq_mo_34 hgr9 hsc9 hrn hmu H locs hB ls hl
      refine lv_iload cx.1 cx.2.1 dX12_runs_9 (lv_at hl 4 rfl) ?_
      refine q_ifeq (tgt := 186) cx ⟨by omega, by omega⟩ dX12_runs_11 (by decide) (fun c259 => ?_) (fun c259 => ?_)
      · refine q_ild_n cx dX12_runs_186 rfl (lv_at hl 1 rfl) ?_
        refine q_iret cx hr hlk hB dX12_runs_187 ⟨by omega, by omega⟩ ?_
        exact ⟨(by omega), (by omega), (q_isl hj_sr_3 (by omega)), (q_isu hj_sr_3 (by omega)), (q_isl hj_sr_4 (by omega)), (q_isu hj_sr_4 (by omega)), hj_sr_0, hgr9⟩
      · refine q_ild_n cx dX12_runs_14 rfl (lv_at hl 3 rfl) ?_
        refine q_ald_n cx dX12_runs_15 rfl (lv_at hl 0 rfl) ?_
        refine q_gX12_494 cx hB hmo kmo hj_mo_35 dX12_runs_16 (fun lb260 ub260 => ?_)
        refine q_icge (tgt := 186) cx ⟨by omega, by omega⟩ ⟨by omega, by omega⟩ dX12_runs_19 (by decide) (fun c261 => ?_) (fun c261 => ?_)
        · refine q_ild_n cx dX12_runs_186 rfl (lv_at hl 1 rfl) ?_
          refine q_iret cx hr hlk hB dX12_runs_187 ⟨by omega, by omega⟩ ?_
          exact ⟨(by omega), (by omega), (q_isl hj_sr_3 (by omega)), (q_isu hj_sr_3 (by omega)), (q_isl hj_sr_4 (by omega)), (q_isu hj_sr_4 (by omega)), hj_sr_0, hgr9⟩
        · refine q_ild_n cx dX12_runs_22 rfl (lv_at hl 1 rfl) ?_
          refine q_bipush cx dX12_runs_23 rfl ?_
          refine q_icge (tgt := 186) cx ⟨by omega, by omega⟩ ⟨by decide, by decide⟩ dX12_runs_25 (by decide) (fun c262 => ?_) (fun c262 => ?_)
          · refine q_ild_n cx dX12_runs_186 rfl (lv_at hl 1 rfl) ?_
            refine q_iret cx hr hlk hB dX12_runs_187 ⟨by omega, by omega⟩ ?_
            exact ⟨(by omega), (by omega), (q_isl hj_sr_3 (by omega)), (q_isu hj_sr_3 (by omega)), (q_isl hj_sr_4 (by omega)), (q_isu hj_sr_4 (by omega)), hj_sr_0, hgr9⟩
          · refine q_ald_n cx dX12_runs_28 rfl (lv_at hl 0 rfl) ?_
            refine q_gX12_51 cx hB hmo kmo hq_mo_29 dX12_runs_29 (fun hb263 kb263 => ?_)
            refine q_ild_n cx dX12_runs_32 rfl (lv_at hl 3 rfl) ?_
            obtain ⟨x264, ex264⟩ : ∃ zz, q_is (q_z f9 cs (Int.toNat v9_3)) zz := ⟨_, q_isr _⟩
            refine q_iald (lo := 0) (hi := 7) (n := 60) cx hB hcs kcs (by decide) rfl rfl (by omega) (by omega) (by decide) rfl ex264 dX12_runs_33 (fun lb265 ub265 => ?_)
            refine q_bipush cx dX12_runs_34 rfl ?_
            refine q_icne (tgt := 67) cx ⟨by omega, by omega⟩ ⟨by decide, by decide⟩ dX12_runs_36 (by decide) (fun c266 => ?_) (fun c266 => ?_)
            · refine q_ald_n cx dX12_runs_67 rfl (lv_at hl 0 rfl) ?_
              refine q_gX12_51 cx hB hmo kmo hq_mo_29 dX12_runs_68 (fun hb267 kb267 => ?_)
              refine q_ild_n cx dX12_runs_71 rfl (lv_at hl 3 rfl) ?_
              refine q_iald (lo := 0) (hi := 7) (n := 60) cx hB hcs kcs (by decide) rfl rfl (by omega) (by omega) (by decide) rfl ex264 dX12_runs_72 (fun lb269 ub269 => ?_)
              refine q_bipush cx dX12_runs_73 rfl ?_
              refine q_icne (tgt := 149) cx ⟨by omega, by omega⟩ ⟨by decide, by decide⟩ dX12_runs_75 (by decide) (fun c270 => ?_) (fun c270 => ?_)
              · refine q_ald_n cx dX12_runs_149 rfl (lv_at hl 0 rfl) ?_
                refine q_ild_n cx dX12_runs_150 rfl (lv_at hl 3 rfl) ?_
                refine q_cVi (As := [.int (q_i v9_3)]) (rest := []) cx hB (fun _ h => h) hN hmo kmo (by decide) rfl (r_may l g hN hB.2.1 mo hmo kmo v9_3 (by omega) (by omega) sr hsr ksr cs hcs kcs c1 hc1 kc1 c2 hc2 kc2 c3 hc3 kc3 w9_sr_3 (by omega) (by omega) w9_sr_4 (by omega) (by omega) xc (by omega) (by omega) hj_sr_3 hj_sr_4 hj_sr_0 hq_mo_13 hq_mo_29 hq_mo_30 hq_mo_31 hq_mo_32 (hsc9.1 (Int.toNat v9_3) (by have h75 : _ = _ := hj_mo_35; omega)) (q_isu ex264 (by omega)) hgr9) q_cX12_509 q_dX12_may (by decide) rfl rfl hl.1 rfl (Nat.le_of_ble_eq_true rfl) dX12_runs_151 (fun y272 H locs f271 ry272 h273 hF hB => ?_)
                rcases h273 with h274 | h275
                · obtain ⟨rfl, qy272, t276⟩ := h274
                  subst qy272
                  refine lv_istore (lv' := [(4, .int (q_i 1)), (0, .ref mo), (1, .int (q_i v9_1)), (2, .int (q_i v9_2)), (3, .int (q_i v9_3))]) cx.1 cx.2.1 dX12_runs_154 hl (by decide) rfl (fun ls hl => ?_)
                  refine lv_iload cx.1 cx.2.1 dX12_runs_156 (lv_at hl 0 rfl) ?_
                  refine q_ifeq (tgt := 169) cx ⟨by decide, by decide⟩ dX12_runs_158 (by decide) (fun c277 => ?_) (fun c277 => ?_)
                  · exact absurd c277 (by omega)
                  · refine q_ald_n cx dX12_runs_161 rfl (lv_at hl 1 rfl) ?_
                    refine q_ild_n cx dX12_runs_162 rfl (lv_at hl 4 rfl) ?_
                    refine q_cVi (As := [.int (q_i v9_3)]) (rest := []) cx hB (fun _ h => h) hN hmo kmo (by decide) rfl (r_does l g hN hB.2.1 mo hmo kmo v9_3 (by omega) (by omega) sr hsr ksr hp hhp khp dy hdy kdy cs hcs kcs c1 hc1 kc1 c2 hc2 kc2 c3 hc3 kc3 w9_sr_3 (by omega) (by omega) w9_sr_4 (by omega) (by omega) xc (by omega) (by omega) hj_sr_3 hj_sr_4 hj_sr_0 hq_mo_13 hq_mo_24 hq_mo_25 hq_mo_29 hq_mo_30 hq_mo_31 hq_mo_32 (hsc9.1 (Int.toNat v9_3) (by have h75 : _ = _ := hj_mo_35; omega)) (q_isu ex264 (by omega)) t276 hgr9) q_cX12_512 q_dX12_does (by decide) rfl rfl hl.1 rfl (Nat.le_of_ble_eq_true rfl) dX12_runs_163 (fun y279 H locs f278 ry279 h280 hF hB => ?_)
                    obtain ⟨lz281, uz281, lz282, uz282, z283, g284⟩ := h280
                    have z285 : q_is (q_z f278 sr 0) xc := Eq.trans (hF.z hsr (by rw [ksr]; rfl)) hj_sr_0
                    have z286 : q_is (q_z f278 mo 35) xn := Eq.trans (hF.z hmo (by rw [kmo]; rfl)) hj_mo_35
                    have z287 : q_is (q_z f278 cs (Int.toNat v9_3)) x264 := Eq.trans (hF.z hcs (by rw [kcs]; rfl)) ex264
                    have z288 : q_ir (q_r f278 mo 13) sr := Eq.trans (hF.r hmo (by rw [kmo]; rfl)) hq_mo_13
                    have z289 : q_ir (q_r f278 mo 24) hp := Eq.trans (hF.r hmo (by rw [kmo]; rfl)) hq_mo_24
                    have z290 : q_ir (q_r f278 mo 25) dy := Eq.trans (hF.r hmo (by rw [kmo]; rfl)) hq_mo_25
                    have z291 : q_ir (q_r f278 mo 29) cs := Eq.trans (hF.r hmo (by rw [kmo]; rfl)) hq_mo_29
                    have z292 : q_ir (q_r f278 mo 30) c1 := Eq.trans (hF.r hmo (by rw [kmo]; rfl)) hq_mo_30
                    have z293 : q_ir (q_r f278 mo 31) c2 := Eq.trans (hF.r hmo (by rw [kmo]; rfl)) hq_mo_31
                    have z294 : q_ir (q_r f278 mo 32) c3 := Eq.trans (hF.r hmo (by rw [kmo]; rfl)) hq_mo_32
                    have z295 : q_ir (q_r f278 mo 33) bg := Eq.trans (hF.r hmo (by rw [kmo]; rfl)) hq_mo_33
                    have z296 : q_ir (q_r f278 mo 34) lp := Eq.trans (hF.r hmo (by rw [kmo]; rfl)) hq_mo_34
                    have g297 : q_sc f278 mo cs c1 c2 := q_sc_tr hsc9 (hF.z hmo (by rw [kmo]; rfl)) (hF.z hmo (by rw [kmo]; rfl)) (hF.z hmo (by rw [kmo]; rfl)) (fun i9 => hF.z hcs (by rw [kcs]; rfl)) (fun i9 => hF.z hc1 (by rw [kc1]; rfl)) (fun i9 => hF.z hc2 (by rw [kc2]; rfl))
                    obtain ⟨x298, ex298⟩ : ∃ zz, q_is (q_z f278 sr 3) zz := ⟨_, q_isr _⟩
                    obtain ⟨lx298, ux298⟩ := q_isb ex298 ⟨lz281, uz281⟩
                    obtain ⟨x299, ex299⟩ : ∃ zz, q_is (q_z f278 sr 4) zz := ⟨_, q_isr _⟩
                    obtain ⟨lx299, ux299⟩ := q_isb ex299 ⟨lz282, uz282⟩
                    have hF9 := hF
                    refine lv_goto (tgt := 170) cx.1 cx.2.1 dX12_runs_166 (by decide) ?_
                    refine lv_istore (lv' := [(5, .int (q_i y279)), (4, .int (q_i 1)), (0, .ref mo), (1, .int (q_i v9_1)), (2, .int (q_i v9_2)), (3, .int (q_i v9_3))]) cx.1 cx.2.1 dX12_runs_170 hl (by decide) rfl (fun ls hl => ?_)
                    refine q_ild_n cx dX12_runs_172 rfl (lv_at hl 3 rfl) ?_
                    refine lv_iload cx.1 cx.2.1 dX12_runs_173 (lv_at hl 1 rfl) ?_
                    refine q_cSi (As := [.int (q_i 1)]) (rest := [.int (q_i v9_1)]) cx hB (fun _ h => h) hN (r_truth1 l g hN hB.2.1 1 (by decide) (by decide)) q_cX12_78 q_dX12_truth (by decide) rfl rfl hl.1 rfl (Nat.le_of_ble_eq_true rfl) dX12_runs_175 (fun y301 H locs f300 ry301 h302 hF hB => ?_)
                    obtain ⟨rfl, qy301⟩ := h302
                    subst qy301
                    refine q_iadd cx dX12_runs_178 ?_
                    refine lv_istore_n (lv' := [(1, .int (q_i (v9_1 + 1))), (5, .int (q_i y279)), (4, .int (q_i 1)), (0, .ref mo), (2, .int (q_i v9_2)), (3, .int (q_i v9_3))]) cx.1 cx.2.1 dX12_runs_179 rfl hl (by decide) rfl (fun ls hl => ?_)
                    obtain ⟨hr9, hm9⟩ := k_rn_oth (f1 := f278) hrn (by omega) (by omega) (q_isu ex264 (by omega)) (fun j => (hF9.z hcs (by rw [kcs]; rfl))) (fun j => (hF9.z hbg (by rw [kbg]; rfl))) (fun j => (hF9.z hlp (by rw [klp]; rfl)))
                    refine q_iinc (lv' := [(3, .int (q_i (v9_3 + 1))), (1, .int (q_i (v9_1 + 1))), (5, .int (q_i y279)), (4, .int (q_i 1)), (0, .ref mo), (2, .int (q_i v9_2))]) cx dX12_runs_180 hl (k := 5) rfl (by decide) rfl (fun ls hl => ?_)
                    refine lv_goto (tgt := 9) cx.1 cx.2.1 dX12_runs_183 (by decide) ?_
                    exact ih9 f278 (v9_1 + 1) (by omega) (by omega) v9_2 (by omega) (by omega) (v9_3 + 1) (by omega) (by omega) 1 (by decide) (by decide) x298 (by omega) (by omega) x299 (by omega) (by omega) z283 z286 ex298 ex299 z288 z289 z290 z291 z292 z293 z294 z295 z296 g284 g297 hr9 (by omega) H locs hB ls (lv_sub hl [4, 1, 5, 0, 3] rfl)
                · obtain ⟨rfl, qy272⟩ := h275
                  subst qy272
                  refine lv_istore (lv' := [(4, .int (q_i 0)), (0, .ref mo), (1, .int (q_i v9_1)), (2, .int (q_i v9_2)), (3, .int (q_i v9_3))]) cx.1 cx.2.1 dX12_runs_154 hl (by decide) rfl (fun ls hl => ?_)
                  refine lv_iload cx.1 cx.2.1 dX12_runs_156 (lv_at hl 0 rfl) ?_
                  refine q_ifeq (tgt := 169) cx ⟨by decide, by decide⟩ dX12_runs_158 (by decide) (fun c303 => ?_) (fun c303 => ?_)
                  · refine q_iconst cx dX12_runs_169 ?_
                    refine lv_istore (lv' := [(5, .int (q_i 0)), (4, .int (q_i 0)), (0, .ref mo), (1, .int (q_i v9_1)), (2, .int (q_i v9_2)), (3, .int (q_i v9_3))]) cx.1 cx.2.1 dX12_runs_170 hl (by decide) rfl (fun ls hl => ?_)
                    refine q_ild_n cx dX12_runs_172 rfl (lv_at hl 3 rfl) ?_
                    refine lv_iload cx.1 cx.2.1 dX12_runs_173 (lv_at hl 1 rfl) ?_
                    refine q_cSi (As := [.int (q_i 0)]) (rest := [.int (q_i v9_1)]) cx hB (fun _ h => h) hN (r_truth0 l g hN hB.2.1 0 (by decide) (by decide)) q_cX12_78 q_dX12_truth (by decide) rfl rfl hl.1 rfl (Nat.le_of_ble_eq_true rfl) dX12_runs_175 (fun y305 H locs f304 ry305 h306 hF hB => ?_)
                    obtain ⟨rfl, qy305⟩ := h306
                    subst qy305
                    refine q_iadd cx dX12_runs_178 ?_
                    refine lv_istore_n (lv' := [(1, .int (q_i (v9_1 + 0))), (5, .int (q_i 0)), (4, .int (q_i 0)), (0, .ref mo), (2, .int (q_i v9_2)), (3, .int (q_i v9_3))]) cx.1 cx.2.1 dX12_runs_179 rfl hl (by decide) rfl (fun ls hl => ?_)
                    obtain ⟨hr9, hm9⟩ := k_rn_oth (f1 := f9) hrn (by omega) (by omega) (q_isu ex264 (by omega)) (fun j => rfl) (fun j => rfl) (fun j => rfl)
                    refine q_iinc (lv' := [(3, .int (q_i (v9_3 + 1))), (1, .int (q_i (v9_1 + 0))), (5, .int (q_i 0)), (4, .int (q_i 0)), (0, .ref mo), (2, .int (q_i v9_2))]) cx dX12_runs_180 hl (k := 5) rfl (by decide) rfl (fun ls hl => ?_)
                    refine lv_goto (tgt := 9) cx.1 cx.2.1 dX12_runs_183 (by decide) ?_
                    exact ih9 f9 (v9_1 + 0) (by omega) (by omega) v9_2 (by omega) (by omega) (v9_3 + 1) (by omega) (by omega) 0 (by decide) (by decide) w9_sr_3 (by omega) (by omega) w9_sr_4 (by omega) (by omega) hj_sr_0 hj_mo_35 hj_sr_3 hj_sr_4 hq_mo_13 hq_mo_24 hq_mo_25 hq_mo_29 hq_mo_30 hq_mo_31 hq_mo_32 hq_mo_33 hq_mo_34 hgr9 hsc9 hr9 (by omega) H locs hB ls (lv_sub hl [4, 1, 5, 0, 3] rfl)
                  · exact absurd c303 (by omega)
              · have hi8 := k_rn_l1 hrn hsc9 hj_mo_35 (by omega) (Eq.trans ex264 (by omega))
                refine q_ald_n cx dX12_runs_78 rfl (lv_at hl 0 rfl) ?_
                refine q_gX12_66 cx hB hmo kmo hq_mo_34 dX12_runs_79 (fun hb307 kb307 => ?_)
                refine q_ild_n cx dX12_runs_82 rfl (lv_at hl 2 rfl) ?_
                refine q_iconst cx dX12_runs_83 ?_
                refine q_isub cx dX12_runs_84 ?_
                refine lv_dup2_11 cx.1 cx.2.1 dX12_runs_85 rfl rfl ?_
                obtain ⟨x308, ex308⟩ : ∃ zz, q_is (q_z f9 lp (Int.toNat (v9_2 - 1))) zz := ⟨_, q_isr _⟩
                refine q_iald (lo := (-2147483648)) (hi := 2147483647) (n := 2) cx hB hlp klp (by decide) rfl rfl (by omega) (by omega) (by decide) rfl ex308 dX12_runs_86 (fun lb309 ub309 => ?_)
                have hy7 := k_rn_y hrn hi8 ex308
                refine q_iconst cx dX12_runs_87 ?_
                refine q_isub cx dX12_runs_88 ?_
                refine q_iast (lo := (-2147483648)) (hi := 2147483647) (n := 2) cx hB hlp klp (by decide) rfl rfl (by omega) (by omega) (by decide) rfl ⟨by omega, by omega⟩ (by omega) (by omega) (q_inWi (lo := 0) (hi := 1) (by decide) (by omega) (by omega)) dX12_runs_89 (fun H locs f310 ef310 z311 hB => ?_)
                have z312 : q_is (q_z f310 sr 0) xc := by rw [ef310, q_setz (Or.inl (fun q => by rw [q, klp] at ksr; exact absurd ksr (by decide)))]; exact hj_sr_0
                have z313 : q_is (q_z f310 mo 35) xn := by rw [ef310, q_setz (Or.inl (fun q => by rw [q, klp] at kmo; exact absurd kmo (by decide)))]; exact hj_mo_35
                have z314 : q_is (q_z f310 sr 3) w9_sr_3 := by rw [ef310, q_setz (Or.inl (fun q => by rw [q, klp] at ksr; exact absurd ksr (by decide)))]; exact hj_sr_3
                have z315 : q_is (q_z f310 sr 4) w9_sr_4 := by rw [ef310, q_setz (Or.inl (fun q => by rw [q, klp] at ksr; exact absurd ksr (by decide)))]; exact hj_sr_4
                have z316 : q_is (q_z f310 cs (Int.toNat v9_3)) x264 := by rw [ef310, q_setz (Or.inl (fun q => by rw [q, klp] at kcs; exact absurd kcs (by decide)))]; exact ex264
                have z317 : q_ir (q_r f310 mo 13) sr := by rw [ef310, q_setr (Or.inl (fun q => by rw [q, klp] at kmo; exact absurd kmo (by decide)))]; exact hq_mo_13
                have z318 : q_ir (q_r f310 mo 24) hp := by rw [ef310, q_setr (Or.inl (fun q => by rw [q, klp] at kmo; exact absurd kmo (by decide)))]; exact hq_mo_24
                have z319 : q_ir (q_r f310 mo 25) dy := by rw [ef310, q_setr (Or.inl (fun q => by rw [q, klp] at kmo; exact absurd kmo (by decide)))]; exact hq_mo_25
                have z320 : q_ir (q_r f310 mo 29) cs := by rw [ef310, q_setr (Or.inl (fun q => by rw [q, klp] at kmo; exact absurd kmo (by decide)))]; exact hq_mo_29
                have z321 : q_ir (q_r f310 mo 30) c1 := by rw [ef310, q_setr (Or.inl (fun q => by rw [q, klp] at kmo; exact absurd kmo (by decide)))]; exact hq_mo_30
                have z322 : q_ir (q_r f310 mo 31) c2 := by rw [ef310, q_setr (Or.inl (fun q => by rw [q, klp] at kmo; exact absurd kmo (by decide)))]; exact hq_mo_31
                have z323 : q_ir (q_r f310 mo 32) c3 := by rw [ef310, q_setr (Or.inl (fun q => by rw [q, klp] at kmo; exact absurd kmo (by decide)))]; exact hq_mo_32
                have z324 : q_ir (q_r f310 mo 33) bg := by rw [ef310, q_setr (Or.inl (fun q => by rw [q, klp] at kmo; exact absurd kmo (by decide)))]; exact hq_mo_33
                have z325 : q_ir (q_r f310 mo 34) lp := by rw [ef310, q_setr (Or.inl (fun q => by rw [q, klp] at kmo; exact absurd kmo (by decide)))]; exact hq_mo_34
                have g326 : q_gr f310 sr := q_gr_ne hgr9 ef310 (fun q => q_kne (k := 151) (k2 := 166) (by decide) ksr klp q)
                have g327 : q_sc f310 mo cs c1 c2 := q_sc_tr hsc9 (by rw [ef310, q_setz (Or.inl (fun q => by rw [q, klp] at kmo; exact absurd kmo (by decide)))]) (by rw [ef310, q_setz (Or.inl (fun q => by rw [q, klp] at kmo; exact absurd kmo (by decide)))]) (by rw [ef310, q_setz (Or.inl (fun q => by rw [q, klp] at kmo; exact absurd kmo (by decide)))]) (fun i9 => by rw [ef310, q_setz (Or.inl (fun q => by rw [q, klp] at kcs; exact absurd kcs (by decide)))]) (fun i9 => by rw [ef310, q_setz (Or.inl (fun q => by rw [q, klp] at kc1; exact absurd kc1 (by decide)))]) (fun i9 => by rw [ef310, q_setz (Or.inl (fun q => by rw [q, klp] at kc2; exact absurd kc2 (by decide)))])
                obtain ⟨hy9, hb9, hma, hmb⟩ := k_rn_lap hrn hsc9 hj_mo_35 (by omega) (by omega) (Eq.trans ex264 (by omega)) hi8 ex308 ef310 z311 (fun q => q_kne (k := 161) (k2 := 166) (by decide) kcs klp q) (fun q => q_kne (k := 165) (k2 := 166) (by decide) kbg klp q)
                refine q_ald_n cx dX12_runs_90 rfl (lv_at hl 0 rfl) ?_
                refine q_gX12_66 cx hB hmo kmo z325 dX12_runs_91 (fun hb328 kb328 => ?_)
                refine q_ild_n cx dX12_runs_94 rfl (lv_at hl 2 rfl) ?_
                refine q_iconst cx dX12_runs_95 ?_
                refine q_isub cx dX12_runs_96 ?_
                refine q_iald (lo := (-2147483648)) (hi := 2147483647) (n := 2) cx hB hlp klp (by decide) rfl rfl (by omega) (by omega) (by decide) rfl z311 dX12_runs_97 (fun lb330 ub330 => ?_)
                refine q_ifle (tgt := 105) cx ⟨by omega, by omega⟩ dX12_runs_98 (by decide) (fun c331 => ?_) (fun c331 => ?_)
                · refine q_iconst cx dX12_runs_105 ?_
                  refine lv_istore (lv' := [(5, .int (q_i 0)), (0, .ref mo), (1, .int (q_i v9_1)), (2, .int (q_i v9_2)), (3, .int (q_i v9_3)), (4, .int (q_i v9_4))]) cx.1 cx.2.1 dX12_runs_106 hl (by decide) rfl (fun ls hl => ?_)
                  refine lv_iload cx.1 cx.2.1 dX12_runs_108 (lv_at hl 0 rfl) ?_
                  refine q_ifeq (tgt := 126) cx ⟨by decide, by decide⟩ dX12_runs_110 (by decide) (fun c332 => ?_) (fun c332 => ?_)
                  · refine q_ild_n cx dX12_runs_126 rfl (lv_at hl 4 rfl) ?_
                    refine q_iconst cx dX12_runs_127 ?_
                    refine q_iadd cx dX12_runs_128 ?_
                    refine lv_istore_n (lv' := [(3, .int (q_i (v9_3 + 1))), (5, .int (q_i 0)), (0, .ref mo), (1, .int (q_i v9_1)), (2, .int (q_i v9_2)), (4, .int (q_i v9_4))]) cx.1 cx.2.1 dX12_runs_129 rfl hl (by decide) rfl (fun ls hl => ?_)
                    refine q_ild_n cx dX12_runs_130 rfl (lv_at hl 4 rfl) ?_
                    refine lv_iload cx.1 cx.2.1 dX12_runs_131 (lv_at hl 1 rfl) ?_
                    refine q_ifne (tgt := 140) cx ⟨by decide, by decide⟩ dX12_runs_133 (by decide) (fun c333 => ?_) (fun c333 => ?_)
                    · exact absurd c333 (by omega)
                    · refine q_iconst cx dX12_runs_136 ?_
                      refine lv_goto (tgt := 141) cx.1 cx.2.1 dX12_runs_137 (by decide) ?_
                      refine q_cSi (As := [.int (q_i 1)]) (rest := [.int (q_i v9_2)]) cx hB (fun _ h => h) hN (r_truth1 l g hN hB.2.1 1 (by decide) (by decide)) q_cX12_78 q_dX12_truth (by decide) rfl rfl hl.1 rfl (Nat.le_of_ble_eq_true rfl) dX12_runs_141 (fun y335 H locs f334 ry335 h336 hF hB => ?_)
                      obtain ⟨rfl, qy335⟩ := h336
                      subst qy335
                      refine q_isub cx dX12_runs_144 ?_
                      refine lv_istore_n (lv' := [(2, .int (q_i (v9_2 - 1))), (3, .int (q_i (v9_3 + 1))), (5, .int (q_i 0)), (0, .ref mo), (1, .int (q_i v9_1)), (4, .int (q_i v9_4))]) cx.1 cx.2.1 dX12_runs_145 rfl hl (by decide) rfl (fun ls hl => ?_)
                      obtain ⟨hr9, hm9⟩ := k_rn_mv2 hmb (show (v9_2 - 1) = v9_2 - 1 by omega)
                      refine lv_goto (tgt := 9) cx.1 cx.2.1 dX12_runs_146 (by decide) ?_
                      exact ih9 f310 v9_1 (by omega) (by omega) (v9_2 - 1) (by omega) (by omega) (v9_3 + 1) (by omega) (by omega) v9_4 (by omega) (by omega) w9_sr_3 (by omega) (by omega) w9_sr_4 (by omega) (by omega) z312 z313 z314 z315 z317 z318 z319 z320 z321 z322 z323 z324 z325 g326 g327 hr9 (by omega) H locs hB ls (lv_sub hl [3, 4, 0, 1, 5] rfl)
                  · exact absurd c332 (by omega)
                · refine q_iconst cx dX12_runs_101 ?_
                  refine lv_goto (tgt := 106) cx.1 cx.2.1 dX12_runs_102 (by decide) ?_
                  refine lv_istore (lv' := [(5, .int (q_i 1)), (0, .ref mo), (1, .int (q_i v9_1)), (2, .int (q_i v9_2)), (3, .int (q_i v9_3)), (4, .int (q_i v9_4))]) cx.1 cx.2.1 dX12_runs_106 hl (by decide) rfl (fun ls hl => ?_)
                  refine lv_iload cx.1 cx.2.1 dX12_runs_108 (lv_at hl 0 rfl) ?_
                  refine q_ifeq (tgt := 126) cx ⟨by decide, by decide⟩ dX12_runs_110 (by decide) (fun c337 => ?_) (fun c337 => ?_)
                  · exact absurd c337 (by omega)
                  · refine q_ald_n cx dX12_runs_113 rfl (lv_at hl 1 rfl) ?_
                    refine q_gX12_63 cx hB hmo kmo z324 dX12_runs_114 (fun hb338 kb338 => ?_)
                    refine q_ild_n cx dX12_runs_117 rfl (lv_at hl 3 rfl) ?_
                    refine q_iconst cx dX12_runs_118 ?_
                    refine q_isub cx dX12_runs_119 ?_
                    obtain ⟨x339, ex339⟩ : ∃ zz, q_is (q_z f310 bg (Int.toNat (v9_2 - 1))) zz := ⟨_, q_isr _⟩
                    refine q_iald (lo := (-2147483648)) (hi := 2147483647) (n := 2) cx hB hbg kbg (by decide) rfl rfl (by omega) (by omega) (by decide) rfl ex339 dX12_runs_120 (fun lb340 ub340 => ?_)
                    have hb8 : 0 ≤ x339 ∧ x339 ≤ 59 := q_isb ex339 hb9
                    refine q_iconst cx dX12_runs_121 ?_
                    refine q_iadd cx dX12_runs_122 ?_
                    refine lv_goto (tgt := 129) cx.1 cx.2.1 dX12_runs_123 (by decide) ?_
                    refine lv_istore_n (lv' := [(3, .int (q_i (x339 + 1))), (5, .int (q_i 1)), (0, .ref mo), (1, .int (q_i v9_1)), (2, .int (q_i v9_2)), (4, .int (q_i v9_4))]) cx.1 cx.2.1 dX12_runs_129 rfl hl (by decide) rfl (fun ls hl => ?_)
                    refine q_ild_n cx dX12_runs_130 rfl (lv_at hl 4 rfl) ?_
                    refine lv_iload cx.1 cx.2.1 dX12_runs_131 (lv_at hl 1 rfl) ?_
                    refine q_ifne (tgt := 140) cx ⟨by decide, by decide⟩ dX12_runs_133 (by decide) (fun c341 => ?_) (fun c341 => ?_)
                    · refine q_iconst cx dX12_runs_140 ?_
                      refine q_cSi (As := [.int (q_i 0)]) (rest := [.int (q_i v9_2)]) cx hB (fun _ h => h) hN (r_truth0 l g hN hB.2.1 0 (by decide) (by decide)) q_cX12_78 q_dX12_truth (by decide) rfl rfl hl.1 rfl (Nat.le_of_ble_eq_true rfl) dX12_runs_141 (fun y343 H locs f342 ry343 h344 hF hB => ?_)
                      obtain ⟨rfl, qy343⟩ := h344
                      subst qy343
                      refine q_isub cx dX12_runs_144 ?_
                      refine lv_istore_n (lv' := [(2, .int (q_i (v9_2 - 0))), (3, .int (q_i (x339 + 1))), (5, .int (q_i 1)), (0, .ref mo), (1, .int (q_i v9_1)), (4, .int (q_i v9_4))]) cx.1 cx.2.1 dX12_runs_145 rfl hl (by decide) rfl (fun ls hl => ?_)
                      obtain ⟨hr9, hm9⟩ := k_rn_mv ex339 (hma (by omega)) (show (v9_2 - 0) = v9_2 by omega)
                      refine lv_goto (tgt := 9) cx.1 cx.2.1 dX12_runs_146 (by decide) ?_
                      exact ih9 f310 v9_1 (by omega) (by omega) (v9_2 - 0) (by omega) (by omega) (x339 + 1) (by omega) (by omega) v9_4 (by omega) (by omega) w9_sr_3 (by omega) (by omega) w9_sr_4 (by omega) (by omega) z312 z313 z314 z315 z317 z318 z319 z320 z321 z322 z323 z324 z325 g326 g327 hr9 (by omega) H locs hB ls (lv_sub hl [3, 4, 0, 1, 5] rfl)
                    · exact absurd c341 (by omega)
            · have hi9 := k_rn_i1 hrn hsc9 hj_mo_35 (by omega) (Eq.trans ex264 (by omega))
              have hi8 : v9_2 ≤ 1 := hi9.1
              refine q_ald_n cx dX12_runs_39 rfl (lv_at hl 0 rfl) ?_
              refine q_gX12_63 cx hB hmo kmo hq_mo_33 dX12_runs_40 (fun hb345 kb345 => ?_)
              refine q_ild_n cx dX12_runs_43 rfl (lv_at hl 2 rfl) ?_
              refine q_ild_n cx dX12_runs_44 rfl (lv_at hl 3 rfl) ?_
              refine q_iast (lo := (-2147483648)) (hi := 2147483647) (n := 2) cx hB hbg kbg (by decide) rfl rfl (by omega) (by omega) (by decide) rfl ⟨by omega, by omega⟩ (by omega) (by omega) (q_inWi (lo := 0) (hi := 1) (by decide) (by omega) (by omega)) dX12_runs_45 (fun H locs f346 ef346 z347 hB => ?_)
              have z348 : q_is (q_z f346 sr 0) xc := by rw [ef346, q_setz (Or.inl (fun q => by rw [q, kbg] at ksr; exact absurd ksr (by decide)))]; exact hj_sr_0
              have z349 : q_is (q_z f346 mo 35) xn := by rw [ef346, q_setz (Or.inl (fun q => by rw [q, kbg] at kmo; exact absurd kmo (by decide)))]; exact hj_mo_35
              have z350 : q_is (q_z f346 sr 3) w9_sr_3 := by rw [ef346, q_setz (Or.inl (fun q => by rw [q, kbg] at ksr; exact absurd ksr (by decide)))]; exact hj_sr_3
              have z351 : q_is (q_z f346 sr 4) w9_sr_4 := by rw [ef346, q_setz (Or.inl (fun q => by rw [q, kbg] at ksr; exact absurd ksr (by decide)))]; exact hj_sr_4
              have z352 : q_is (q_z f346 cs (Int.toNat v9_3)) x264 := by rw [ef346, q_setz (Or.inl (fun q => by rw [q, kbg] at kcs; exact absurd kcs (by decide)))]; exact ex264
              have z353 : q_ir (q_r f346 mo 13) sr := by rw [ef346, q_setr (Or.inl (fun q => by rw [q, kbg] at kmo; exact absurd kmo (by decide)))]; exact hq_mo_13
              have z354 : q_ir (q_r f346 mo 24) hp := by rw [ef346, q_setr (Or.inl (fun q => by rw [q, kbg] at kmo; exact absurd kmo (by decide)))]; exact hq_mo_24
              have z355 : q_ir (q_r f346 mo 25) dy := by rw [ef346, q_setr (Or.inl (fun q => by rw [q, kbg] at kmo; exact absurd kmo (by decide)))]; exact hq_mo_25
              have z356 : q_ir (q_r f346 mo 29) cs := by rw [ef346, q_setr (Or.inl (fun q => by rw [q, kbg] at kmo; exact absurd kmo (by decide)))]; exact hq_mo_29
              have z357 : q_ir (q_r f346 mo 30) c1 := by rw [ef346, q_setr (Or.inl (fun q => by rw [q, kbg] at kmo; exact absurd kmo (by decide)))]; exact hq_mo_30
              have z358 : q_ir (q_r f346 mo 31) c2 := by rw [ef346, q_setr (Or.inl (fun q => by rw [q, kbg] at kmo; exact absurd kmo (by decide)))]; exact hq_mo_31
              have z359 : q_ir (q_r f346 mo 32) c3 := by rw [ef346, q_setr (Or.inl (fun q => by rw [q, kbg] at kmo; exact absurd kmo (by decide)))]; exact hq_mo_32
              have z360 : q_ir (q_r f346 mo 33) bg := by rw [ef346, q_setr (Or.inl (fun q => by rw [q, kbg] at kmo; exact absurd kmo (by decide)))]; exact hq_mo_33
              have z361 : q_ir (q_r f346 mo 34) lp := by rw [ef346, q_setr (Or.inl (fun q => by rw [q, kbg] at kmo; exact absurd kmo (by decide)))]; exact hq_mo_34
              have g362 : q_gr f346 sr := q_gr_ne hgr9 ef346 (fun q => q_kne (k := 151) (k2 := 165) (by decide) ksr kbg q)
              have g363 : q_sc f346 mo cs c1 c2 := q_sc_tr hsc9 (by rw [ef346, q_setz (Or.inl (fun q => by rw [q, kbg] at kmo; exact absurd kmo (by decide)))]) (by rw [ef346, q_setz (Or.inl (fun q => by rw [q, kbg] at kmo; exact absurd kmo (by decide)))]) (by rw [ef346, q_setz (Or.inl (fun q => by rw [q, kbg] at kmo; exact absurd kmo (by decide)))]) (fun i9 => by rw [ef346, q_setz (Or.inl (fun q => by rw [q, kbg] at kcs; exact absurd kcs (by decide)))]) (fun i9 => by rw [ef346, q_setz (Or.inl (fun q => by rw [q, kbg] at kc1; exact absurd kc1 (by decide)))]) (fun i9 => by rw [ef346, q_setz (Or.inl (fun q => by rw [q, kbg] at kc2; exact absurd kc2 (by decide)))])
              refine q_ald_n cx dX12_runs_46 rfl (lv_at hl 0 rfl) ?_
              refine q_gX12_66 cx hB hmo kmo z361 dX12_runs_47 (fun hb364 kb364 => ?_)
              refine q_ild_n cx dX12_runs_50 rfl (lv_at hl 2 rfl) ?_
              refine q_ald_n cx dX12_runs_51 rfl (lv_at hl 0 rfl) ?_
              refine q_gX12_54 cx hB hmo kmo z357 dX12_runs_52 (fun hb365 kb365 => ?_)
              refine q_ild_n cx dX12_runs_55 rfl (lv_at hl 3 rfl) ?_
              obtain ⟨x366, ex366⟩ : ∃ zz, q_is (q_z f346 c1 (Int.toNat v9_3)) zz := ⟨_, q_isr _⟩
              refine q_iald (lo := (-2147483648)) (hi := 2147483647) (n := 60) cx hB hc1 kc1 (by decide) rfl rfl (by omega) (by omega) (by decide) rfl ex366 dX12_runs_56 (fun lb367 ub367 => ?_)
              refine q_iast (lo := (-2147483648)) (hi := 2147483647) (n := 2) cx hB hlp klp (by decide) rfl rfl (by omega) (by omega) (by decide) rfl ⟨by omega, by omega⟩ (by omega) (by omega) (q_inWi (lo := 0) (hi := 1) (by decide) (by omega) (by omega)) dX12_runs_57 (fun H locs f368 ef368 z369 hB => ?_)
              have z370 : q_is (q_z f368 sr 0) xc := by rw [ef368, q_setz (Or.inl (fun q => by rw [q, klp] at ksr; exact absurd ksr (by decide)))]; exact z348
              have z371 : q_is (q_z f368 mo 35) xn := by rw [ef368, q_setz (Or.inl (fun q => by rw [q, klp] at kmo; exact absurd kmo (by decide)))]; exact z349
              have z372 : q_is (q_z f368 sr 3) w9_sr_3 := by rw [ef368, q_setz (Or.inl (fun q => by rw [q, klp] at ksr; exact absurd ksr (by decide)))]; exact z350
              have z373 : q_is (q_z f368 sr 4) w9_sr_4 := by rw [ef368, q_setz (Or.inl (fun q => by rw [q, klp] at ksr; exact absurd ksr (by decide)))]; exact z351
              have z374 : q_is (q_z f368 cs (Int.toNat v9_3)) x264 := by rw [ef368, q_setz (Or.inl (fun q => by rw [q, klp] at kcs; exact absurd kcs (by decide)))]; exact z352
              have z375 : q_is (q_z f368 bg (Int.toNat v9_2)) v9_3 := by rw [ef368, q_setz (Or.inl (fun q => by rw [q, klp] at kbg; exact absurd kbg (by decide)))]; exact z347
              have z376 : q_is (q_z f368 c1 (Int.toNat v9_3)) x366 := by rw [ef368, q_setz (Or.inl (fun q => by rw [q, klp] at kc1; exact absurd kc1 (by decide)))]; exact ex366
              have z377 : q_ir (q_r f368 mo 13) sr := by rw [ef368, q_setr (Or.inl (fun q => by rw [q, klp] at kmo; exact absurd kmo (by decide)))]; exact z353
              have z378 : q_ir (q_r f368 mo 24) hp := by rw [ef368, q_setr (Or.inl (fun q => by rw [q, klp] at kmo; exact absurd kmo (by decide)))]; exact z354
              have z379 : q_ir (q_r f368 mo 25) dy := by rw [ef368, q_setr (Or.inl (fun q => by rw [q, klp] at kmo; exact absurd kmo (by decide)))]; exact z355
              have z380 : q_ir (q_r f368 mo 29) cs := by rw [ef368, q_setr (Or.inl (fun q => by rw [q, klp] at kmo; exact absurd kmo (by decide)))]; exact z356
              have z381 : q_ir (q_r f368 mo 30) c1 := by rw [ef368, q_setr (Or.inl (fun q => by rw [q, klp] at kmo; exact absurd kmo (by decide)))]; exact z357
              have z382 : q_ir (q_r f368 mo 31) c2 := by rw [ef368, q_setr (Or.inl (fun q => by rw [q, klp] at kmo; exact absurd kmo (by decide)))]; exact z358
              have z383 : q_ir (q_r f368 mo 32) c3 := by rw [ef368, q_setr (Or.inl (fun q => by rw [q, klp] at kmo; exact absurd kmo (by decide)))]; exact z359
              have z384 : q_ir (q_r f368 mo 33) bg := by rw [ef368, q_setr (Or.inl (fun q => by rw [q, klp] at kmo; exact absurd kmo (by decide)))]; exact z360
              have z385 : q_ir (q_r f368 mo 34) lp := by rw [ef368, q_setr (Or.inl (fun q => by rw [q, klp] at kmo; exact absurd kmo (by decide)))]; exact z361
              have g386 : q_gr f368 sr := q_gr_ne g362 ef368 (fun q => q_kne (k := 151) (k2 := 166) (by decide) ksr klp q)
              have g387 : q_sc f368 mo cs c1 c2 := q_sc_tr g363 (by rw [ef368, q_setz (Or.inl (fun q => by rw [q, klp] at kmo; exact absurd kmo (by decide)))]) (by rw [ef368, q_setz (Or.inl (fun q => by rw [q, klp] at kmo; exact absurd kmo (by decide)))]) (by rw [ef368, q_setz (Or.inl (fun q => by rw [q, klp] at kmo; exact absurd kmo (by decide)))]) (fun i9 => by rw [ef368, q_setz (Or.inl (fun q => by rw [q, klp] at kcs; exact absurd kcs (by decide)))]) (fun i9 => by rw [ef368, q_setz (Or.inl (fun q => by rw [q, klp] at kc1; exact absurd kc1 (by decide)))]) (fun i9 => by rw [ef368, q_setz (Or.inl (fun q => by rw [q, klp] at kc2; exact absurd kc2 (by decide)))])
              have hx9 : 1 ≤ x366 ∧ x366 ≤ 20 := by have h7 := hi9.2; have h70 : q_z f9 c1 (Int.toNat v9_3) = x366 := (Eq.trans (Eq.symm (show q_z f346 c1 (Int.toNat v9_3) = q_z f9 c1 (Int.toNat v9_3) by rw [ef346, q_setz (Or.inl (fun q => q_kne (k := 162) (k2 := 165) (by decide) kc1 kbg q))])) ex366); omega
              obtain ⟨hr9, hm9⟩ := k_rn_rep (f1 := f346) hrn (by omega) (by omega) (Eq.trans ex264 (by omega)) (by omega) hx9 ef346 z347 ef368 z369 (fun q => q_kne (k := 161) (k2 := 165) (by decide) kcs kbg q) (fun q => q_kne (k := 161) (k2 := 166) (by decide) kcs klp q) (fun q => q_kne (k := 165) (k2 := 166) (by decide) kbg klp q)
              refine q_iinc (lv' := [(2, .int (q_i (v9_2 + 1))), (0, .ref mo), (1, .int (q_i v9_1)), (3, .int (q_i v9_3)), (4, .int (q_i v9_4))]) cx dX12_runs_58 hl (k := 2) rfl (by decide) rfl (fun ls hl => ?_)
              refine q_iinc (lv' := [(3, .int (q_i (v9_3 + 1))), (2, .int (q_i (v9_2 + 1))), (0, .ref mo), (1, .int (q_i v9_1)), (4, .int (q_i v9_4))]) cx dX12_runs_61 hl (k := 3) rfl (by decide) rfl (fun ls hl => ?_)
              refine lv_goto (tgt := 9) cx.1 cx.2.1 dX12_runs_64 (by decide) ?_
              exact ih9 f368 v9_1 (by omega) (by omega) (v9_2 + 1) (by omega) (by omega) (v9_3 + 1) (by omega) (by omega) v9_4 (by omega) (by omega) w9_sr_3 (by omega) (by omega) w9_sr_4 (by omega) (by omega) z370 z371 z372 z373 z377 z378 z379 z380 z381 z382 z383 z384 z385 g386 g387 hr9 (by omega) H locs hB ls (lv_sub hl [2, 3, 1, 0, 4] rfl)
  obtain ⟨H, hH⟩ : ∃ H : Heap, H = s.heap := ⟨_, rfl⟩
  obtain ⟨locs, hlocs⟩ : ∃ z : List Loc, z = [] := ⟨_, rfl⟩
  rw [← hH, ← hlocs] at hB
  rw [← hH, ← hlocs]
  refine q_iconst cx dX12_runs_0 ?_
  refine lv_istore_n (lv' := [(1, .int (q_i 0)), (0, .ref mo)]) cx.1 cx.2.1 dX12_runs_1 rfl hl (by decide) rfl (fun ls hl => ?_)
  refine q_iconst cx dX12_runs_2 ?_
  refine lv_istore_n (lv' := [(2, .int (q_i 0)), (1, .int (q_i 0)), (0, .ref mo)]) cx.1 cx.2.1 dX12_runs_3 rfl hl (by decide) rfl (fun ls hl => ?_)
  refine q_iconst cx dX12_runs_4 ?_
  refine lv_istore_n (lv' := [(3, .int (q_i 0)), (2, .int (q_i 0)), (1, .int (q_i 0)), (0, .ref mo)]) cx.1 cx.2.1 dX12_runs_5 rfl hl (by decide) rfl (fun ls hl => ?_)
  refine q_iconst cx dX12_runs_6 ?_
  refine lv_istore (lv' := [(4, .int (q_i 1)), (3, .int (q_i 0)), (2, .int (q_i 0)), (1, .int (q_i 0)), (0, .ref mo)]) cx.1 cx.2.1 dX12_runs_7 hl (by decide) rfl (fun ls hl => ?_)
  exact J9 ((k_mu f bg lp 0 0) + 1) f 0 (by decide) (by decide) 0 (by decide) (by decide) 0 (by decide) (by decide) 1 (by decide) (by decide) xt (by omega) (by omega) xm (by omega) (by omega) hf2 hf3 hf0 hf1 hr0 hr1 hr2 hr3 hr4 hr5 hr6 hr7 hr8 hgr hsc (k_rn0 (by omega)) (Nat.lt_succ_self _) H locs hB ls (lv_sub hl [4, 3, 2, 1, 0] rfl)
