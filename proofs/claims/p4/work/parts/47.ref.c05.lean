set_option maxHeartbeats 4000000 in
set_option maxRecDepth 100000 in
theorem r_runs (l : Launch) (g : q_G) {K : Nat → Nat} {L : List Nat} (hN : L.Nodup) {f : Nat → va_E} (hT : q_Ty g K L f) (mo : Nat) (hmo : mo ∈ L) (kmo : K mo = 12) (sr : Nat) (hsr : sr ∈ L) (ksr : K sr = 151) (hp : Nat) (hhp : hp ∈ L) (khp : K hp = 159) (dy : Nat) (hdy : dy ∈ L) (kdy : K dy = 160) (cs : Nat) (hcs : cs ∈ L) (kcs : K cs = 161) (c1 : Nat) (hc1 : c1 ∈ L) (kc1 : K c1 = 162) (c2 : Nat) (hc2 : c2 ∈ L) (kc2 : K c2 = 163) (c3 : Nat) (hc3 : c3 ∈ L) (kc3 : K c3 = 164) (bg : Nat) (hbg : bg ∈ L) (kbg : K bg = 165) (lp : Nat) (hlp : lp ∈ L) (klp : K lp = 166) (xt : Int) (lxt : 0 ≤ xt) (uxt : xt ≤ 9999) (xm : Int) (lxm : 0 ≤ xm) (uxm : xm ≤ 60) (xn : Int) (lxn : 0 ≤ xn) (uxn : xn ≤ 60) (hf0 : q_is (q_z f sr 3) xt) (hf1 : q_is (q_z f sr 4) xm) (hf2 : q_is (q_z f mo 35) xn) (hr0 : q_ir (q_r f mo 13) sr) (hr1 : q_ir (q_r f mo 24) hp) (hr2 : q_ir (q_r f mo 25) dy) (hr3 : q_ir (q_r f mo 29) cs) (hr4 : q_ir (q_r f mo 30) c1) (hr5 : q_ir (q_r f mo 31) c2) (hr6 : q_ir (q_r f mo 32) c3) (hr7 : q_ir (q_r f mo 33) bg) (hr8 : q_ir (q_r f mo 34) lp) (hgr : q_gr f sr) (hsc : q_sc f mo cs c1 c2) : q_Ct l g K L yX12_runs cX12_runs 6 (some .int) 11 251 [.ref mo] f [(12, 26, 28), (151, 3, 4), (151, 9, 9), (151, 11, 89), (151, 92, 657), (159, 0, 9), (160, 0, 9), (165, 0, 1), (166, 0, 1)] (q_Pi (fun (z : Int) (f1 : Nat → va_E) => 0 ≤ z ∧ z ≤ 40 ∧ 0 ≤ q_z f1 sr 3 ∧ q_z f1 sr 3 ≤ 9999 ∧ 0 ≤ q_z f1 sr 4 ∧ q_z f1 sr 4 ≤ 60 ∧ q_gr f1 sr)) := by
  refine q_ofb (by decide +kernel) hN hT (Nat.le_of_ble_eq_true rfl) ?_
  intro p e s m below meth c ls cx hr hlk hB hl
  have hl : lv_has ls 6 [(0, .ref mo)] := hl
  have J9 : ∀ (n : Nat) (f9 : Nat → va_E) (v9_1 : Int) (lv9_1 : 0 ≤ v9_1) (uv9_1 : v9_1 ≤ 40) (v9_2 : Int) (lv9_2 : 0 ≤ v9_2) (uv9_2 : v9_2 ≤ 2) (v9_3 : Int) (lv9_3 : 0 ≤ v9_3) (uv9_3 : v9_3 ≤ 60) (v9_4 : Int) (lv9_4 : 0 ≤ v9_4) (uv9_4 : v9_4 ≤ 1) (w9_sr_3 : Int) (lw9_sr_3 : 0 ≤ w9_sr_3) (uw9_sr_3 : w9_sr_3 ≤ 9999) (w9_sr_4 : Int) (lw9_sr_4 : 0 ≤ w9_sr_4) (uw9_sr_4 : w9_sr_4 ≤ 60) (hj_mo_35 : q_is (q_z f9 mo 35) xn) (hj_sr_3 : q_is (q_z f9 sr 3) w9_sr_3) (hj_sr_4 : q_is (q_z f9 sr 4) w9_sr_4) (hq_mo_13 : q_ir (q_r f9 mo 13) sr) (hq_mo_24 : q_ir (q_r f9 mo 24) hp) (hq_mo_25 : q_ir (q_r f9 mo 25) dy) (hq_mo_29 : q_ir (q_r f9 mo 29) cs) (hq_mo_30 : q_ir (q_r f9 mo 30) c1) (hq_mo_31 : q_ir (q_r f9 mo 31) c2) (hq_mo_32 : q_ir (q_r f9 mo 32) c3) (hq_mo_33 : q_ir (q_r f9 mo 33) bg) (hq_mo_34 : q_ir (q_r f9 mo 34) lp) (hgr9 : q_gr f9 sr) (hsc9 : q_sc f9 mo cs c1 c2) (hrn : k_rn f9 cs bg lp xn v9_2 v9_3) (hmu : (k_mu f9 bg lp v9_2 v9_3) < n) (H : Heap) (locs : List Loc) (hB : q_B g K L (fun q => q ∈ L) [(12, 26, 28), (151, 3, 4), (151, 9, 9), (151, 11, 89), (151, 92, 657), (159, 0, 9), (160, 0, 9), (165, 0, 1), (166, 0, 1)] f f9 s H locs) (ls : Array Slot) (hl : lv_has ls 6 [(0, .ref mo), (1, .int (q_i v9_1)), (2, .int (q_i v9_2)), (3, .int (q_i v9_3)), (4, .int (q_i v9_4))]), W p l e { frames := 11, cells := 0, slots := 0, locals := 251 } s m ([.ref mo] : List Value).toArray below meth c H locs 0 0 (MQ below (q_Q g K L [(12, 26, 28), (151, 3, 4), (151, 9, 9), (151, 11, 89), (151, 92, 657), (159, 0, 9), (160, 0, 9), (165, 0, 1), (166, 0, 1)] f (q_Pi (fun (z : Int) (f1 : Nat → va_E) => 0 ≤ z ∧ z ≤ 40 ∧ 0 ≤ q_z f1 sr 3 ∧ q_z f1 sr 3 ≤ 9999 ∧ 0 ≤ q_z f1 sr 4 ∧ q_z f1 sr 4 ≤ 60 ∧ q_gr f1 sr))) ([.ref mo] : List Value).toArray s 0 0 (fun q => q ∈ L)) (F0 m 9 ls []) := by
    intro n
    induction n with
    | zero =>
      intro f9 v9_1 lv9_1 uv9_1 v9_2 lv9_2 uv9_2 v9_3 lv9_3 uv9_3 v9_4 lv9_4 uv9_4 w9_sr_3 lw9_sr_3 uw9_sr_3 w9_sr_4 lw9_sr_4 uw9_sr_4 hj_mo_35 hj_sr_3 hj_sr_4 hq_mo_13 hq_mo_24 hq_mo_25 hq_mo_29 hq_mo_30 hq_mo_31 hq_mo_32 hq_mo_33 hq_mo_34 hgr9 hsc9 hrn hmu
      exact absurd hmu (Nat.not_lt_zero _)
    | succ n ih9 =>
      intro f9 v9_1 lv9_1 uv9_1 v9_2 lv9_2 uv9_2 v9_3 lv9_3 uv9_3 v9_4 lv9_4 uv9_4 w9_sr_3 lw9_sr_3 uw9_sr_3 w9_sr_4 lw9_sr_4 uw9_sr_4 hj_mo_35 hj_sr_3 hj_sr_4 hq_mo_13 hq_mo_24 hq_mo_25 hq_mo_29 hq_mo_30 hq_mo_31 hq_mo_32 hq_mo_33 hq_mo_34 hgr9 hsc9 hrn hmu H locs hB ls hl
      refine lv_iload cx.1 cx.2.1 dX12_runs_9 (lv_at hl 4 rfl) ?_
      refine q_ifeq (tgt := 186) cx ⟨by omega, by omega⟩ dX12_runs_11 (by decide) (fun c249 => ?_) (fun c249 => ?_)
      · refine q_ild_n cx dX12_runs_186 rfl (lv_at hl 1 rfl) ?_
        refine q_iret cx hr hlk hB dX12_runs_187 ⟨by omega, by omega⟩ ?_
        exact ⟨(by omega), (by omega), (q_isl hj_sr_3 (by omega)), (q_isu hj_sr_3 (by omega)), (q_isl hj_sr_4 (by omega)), (q_isu hj_sr_4 (by omega)), hgr9⟩
      · refine q_ild_n cx dX12_runs_14 rfl (lv_at hl 3 rfl) ?_
        refine q_ald_n cx dX12_runs_15 rfl (lv_at hl 0 rfl) ?_
        refine q_gX12_494 cx hB hmo kmo hj_mo_35 dX12_runs_16 (fun lb250 ub250 => ?_)
        refine q_icge (tgt := 186) cx ⟨by omega, by omega⟩ ⟨by omega, by omega⟩ dX12_runs_19 (by decide) (fun c251 => ?_) (fun c251 => ?_)
        · refine q_ild_n cx dX12_runs_186 rfl (lv_at hl 1 rfl) ?_
          refine q_iret cx hr hlk hB dX12_runs_187 ⟨by omega, by omega⟩ ?_
          exact ⟨(by omega), (by omega), (q_isl hj_sr_3 (by omega)), (q_isu hj_sr_3 (by omega)), (q_isl hj_sr_4 (by omega)), (q_isu hj_sr_4 (by omega)), hgr9⟩
        · refine q_ild_n cx dX12_runs_22 rfl (lv_at hl 1 rfl) ?_
          refine q_bipush cx dX12_runs_23 rfl ?_
          refine q_icge (tgt := 186) cx ⟨by omega, by omega⟩ ⟨by decide, by decide⟩ dX12_runs_25 (by decide) (fun c252 => ?_) (fun c252 => ?_)
          · refine q_ild_n cx dX12_runs_186 rfl (lv_at hl 1 rfl) ?_
            refine q_iret cx hr hlk hB dX12_runs_187 ⟨by omega, by omega⟩ ?_
            exact ⟨(by omega), (by omega), (q_isl hj_sr_3 (by omega)), (q_isu hj_sr_3 (by omega)), (q_isl hj_sr_4 (by omega)), (q_isu hj_sr_4 (by omega)), hgr9⟩
          · refine q_ald_n cx dX12_runs_28 rfl (lv_at hl 0 rfl) ?_
            refine q_gX12_51 cx hB hmo kmo hq_mo_29 dX12_runs_29 (fun hb253 kb253 => ?_)
            refine q_ild_n cx dX12_runs_32 rfl (lv_at hl 3 rfl) ?_
            obtain ⟨x254, ex254⟩ : ∃ zz, q_is (q_z f9 cs (Int.toNat v9_3)) zz := ⟨_, q_isr _⟩
            refine q_iald (lo := 0) (hi := 7) (n := 60) cx hB hcs kcs (by decide) rfl rfl (by omega) (by omega) (by decide) rfl ex254 dX12_runs_33 (fun lb255 ub255 => ?_)
            refine q_bipush cx dX12_runs_34 rfl ?_
            refine q_icne (tgt := 67) cx ⟨by omega, by omega⟩ ⟨by decide, by decide⟩ dX12_runs_36 (by decide) (fun c256 => ?_) (fun c256 => ?_)
            · refine q_ald_n cx dX12_runs_67 rfl (lv_at hl 0 rfl) ?_
              refine q_gX12_51 cx hB hmo kmo hq_mo_29 dX12_runs_68 (fun hb257 kb257 => ?_)
              refine q_ild_n cx dX12_runs_71 rfl (lv_at hl 3 rfl) ?_
              refine q_iald (lo := 0) (hi := 7) (n := 60) cx hB hcs kcs (by decide) rfl rfl (by omega) (by omega) (by decide) rfl ex254 dX12_runs_72 (fun lb259 ub259 => ?_)
              refine q_bipush cx dX12_runs_73 rfl ?_
              refine q_icne (tgt := 149) cx ⟨by omega, by omega⟩ ⟨by decide, by decide⟩ dX12_runs_75 (by decide) (fun c260 => ?_) (fun c260 => ?_)
              · refine q_ald_n cx dX12_runs_149 rfl (lv_at hl 0 rfl) ?_
                refine q_ild_n cx dX12_runs_150 rfl (lv_at hl 3 rfl) ?_
                refine q_cVi (As := [.int (q_i v9_3)]) (rest := []) cx hB (fun _ h => h) hN hmo kmo (by decide) rfl (r_may l g hN hB.2.1 mo hmo kmo v9_3 (by omega) (by omega) sr hsr ksr cs hcs kcs c1 hc1 kc1 c2 hc2 kc2 c3 hc3 kc3 w9_sr_3 (by omega) (by omega) w9_sr_4 (by omega) (by omega) hj_sr_3 hj_sr_4 hq_mo_13 hq_mo_29 hq_mo_30 hq_mo_31 hq_mo_32 (hsc9.1 (Int.toNat v9_3) (by have h75 : _ = _ := hj_mo_35; omega)) (q_isu ex254 (by omega)) hgr9) q_cX12_509 q_dX12_may (by decide) rfl rfl hl.1 rfl (Nat.le_of_ble_eq_true rfl) dX12_runs_151 (fun y262 H locs f261 ry262 h263 hF hB => ?_)
                rcases h263 with h264 | h265
                · obtain ⟨rfl, qy262, t266⟩ := h264
                  subst qy262
                  refine lv_istore (lv' := [(4, .int (q_i 1)), (0, .ref mo), (1, .int (q_i v9_1)), (2, .int (q_i v9_2)), (3, .int (q_i v9_3))]) cx.1 cx.2.1 dX12_runs_154 hl (by decide) rfl (fun ls hl => ?_)
                  refine lv_iload cx.1 cx.2.1 dX12_runs_156 (lv_at hl 0 rfl) ?_
                  refine q_ifeq (tgt := 169) cx ⟨by decide, by decide⟩ dX12_runs_158 (by decide) (fun c267 => ?_) (fun c267 => ?_)
                  · exact absurd c267 (by omega)
                  · refine q_ald_n cx dX12_runs_161 rfl (lv_at hl 1 rfl) ?_
                    refine q_ild_n cx dX12_runs_162 rfl (lv_at hl 4 rfl) ?_
                    refine q_cVi (As := [.int (q_i v9_3)]) (rest := []) cx hB (fun _ h => h) hN hmo kmo (by decide) rfl (r_does l g hN hB.2.1 mo hmo kmo v9_3 (by omega) (by omega) sr hsr ksr hp hhp khp dy hdy kdy cs hcs kcs c1 hc1 kc1 c2 hc2 kc2 c3 hc3 kc3 w9_sr_3 (by omega) (by omega) w9_sr_4 (by omega) (by omega) hj_sr_3 hj_sr_4 hq_mo_13 hq_mo_24 hq_mo_25 hq_mo_29 hq_mo_30 hq_mo_31 hq_mo_32 (hsc9.1 (Int.toNat v9_3) (by have h75 : _ = _ := hj_mo_35; omega)) (q_isu ex254 (by omega)) t266 hgr9) q_cX12_512 q_dX12_does (by decide) rfl rfl hl.1 rfl (Nat.le_of_ble_eq_true rfl) dX12_runs_163 (fun y269 H locs f268 ry269 h270 hF hB => ?_)
                    obtain ⟨lz271, uz271, lz272, uz272, g273⟩ := h270
                    have z274 : q_is (q_z f268 mo 35) xn := Eq.trans (hF.z hmo (by rw [kmo]; rfl)) hj_mo_35
                    have z275 : q_is (q_z f268 cs (Int.toNat v9_3)) x254 := Eq.trans (hF.z hcs (by rw [kcs]; rfl)) ex254
                    have z276 : q_ir (q_r f268 mo 13) sr := Eq.trans (hF.r hmo (by rw [kmo]; rfl)) hq_mo_13
                    have z277 : q_ir (q_r f268 mo 24) hp := Eq.trans (hF.r hmo (by rw [kmo]; rfl)) hq_mo_24
                    have z278 : q_ir (q_r f268 mo 25) dy := Eq.trans (hF.r hmo (by rw [kmo]; rfl)) hq_mo_25
                    have z279 : q_ir (q_r f268 mo 29) cs := Eq.trans (hF.r hmo (by rw [kmo]; rfl)) hq_mo_29
                    have z280 : q_ir (q_r f268 mo 30) c1 := Eq.trans (hF.r hmo (by rw [kmo]; rfl)) hq_mo_30
                    have z281 : q_ir (q_r f268 mo 31) c2 := Eq.trans (hF.r hmo (by rw [kmo]; rfl)) hq_mo_31
                    have z282 : q_ir (q_r f268 mo 32) c3 := Eq.trans (hF.r hmo (by rw [kmo]; rfl)) hq_mo_32
                    have z283 : q_ir (q_r f268 mo 33) bg := Eq.trans (hF.r hmo (by rw [kmo]; rfl)) hq_mo_33
                    have z284 : q_ir (q_r f268 mo 34) lp := Eq.trans (hF.r hmo (by rw [kmo]; rfl)) hq_mo_34
                    have g285 : q_sc f268 mo cs c1 c2 := q_sc_tr hsc9 (hF.z hmo (by rw [kmo]; rfl)) (hF.z hmo (by rw [kmo]; rfl)) (hF.z hmo (by rw [kmo]; rfl)) (fun i9 => hF.z hcs (by rw [kcs]; rfl)) (fun i9 => hF.z hc1 (by rw [kc1]; rfl)) (fun i9 => hF.z hc2 (by rw [kc2]; rfl))
                    obtain ⟨x286, ex286⟩ : ∃ zz, q_is (q_z f268 sr 3) zz := ⟨_, q_isr _⟩
                    obtain ⟨lx286, ux286⟩ := q_isb ex286 ⟨lz271, uz271⟩
                    obtain ⟨x287, ex287⟩ : ∃ zz, q_is (q_z f268 sr 4) zz := ⟨_, q_isr _⟩
                    obtain ⟨lx287, ux287⟩ := q_isb ex287 ⟨lz272, uz272⟩
                    have hF9 := hF
                    refine lv_goto (tgt := 170) cx.1 cx.2.1 dX12_runs_166 (by decide) ?_
                    refine lv_istore (lv' := [(5, .int (q_i y269)), (4, .int (q_i 1)), (0, .ref mo), (1, .int (q_i v9_1)), (2, .int (q_i v9_2)), (3, .int (q_i v9_3))]) cx.1 cx.2.1 dX12_runs_170 hl (by decide) rfl (fun ls hl => ?_)
                    refine q_ild_n cx dX12_runs_172 rfl (lv_at hl 3 rfl) ?_
                    refine lv_iload cx.1 cx.2.1 dX12_runs_173 (lv_at hl 1 rfl) ?_
                    refine q_cSi (As := [.int (q_i 1)]) (rest := [.int (q_i v9_1)]) cx hB (fun _ h => h) hN (r_truth1 l g hN hB.2.1 1 (by decide) (by decide)) q_cX12_78 q_dX12_truth (by decide) rfl rfl hl.1 rfl (Nat.le_of_ble_eq_true rfl) dX12_runs_175 (fun y289 H locs f288 ry289 h290 hF hB => ?_)
                    obtain ⟨rfl, qy289⟩ := h290
                    subst qy289
                    refine q_iadd cx dX12_runs_178 ?_
                    refine lv_istore_n (lv' := [(1, .int (q_i (v9_1 + 1))), (5, .int (q_i y269)), (4, .int (q_i 1)), (0, .ref mo), (2, .int (q_i v9_2)), (3, .int (q_i v9_3))]) cx.1 cx.2.1 dX12_runs_179 rfl hl (by decide) rfl (fun ls hl => ?_)
                    obtain ⟨hr9, hm9⟩ := k_rn_oth (f1 := f268) hrn (by omega) (by omega) (q_isu ex254 (by omega)) (fun j => (hF9.z hcs (by rw [kcs]; rfl))) (fun j => (hF9.z hbg (by rw [kbg]; rfl))) (fun j => (hF9.z hlp (by rw [klp]; rfl)))
                    refine q_iinc (lv' := [(3, .int (q_i (v9_3 + 1))), (1, .int (q_i (v9_1 + 1))), (5, .int (q_i y269)), (4, .int (q_i 1)), (0, .ref mo), (2, .int (q_i v9_2))]) cx dX12_runs_180 hl (k := 5) rfl (by decide) rfl (fun ls hl => ?_)
                    refine lv_goto (tgt := 9) cx.1 cx.2.1 dX12_runs_183 (by decide) ?_
                    exact ih9 f268 (v9_1 + 1) (by omega) (by omega) v9_2 (by omega) (by omega) (v9_3 + 1) (by omega) (by omega) 1 (by decide) (by decide) x286 (by omega) (by omega) x287 (by omega) (by omega) z274 ex286 ex287 z276 z277 z278 z279 z280 z281 z282 z283 z284 g273 g285 hr9 (by omega) H locs hB ls (lv_sub hl [4, 1, 5, 0, 3] rfl)
                · obtain ⟨rfl, qy262⟩ := h265
                  subst qy262
                  refine lv_istore (lv' := [(4, .int (q_i 0)), (0, .ref mo), (1, .int (q_i v9_1)), (2, .int (q_i v9_2)), (3, .int (q_i v9_3))]) cx.1 cx.2.1 dX12_runs_154 hl (by decide) rfl (fun ls hl => ?_)
                  refine lv_iload cx.1 cx.2.1 dX12_runs_156 (lv_at hl 0 rfl) ?_
                  refine q_ifeq (tgt := 169) cx ⟨by decide, by decide⟩ dX12_runs_158 (by decide) (fun c291 => ?_) (fun c291 => ?_)
                  · refine q_iconst cx dX12_runs_169 ?_
                    refine lv_istore (lv' := [(5, .int (q_i 0)), (4, .int (q_i 0)), (0, .ref mo), (1, .int (q_i v9_1)), (2, .int (q_i v9_2)), (3, .int (q_i v9_3))]) cx.1 cx.2.1 dX12_runs_170 hl (by decide) rfl (fun ls hl => ?_)
                    refine q_ild_n cx dX12_runs_172 rfl (lv_at hl 3 rfl) ?_
                    refine lv_iload cx.1 cx.2.1 dX12_runs_173 (lv_at hl 1 rfl) ?_
                    refine q_cSi (As := [.int (q_i 0)]) (rest := [.int (q_i v9_1)]) cx hB (fun _ h => h) hN (r_truth0 l g hN hB.2.1 0 (by decide) (by decide)) q_cX12_78 q_dX12_truth (by decide) rfl rfl hl.1 rfl (Nat.le_of_ble_eq_true rfl) dX12_runs_175 (fun y293 H locs f292 ry293 h294 hF hB => ?_)
                    obtain ⟨rfl, qy293⟩ := h294
                    subst qy293
                    refine q_iadd cx dX12_runs_178 ?_
                    refine lv_istore_n (lv' := [(1, .int (q_i (v9_1 + 0))), (5, .int (q_i 0)), (4, .int (q_i 0)), (0, .ref mo), (2, .int (q_i v9_2)), (3, .int (q_i v9_3))]) cx.1 cx.2.1 dX12_runs_179 rfl hl (by decide) rfl (fun ls hl => ?_)
                    obtain ⟨hr9, hm9⟩ := k_rn_oth (f1 := f9) hrn (by omega) (by omega) (q_isu ex254 (by omega)) (fun j => rfl) (fun j => rfl) (fun j => rfl)
                    refine q_iinc (lv' := [(3, .int (q_i (v9_3 + 1))), (1, .int (q_i (v9_1 + 0))), (5, .int (q_i 0)), (4, .int (q_i 0)), (0, .ref mo), (2, .int (q_i v9_2))]) cx dX12_runs_180 hl (k := 5) rfl (by decide) rfl (fun ls hl => ?_)
                    refine lv_goto (tgt := 9) cx.1 cx.2.1 dX12_runs_183 (by decide) ?_
                    exact ih9 f9 (v9_1 + 0) (by omega) (by omega) v9_2 (by omega) (by omega) (v9_3 + 1) (by omega) (by omega) 0 (by decide) (by decide) w9_sr_3 (by omega) (by omega) w9_sr_4 (by omega) (by omega) hj_mo_35 hj_sr_3 hj_sr_4 hq_mo_13 hq_mo_24 hq_mo_25 hq_mo_29 hq_mo_30 hq_mo_31 hq_mo_32 hq_mo_33 hq_mo_34 hgr9 hsc9 hr9 (by omega) H locs hB ls (lv_sub hl [4, 1, 5, 0, 3] rfl)
                  · exact absurd c291 (by omega)
              · have hi8 := k_rn_l1 hrn hsc9 hj_mo_35 (by omega) (Eq.trans ex254 (by omega))
                refine q_ald_n cx dX12_runs_78 rfl (lv_at hl 0 rfl) ?_
                refine q_gX12_66 cx hB hmo kmo hq_mo_34 dX12_runs_79 (fun hb295 kb295 => ?_)
                refine q_ild_n cx dX12_runs_82 rfl (lv_at hl 2 rfl) ?_
                refine q_iconst cx dX12_runs_83 ?_
                refine q_isub cx dX12_runs_84 ?_
                refine lv_dup2_11 cx.1 cx.2.1 dX12_runs_85 rfl rfl ?_
                obtain ⟨x296, ex296⟩ : ∃ zz, q_is (q_z f9 lp (Int.toNat (v9_2 - 1))) zz := ⟨_, q_isr _⟩
                refine q_iald (lo := (-2147483648)) (hi := 2147483647) (n := 2) cx hB hlp klp (by decide) rfl rfl (by omega) (by omega) (by decide) rfl ex296 dX12_runs_86 (fun lb297 ub297 => ?_)
                have hy7 := k_rn_y hrn hi8 ex296
                refine q_iconst cx dX12_runs_87 ?_
                refine q_isub cx dX12_runs_88 ?_
                refine q_iast (lo := (-2147483648)) (hi := 2147483647) (n := 2) cx hB hlp klp (by decide) rfl rfl (by omega) (by omega) (by decide) rfl ⟨by omega, by omega⟩ (by omega) (by omega) (q_inWi (lo := 0) (hi := 1) (by decide) (by omega) (by omega)) dX12_runs_89 (fun H locs f298 ef298 z299 hB => ?_)
                have z300 : q_is (q_z f298 mo 35) xn := by rw [ef298, q_setz (Or.inl (fun q => by rw [q, klp] at kmo; exact absurd kmo (by decide)))]; exact hj_mo_35
                have z301 : q_is (q_z f298 sr 3) w9_sr_3 := by rw [ef298, q_setz (Or.inl (fun q => by rw [q, klp] at ksr; exact absurd ksr (by decide)))]; exact hj_sr_3
                have z302 : q_is (q_z f298 sr 4) w9_sr_4 := by rw [ef298, q_setz (Or.inl (fun q => by rw [q, klp] at ksr; exact absurd ksr (by decide)))]; exact hj_sr_4
                have z303 : q_is (q_z f298 cs (Int.toNat v9_3)) x254 := by rw [ef298, q_setz (Or.inl (fun q => by rw [q, klp] at kcs; exact absurd kcs (by decide)))]; exact ex254
                have z304 : q_ir (q_r f298 mo 13) sr := by rw [ef298, q_setr (Or.inl (fun q => by rw [q, klp] at kmo; exact absurd kmo (by decide)))]; exact hq_mo_13
                have z305 : q_ir (q_r f298 mo 24) hp := by rw [ef298, q_setr (Or.inl (fun q => by rw [q, klp] at kmo; exact absurd kmo (by decide)))]; exact hq_mo_24
                have z306 : q_ir (q_r f298 mo 25) dy := by rw [ef298, q_setr (Or.inl (fun q => by rw [q, klp] at kmo; exact absurd kmo (by decide)))]; exact hq_mo_25
                have z307 : q_ir (q_r f298 mo 29) cs := by rw [ef298, q_setr (Or.inl (fun q => by rw [q, klp] at kmo; exact absurd kmo (by decide)))]; exact hq_mo_29
                have z308 : q_ir (q_r f298 mo 30) c1 := by rw [ef298, q_setr (Or.inl (fun q => by rw [q, klp] at kmo; exact absurd kmo (by decide)))]; exact hq_mo_30
                have z309 : q_ir (q_r f298 mo 31) c2 := by rw [ef298, q_setr (Or.inl (fun q => by rw [q, klp] at kmo; exact absurd kmo (by decide)))]; exact hq_mo_31
                have z310 : q_ir (q_r f298 mo 32) c3 := by rw [ef298, q_setr (Or.inl (fun q => by rw [q, klp] at kmo; exact absurd kmo (by decide)))]; exact hq_mo_32
                have z311 : q_ir (q_r f298 mo 33) bg := by rw [ef298, q_setr (Or.inl (fun q => by rw [q, klp] at kmo; exact absurd kmo (by decide)))]; exact hq_mo_33
                have z312 : q_ir (q_r f298 mo 34) lp := by rw [ef298, q_setr (Or.inl (fun q => by rw [q, klp] at kmo; exact absurd kmo (by decide)))]; exact hq_mo_34
                have g313 : q_gr f298 sr := q_gr_ne hgr9 ef298 (fun q => q_kne (k := 151) (k2 := 166) (by decide) ksr klp q)
                have g314 : q_sc f298 mo cs c1 c2 := q_sc_tr hsc9 (by rw [ef298, q_setz (Or.inl (fun q => by rw [q, klp] at kmo; exact absurd kmo (by decide)))]) (by rw [ef298, q_setz (Or.inl (fun q => by rw [q, klp] at kmo; exact absurd kmo (by decide)))]) (by rw [ef298, q_setz (Or.inl (fun q => by rw [q, klp] at kmo; exact absurd kmo (by decide)))]) (fun i9 => by rw [ef298, q_setz (Or.inl (fun q => by rw [q, klp] at kcs; exact absurd kcs (by decide)))]) (fun i9 => by rw [ef298, q_setz (Or.inl (fun q => by rw [q, klp] at kc1; exact absurd kc1 (by decide)))]) (fun i9 => by rw [ef298, q_setz (Or.inl (fun q => by rw [q, klp] at kc2; exact absurd kc2 (by decide)))])
                obtain ⟨hy9, hb9, hma, hmb⟩ := k_rn_lap hrn hsc9 hj_mo_35 (by omega) (by omega) (Eq.trans ex254 (by omega)) hi8 ex296 ef298 z299 (fun q => q_kne (k := 161) (k2 := 166) (by decide) kcs klp q) (fun q => q_kne (k := 165) (k2 := 166) (by decide) kbg klp q)
                refine q_ald_n cx dX12_runs_90 rfl (lv_at hl 0 rfl) ?_
                refine q_gX12_66 cx hB hmo kmo z312 dX12_runs_91 (fun hb315 kb315 => ?_)
                refine q_ild_n cx dX12_runs_94 rfl (lv_at hl 2 rfl) ?_
                refine q_iconst cx dX12_runs_95 ?_
                refine q_isub cx dX12_runs_96 ?_
                refine q_iald (lo := (-2147483648)) (hi := 2147483647) (n := 2) cx hB hlp klp (by decide) rfl rfl (by omega) (by omega) (by decide) rfl z299 dX12_runs_97 (fun lb317 ub317 => ?_)
                refine q_ifle (tgt := 105) cx ⟨by omega, by omega⟩ dX12_runs_98 (by decide) (fun c318 => ?_) (fun c318 => ?_)
                · refine q_iconst cx dX12_runs_105 ?_
                  refine lv_istore (lv' := [(5, .int (q_i 0)), (0, .ref mo), (1, .int (q_i v9_1)), (2, .int (q_i v9_2)), (3, .int (q_i v9_3)), (4, .int (q_i v9_4))]) cx.1 cx.2.1 dX12_runs_106 hl (by decide) rfl (fun ls hl => ?_)
                  refine lv_iload cx.1 cx.2.1 dX12_runs_108 (lv_at hl 0 rfl) ?_
                  refine q_ifeq (tgt := 126) cx ⟨by decide, by decide⟩ dX12_runs_110 (by decide) (fun c319 => ?_) (fun c319 => ?_)
                  · refine q_ild_n cx dX12_runs_126 rfl (lv_at hl 4 rfl) ?_
                    refine q_iconst cx dX12_runs_127 ?_
                    refine q_iadd cx dX12_runs_128 ?_
                    refine lv_istore_n (lv' := [(3, .int (q_i (v9_3 + 1))), (5, .int (q_i 0)), (0, .ref mo), (1, .int (q_i v9_1)), (2, .int (q_i v9_2)), (4, .int (q_i v9_4))]) cx.1 cx.2.1 dX12_runs_129 rfl hl (by decide) rfl (fun ls hl => ?_)
                    refine q_ild_n cx dX12_runs_130 rfl (lv_at hl 4 rfl) ?_
                    refine lv_iload cx.1 cx.2.1 dX12_runs_131 (lv_at hl 1 rfl) ?_
                    refine q_ifne (tgt := 140) cx ⟨by decide, by decide⟩ dX12_runs_133 (by decide) (fun c320 => ?_) (fun c320 => ?_)
                    · exact absurd c320 (by omega)
                    · refine q_iconst cx dX12_runs_136 ?_
                      refine lv_goto (tgt := 141) cx.1 cx.2.1 dX12_runs_137 (by decide) ?_
                      refine q_cSi (As := [.int (q_i 1)]) (rest := [.int (q_i v9_2)]) cx hB (fun _ h => h) hN (r_truth1 l g hN hB.2.1 1 (by decide) (by decide)) q_cX12_78 q_dX12_truth (by decide) rfl rfl hl.1 rfl (Nat.le_of_ble_eq_true rfl) dX12_runs_141 (fun y322 H locs f321 ry322 h323 hF hB => ?_)
                      obtain ⟨rfl, qy322⟩ := h323
                      subst qy322
                      refine q_isub cx dX12_runs_144 ?_
                      refine lv_istore_n (lv' := [(2, .int (q_i (v9_2 - 1))), (3, .int (q_i (v9_3 + 1))), (5, .int (q_i 0)), (0, .ref mo), (1, .int (q_i v9_1)), (4, .int (q_i v9_4))]) cx.1 cx.2.1 dX12_runs_145 rfl hl (by decide) rfl (fun ls hl => ?_)
                      obtain ⟨hr9, hm9⟩ := k_rn_mv2 hmb (show (v9_2 - 1) = v9_2 - 1 by omega)
                      refine lv_goto (tgt := 9) cx.1 cx.2.1 dX12_runs_146 (by decide) ?_
                      exact ih9 f298 v9_1 (by omega) (by omega) (v9_2 - 1) (by omega) (by omega) (v9_3 + 1) (by omega) (by omega) v9_4 (by omega) (by omega) w9_sr_3 (by omega) (by omega) w9_sr_4 (by omega) (by omega) z300 z301 z302 z304 z305 z306 z307 z308 z309 z310 z311 z312 g313 g314 hr9 (by omega) H locs hB ls (lv_sub hl [3, 4, 0, 1, 5] rfl)
                  · exact absurd c319 (by omega)
                · refine q_iconst cx dX12_runs_101 ?_
                  refine lv_goto (tgt := 106) cx.1 cx.2.1 dX12_runs_102 (by decide) ?_
                  refine lv_istore (lv' := [(5, .int (q_i 1)), (0, .ref mo), (1, .int (q_i v9_1)), (2, .int (q_i v9_2)), (3, .int (q_i v9_3)), (4, .int (q_i v9_4))]) cx.1 cx.2.1 dX12_runs_106 hl (by decide) rfl (fun ls hl => ?_)
                  refine lv_iload cx.1 cx.2.1 dX12_runs_108 (lv_at hl 0 rfl) ?_
                  refine q_ifeq (tgt := 126) cx ⟨by decide, by decide⟩ dX12_runs_110 (by decide) (fun c324 => ?_) (fun c324 => ?_)
                  · exact absurd c324 (by omega)
                  · refine q_ald_n cx dX12_runs_113 rfl (lv_at hl 1 rfl) ?_
                    refine q_gX12_63 cx hB hmo kmo z311 dX12_runs_114 (fun hb325 kb325 => ?_)
                    refine q_ild_n cx dX12_runs_117 rfl (lv_at hl 3 rfl) ?_
                    refine q_iconst cx dX12_runs_118 ?_
                    refine q_isub cx dX12_runs_119 ?_
                    obtain ⟨x326, ex326⟩ : ∃ zz, q_is (q_z f298 bg (Int.toNat (v9_2 - 1))) zz := ⟨_, q_isr _⟩
                    refine q_iald (lo := (-2147483648)) (hi := 2147483647) (n := 2) cx hB hbg kbg (by decide) rfl rfl (by omega) (by omega) (by decide) rfl ex326 dX12_runs_120 (fun lb327 ub327 => ?_)
                    have hb8 : 0 ≤ x326 ∧ x326 ≤ 59 := q_isb ex326 hb9
                    refine q_iconst cx dX12_runs_121 ?_
                    refine q_iadd cx dX12_runs_122 ?_
                    refine lv_goto (tgt := 129) cx.1 cx.2.1 dX12_runs_123 (by decide) ?_
                    refine lv_istore_n (lv' := [(3, .int (q_i (x326 + 1))), (5, .int (q_i 1)), (0, .ref mo), (1, .int (q_i v9_1)), (2, .int (q_i v9_2)), (4, .int (q_i v9_4))]) cx.1 cx.2.1 dX12_runs_129 rfl hl (by decide) rfl (fun ls hl => ?_)
                    refine q_ild_n cx dX12_runs_130 rfl (lv_at hl 4 rfl) ?_
                    refine lv_iload cx.1 cx.2.1 dX12_runs_131 (lv_at hl 1 rfl) ?_
                    refine q_ifne (tgt := 140) cx ⟨by decide, by decide⟩ dX12_runs_133 (by decide) (fun c328 => ?_) (fun c328 => ?_)
                    · refine q_iconst cx dX12_runs_140 ?_
                      refine q_cSi (As := [.int (q_i 0)]) (rest := [.int (q_i v9_2)]) cx hB (fun _ h => h) hN (r_truth0 l g hN hB.2.1 0 (by decide) (by decide)) q_cX12_78 q_dX12_truth (by decide) rfl rfl hl.1 rfl (Nat.le_of_ble_eq_true rfl) dX12_runs_141 (fun y330 H locs f329 ry330 h331 hF hB => ?_)
                      obtain ⟨rfl, qy330⟩ := h331
                      subst qy330
                      refine q_isub cx dX12_runs_144 ?_
                      refine lv_istore_n (lv' := [(2, .int (q_i (v9_2 - 0))), (3, .int (q_i (x326 + 1))), (5, .int (q_i 1)), (0, .ref mo), (1, .int (q_i v9_1)), (4, .int (q_i v9_4))]) cx.1 cx.2.1 dX12_runs_145 rfl hl (by decide) rfl (fun ls hl => ?_)
                      obtain ⟨hr9, hm9⟩ := k_rn_mv ex326 (hma (by omega)) (show (v9_2 - 0) = v9_2 by omega)
                      refine lv_goto (tgt := 9) cx.1 cx.2.1 dX12_runs_146 (by decide) ?_
                      exact ih9 f298 v9_1 (by omega) (by omega) (v9_2 - 0) (by omega) (by omega) (x326 + 1) (by omega) (by omega) v9_4 (by omega) (by omega) w9_sr_3 (by omega) (by omega) w9_sr_4 (by omega) (by omega) z300 z301 z302 z304 z305 z306 z307 z308 z309 z310 z311 z312 g313 g314 hr9 (by omega) H locs hB ls (lv_sub hl [3, 4, 0, 1, 5] rfl)
                    · exact absurd c328 (by omega)
            · have hi9 := k_rn_i1 hrn hsc9 hj_mo_35 (by omega) (Eq.trans ex254 (by omega))
              have hi8 : v9_2 ≤ 1 := hi9.1
              refine q_ald_n cx dX12_runs_39 rfl (lv_at hl 0 rfl) ?_
              refine q_gX12_63 cx hB hmo kmo hq_mo_33 dX12_runs_40 (fun hb332 kb332 => ?_)
              refine q_ild_n cx dX12_runs_43 rfl (lv_at hl 2 rfl) ?_
              refine q_ild_n cx dX12_runs_44 rfl (lv_at hl 3 rfl) ?_
              refine q_iast (lo := (-2147483648)) (hi := 2147483647) (n := 2) cx hB hbg kbg (by decide) rfl rfl (by omega) (by omega) (by decide) rfl ⟨by omega, by omega⟩ (by omega) (by omega) (q_inWi (lo := 0) (hi := 1) (by decide) (by omega) (by omega)) dX12_runs_45 (fun H locs f333 ef333 z334 hB => ?_)
              have z335 : q_is (q_z f333 mo 35) xn := by rw [ef333, q_setz (Or.inl (fun q => by rw [q, kbg] at kmo; exact absurd kmo (by decide)))]; exact hj_mo_35
              have z336 : q_is (q_z f333 sr 3) w9_sr_3 := by rw [ef333, q_setz (Or.inl (fun q => by rw [q, kbg] at ksr; exact absurd ksr (by decide)))]; exact hj_sr_3
              have z337 : q_is (q_z f333 sr 4) w9_sr_4 := by rw [ef333, q_setz (Or.inl (fun q => by rw [q, kbg] at ksr; exact absurd ksr (by decide)))]; exact hj_sr_4
              have z338 : q_is (q_z f333 cs (Int.toNat v9_3)) x254 := by rw [ef333, q_setz (Or.inl (fun q => by rw [q, kbg] at kcs; exact absurd kcs (by decide)))]; exact ex254
              have z339 : q_ir (q_r f333 mo 13) sr := by rw [ef333, q_setr (Or.inl (fun q => by rw [q, kbg] at kmo; exact absurd kmo (by decide)))]; exact hq_mo_13
              have z340 : q_ir (q_r f333 mo 24) hp := by rw [ef333, q_setr (Or.inl (fun q => by rw [q, kbg] at kmo; exact absurd kmo (by decide)))]; exact hq_mo_24
              have z341 : q_ir (q_r f333 mo 25) dy := by rw [ef333, q_setr (Or.inl (fun q => by rw [q, kbg] at kmo; exact absurd kmo (by decide)))]; exact hq_mo_25
              have z342 : q_ir (q_r f333 mo 29) cs := by rw [ef333, q_setr (Or.inl (fun q => by rw [q, kbg] at kmo; exact absurd kmo (by decide)))]; exact hq_mo_29
              have z343 : q_ir (q_r f333 mo 30) c1 := by rw [ef333, q_setr (Or.inl (fun q => by rw [q, kbg] at kmo; exact absurd kmo (by decide)))]; exact hq_mo_30
              have z344 : q_ir (q_r f333 mo 31) c2 := by rw [ef333, q_setr (Or.inl (fun q => by rw [q, kbg] at kmo; exact absurd kmo (by decide)))]; exact hq_mo_31
              have z345 : q_ir (q_r f333 mo 32) c3 := by rw [ef333, q_setr (Or.inl (fun q => by rw [q, kbg] at kmo; exact absurd kmo (by decide)))]; exact hq_mo_32
              have z346 : q_ir (q_r f333 mo 33) bg := by rw [ef333, q_setr (Or.inl (fun q => by rw [q, kbg] at kmo; exact absurd kmo (by decide)))]; exact hq_mo_33
              have z347 : q_ir (q_r f333 mo 34) lp := by rw [ef333, q_setr (Or.inl (fun q => by rw [q, kbg] at kmo; exact absurd kmo (by decide)))]; exact hq_mo_34
              have g348 : q_gr f333 sr := q_gr_ne hgr9 ef333 (fun q => q_kne (k := 151) (k2 := 165) (by decide) ksr kbg q)
              have g349 : q_sc f333 mo cs c1 c2 := q_sc_tr hsc9 (by rw [ef333, q_setz (Or.inl (fun q => by rw [q, kbg] at kmo; exact absurd kmo (by decide)))]) (by rw [ef333, q_setz (Or.inl (fun q => by rw [q, kbg] at kmo; exact absurd kmo (by decide)))]) (by rw [ef333, q_setz (Or.inl (fun q => by rw [q, kbg] at kmo; exact absurd kmo (by decide)))]) (fun i9 => by rw [ef333, q_setz (Or.inl (fun q => by rw [q, kbg] at kcs; exact absurd kcs (by decide)))]) (fun i9 => by rw [ef333, q_setz (Or.inl (fun q => by rw [q, kbg] at kc1; exact absurd kc1 (by decide)))]) (fun i9 => by rw [ef333, q_setz (Or.inl (fun q => by rw [q, kbg] at kc2; exact absurd kc2 (by decide)))])
              refine q_ald_n cx dX12_runs_46 rfl (lv_at hl 0 rfl) ?_
              refine q_gX12_66 cx hB hmo kmo z347 dX12_runs_47 (fun hb350 kb350 => ?_)
              refine q_ild_n cx dX12_runs_50 rfl (lv_at hl 2 rfl) ?_
              refine q_ald_n cx dX12_runs_51 rfl (lv_at hl 0 rfl) ?_
              refine q_gX12_54 cx hB hmo kmo z343 dX12_runs_52 (fun hb351 kb351 => ?_)
              refine q_ild_n cx dX12_runs_55 rfl (lv_at hl 3 rfl) ?_
              obtain ⟨x352, ex352⟩ : ∃ zz, q_is (q_z f333 c1 (Int.toNat v9_3)) zz := ⟨_, q_isr _⟩
              refine q_iald (lo := (-2147483648)) (hi := 2147483647) (n := 60) cx hB hc1 kc1 (by decide) rfl rfl (by omega) (by omega) (by decide) rfl ex352 dX12_runs_56 (fun lb353 ub353 => ?_)
              refine q_iast (lo := (-2147483648)) (hi := 2147483647) (n := 2) cx hB hlp klp (by decide) rfl rfl (by omega) (by omega) (by decide) rfl ⟨by omega, by omega⟩ (by omega) (by omega) (q_inWi (lo := 0) (hi := 1) (by decide) (by omega) (by omega)) dX12_runs_57 (fun H locs f354 ef354 z355 hB => ?_)
              have z356 : q_is (q_z f354 mo 35) xn := by rw [ef354, q_setz (Or.inl (fun q => by rw [q, klp] at kmo; exact absurd kmo (by decide)))]; exact z335
              have z357 : q_is (q_z f354 sr 3) w9_sr_3 := by rw [ef354, q_setz (Or.inl (fun q => by rw [q, klp] at ksr; exact absurd ksr (by decide)))]; exact z336
              have z358 : q_is (q_z f354 sr 4) w9_sr_4 := by rw [ef354, q_setz (Or.inl (fun q => by rw [q, klp] at ksr; exact absurd ksr (by decide)))]; exact z337
              have z359 : q_is (q_z f354 cs (Int.toNat v9_3)) x254 := by rw [ef354, q_setz (Or.inl (fun q => by rw [q, klp] at kcs; exact absurd kcs (by decide)))]; exact z338
              have z360 : q_is (q_z f354 bg (Int.toNat v9_2)) v9_3 := by rw [ef354, q_setz (Or.inl (fun q => by rw [q, klp] at kbg; exact absurd kbg (by decide)))]; exact z334
              have z361 : q_is (q_z f354 c1 (Int.toNat v9_3)) x352 := by rw [ef354, q_setz (Or.inl (fun q => by rw [q, klp] at kc1; exact absurd kc1 (by decide)))]; exact ex352
              have z362 : q_ir (q_r f354 mo 13) sr := by rw [ef354, q_setr (Or.inl (fun q => by rw [q, klp] at kmo; exact absurd kmo (by decide)))]; exact z339
              have z363 : q_ir (q_r f354 mo 24) hp := by rw [ef354, q_setr (Or.inl (fun q => by rw [q, klp] at kmo; exact absurd kmo (by decide)))]; exact z340
              have z364 : q_ir (q_r f354 mo 25) dy := by rw [ef354, q_setr (Or.inl (fun q => by rw [q, klp] at kmo; exact absurd kmo (by decide)))]; exact z341
              have z365 : q_ir (q_r f354 mo 29) cs := by rw [ef354, q_setr (Or.inl (fun q => by rw [q, klp] at kmo; exact absurd kmo (by decide)))]; exact z342
              have z366 : q_ir (q_r f354 mo 30) c1 := by rw [ef354, q_setr (Or.inl (fun q => by rw [q, klp] at kmo; exact absurd kmo (by decide)))]; exact z343
              have z367 : q_ir (q_r f354 mo 31) c2 := by rw [ef354, q_setr (Or.inl (fun q => by rw [q, klp] at kmo; exact absurd kmo (by decide)))]; exact z344
              have z368 : q_ir (q_r f354 mo 32) c3 := by rw [ef354, q_setr (Or.inl (fun q => by rw [q, klp] at kmo; exact absurd kmo (by decide)))]; exact z345
              have z369 : q_ir (q_r f354 mo 33) bg := by rw [ef354, q_setr (Or.inl (fun q => by rw [q, klp] at kmo; exact absurd kmo (by decide)))]; exact z346
              have z370 : q_ir (q_r f354 mo 34) lp := by rw [ef354, q_setr (Or.inl (fun q => by rw [q, klp] at kmo; exact absurd kmo (by decide)))]; exact z347
              have g371 : q_gr f354 sr := q_gr_ne g348 ef354 (fun q => q_kne (k := 151) (k2 := 166) (by decide) ksr klp q)
              have g372 : q_sc f354 mo cs c1 c2 := q_sc_tr g349 (by rw [ef354, q_setz (Or.inl (fun q => by rw [q, klp] at kmo; exact absurd kmo (by decide)))]) (by rw [ef354, q_setz (Or.inl (fun q => by rw [q, klp] at kmo; exact absurd kmo (by decide)))]) (by rw [ef354, q_setz (Or.inl (fun q => by rw [q, klp] at kmo; exact absurd kmo (by decide)))]) (fun i9 => by rw [ef354, q_setz (Or.inl (fun q => by rw [q, klp] at kcs; exact absurd kcs (by decide)))]) (fun i9 => by rw [ef354, q_setz (Or.inl (fun q => by rw [q, klp] at kc1; exact absurd kc1 (by decide)))]) (fun i9 => by rw [ef354, q_setz (Or.inl (fun q => by rw [q, klp] at kc2; exact absurd kc2 (by decide)))])
              have hx9 : 1 ≤ x352 ∧ x352 ≤ 20 := by have h7 := hi9.2; have h70 : q_z f9 c1 (Int.toNat v9_3) = x352 := (Eq.trans (Eq.symm (show q_z f333 c1 (Int.toNat v9_3) = q_z f9 c1 (Int.toNat v9_3) by rw [ef333, q_setz (Or.inl (fun q => q_kne (k := 162) (k2 := 165) (by decide) kc1 kbg q))])) ex352); omega
              obtain ⟨hr9, hm9⟩ := k_rn_rep (f1 := f333) hrn (by omega) (by omega) (Eq.trans ex254 (by omega)) (by omega) hx9 ef333 z334 ef354 z355 (fun q => q_kne (k := 161) (k2 := 165) (by decide) kcs kbg q) (fun q => q_kne (k := 161) (k2 := 166) (by decide) kcs klp q) (fun q => q_kne (k := 165) (k2 := 166) (by decide) kbg klp q)
              refine q_iinc (lv' := [(2, .int (q_i (v9_2 + 1))), (0, .ref mo), (1, .int (q_i v9_1)), (3, .int (q_i v9_3)), (4, .int (q_i v9_4))]) cx dX12_runs_58 hl (k := 2) rfl (by decide) rfl (fun ls hl => ?_)
              refine q_iinc (lv' := [(3, .int (q_i (v9_3 + 1))), (2, .int (q_i (v9_2 + 1))), (0, .ref mo), (1, .int (q_i v9_1)), (4, .int (q_i v9_4))]) cx dX12_runs_61 hl (k := 3) rfl (by decide) rfl (fun ls hl => ?_)
              refine lv_goto (tgt := 9) cx.1 cx.2.1 dX12_runs_64 (by decide) ?_
              exact ih9 f354 v9_1 (by omega) (by omega) (v9_2 + 1) (by omega) (by omega) (v9_3 + 1) (by omega) (by omega) v9_4 (by omega) (by omega) w9_sr_3 (by omega) (by omega) w9_sr_4 (by omega) (by omega) z356 z357 z358 z362 z363 z364 z365 z366 z367 z368 z369 z370 g371 g372 hr9 (by omega) H locs hB ls (lv_sub hl [2, 3, 1, 0, 4] rfl)
  obtain ⟨H, hH⟩ : ∃ H : Heap, H = s.heap := ⟨_, rfl⟩
  obtain ⟨locs, hlocs⟩ : ∃ z : List Loc, z = [] := ⟨_, rfl⟩
  rw [← hH, ← hlocs] at hB
  rw [← hH, ← hlocs]
  refine q_iconst cx dX12_runs_0 ?_
  refine lv_istore_n (lv' := [(1, .int (q_i 0)), (0, .ref mo)]) cx.1 cx.2.1 dX12_runs_1 rfl hl (by decide) rfl (fun ls hl => ?_)
  refine q_iconst cx dX12_runs_2 ?_
  refine lv_istore_n (lv' := [(2, .int (q_i 0)), (1, .int (q_i 0)), (0, .ref mo)]) cx.1 cx.2.1 dX12_runs_3 rfl hl (by decide) rfl (fun ls hl => ?_)
  refine q_iconst cx dX12_runs_4 ?_
  refine lv_istore_n (lv' := [(3, .int (q_i 0)), (2, .int (q_i 0)), (1, .int (q_i 0)), (0, .ref mo)]) cx.1 cx.2.1 dX12_runs_5 rfl hl (by decide) rfl (fun ls hl => ?_)
  refine q_iconst cx dX12_runs_6 ?_
  refine lv_istore (lv' := [(4, .int (q_i 1)), (3, .int (q_i 0)), (2, .int (q_i 0)), (1, .int (q_i 0)), (0, .ref mo)]) cx.1 cx.2.1 dX12_runs_7 hl (by decide) rfl (fun ls hl => ?_)
  exact J9 ((k_mu f bg lp 0 0) + 1) f 0 (by decide) (by decide) 0 (by decide) (by decide) 0 (by decide) (by decide) 1 (by decide) (by decide) xt (by omega) (by omega) xm (by omega) (by omega) hf2 hf0 hf1 hr0 hr1 hr2 hr3 hr4 hr5 hr6 hr7 hr8 hgr hsc (k_rn0 (by omega)) (Nat.lt_succ_self _) H locs hB ls (lv_sub hl [4, 3, 2, 1, 0] rfl)
