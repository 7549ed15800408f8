set_option maxHeartbeats 4000000 in
set_option maxRecDepth 100000 in
theorem f_mrunScript (l : Launch) (g : q_G) {K : Nat → Nat} {L : List Nat} (hN : L.Nodup) {f : Nat → va_E} (hT : q_Ty g K L f) (B : Nat → Int) (nl9 : List (List Int)) (mo : Nat) (hmo : mo ∈ L) (kmo : K mo = 12) (sr : Nat) (hsr : sr ∈ L) (ksr : K sr = 151) (nm : Nat) (hnm : nm ∈ L) (knm : K nm = 156) (bu : Nat) (hbu : bu ∈ L) (kbu : K bu = 150) (cs : Nat) (hcs : cs ∈ L) (kcs : K cs = 161) (c1 : Nat) (hc1 : c1 ∈ L) (kc1 : K c1 = 162) (c2 : Nat) (hc2 : c2 ∈ L) (kc2 : K c2 = 163) (c3 : Nat) (hc3 : c3 ∈ L) (kc3 : K c3 = 164) (bg : Nat) (hbg : bg ∈ L) (kbg : K bg = 165) (lp : Nat) (hlp : lp ∈ L) (klp : K lp = 166) (hp : Nat) (hhp : hp ∈ L) (khp : K hp = 159) (dy : Nat) (hdy : dy ∈ L) (kdy : K dy = 160) (as : Nat) (has : as ∈ L) (kas : K as = 153) (pa : Nat) (hpa : pa ∈ L) (kpa : K pa = 155) (xt : Int) (lxt : 0 ≤ xt) (uxt : xt ≤ 9999) (xm : Int) (lxm : 0 ≤ xm) (uxm : xm ≤ 60) (xc : Int) (lxc : 0 ≤ xc) (uxc : xc ≤ 10) (tn : Int) (ltn : 0 ≤ tn) (utn : tn ≤ 600) (hf0 : q_is (q_z f sr 3) xt) (hf1 : q_is (q_z f sr 4) xm) (hf2 : q_is (q_z f sr 0) xc) (hf3 : q_is (q_z f mo 2) tn) (hr0 : q_ir (q_r f mo 13) sr) (hr1 : q_ir (q_r f mo 18) nm) (hr2 : q_ir (q_r f mo 1) bu) (hr3 : q_ir (q_r f mo 29) cs) (hr4 : q_ir (q_r f mo 30) c1) (hr5 : q_ir (q_r f mo 31) c2) (hr6 : q_ir (q_r f mo 32) c3) (hr7 : q_ir (q_r f mo 33) bg) (hr8 : q_ir (q_r f mo 34) lp) (hr9 : q_ir (q_r f mo 24) hp) (hr10 : q_ir (q_r f mo 25) dy) (hr11 : q_ir (q_r f mo 15) as) (hr12 : q_ir (q_r f mo 17) pa) (hp0 : (nl9.length : Int) = xc) (hgr : q_gr f sr) (hpk : q_pk f mo pa) (hpc : q_pc f mo pa xc) (hub : tk_ub f bu B tn) (hrn : tk_nq f nm nl9) : q_Ct l g K L yX12_runScript cX12_runScript 2 (some .int) 12 276 [.ref mo] f [(12, 0, 0), (12, 2, 12), (12, 21, 21), (12, 26, 28), (12, 35, 37), (151, 3, 4), (151, 9, 9), (151, 11, 89), (151, 92, 657), (153, 0, 657), (155, 0, 3947), (159, 0, 9), (160, 0, 9), (161, 0, 59), (162, 0, 58), (163, 0, 58), (164, 0, 58), (165, 0, 1), (166, 0, 1)] (q_Pi (fun (z : Int) (f1 : Nat → va_E) => (0 ≤ q_z f1 sr 3 ∧ q_z f1 sr 3 ≤ 9999 ∧ 0 ≤ q_z f1 sr 4 ∧ q_z f1 sr 4 ≤ 60 ∧ q_is (q_z f1 sr 0) xc ∧ q_is (q_z f1 mo 2) 0 ∧ q_is (q_z f1 mo 0) 0 ∧ q_is (q_z f1 mo 10) 0 ∧ q_is (q_z f1 mo 11) (-1) ∧ (tk_U B tn nl9 (tk_S B tn 0) 0 0 = tk_ok 0) ∧ q_gr f1 sr ∧ (q_pk f1 mo pa) ∧ (q_pc f1 mo pa xc)) ∨ (z = 0 ∧ 0 ≤ q_z f1 sr 3 ∧ q_z f1 sr 3 ≤ 9999 ∧ 0 ≤ q_z f1 sr 4 ∧ q_z f1 sr 4 ≤ 60 ∧ q_is (q_z f1 sr 0) xc ∧ q_is (q_z f1 mo 2) 0 ∧ q_is (q_z f1 mo 0) 1 ∧ (tk_U B tn nl9 (tk_S B tn 0) 0 0 = tk_er (q_z f1 mo 10) (q_z f1 mo 11)) ∧ q_gr f1 sr ∧ (q_pk f1 mo pa) ∧ (q_pc f1 mo pa xc)))) := by
  refine q_ofb (by decide +kernel) hN hT (Nat.le_of_ble_eq_true rfl) ?_
  intro p e s m below meth c ls cx hr hlk hB hl
  have hl : lv_has ls 2 [(0, .ref mo)] := hl
  have J19 : ∀ (n : Nat) (f19 : Nat → va_E) (w19_mo_8 : Int) (lw19_mo_8 : 0 ≤ w19_mo_8) (uw19_mo_8 : w19_mo_8 ≤ 0) (w19_mo_9 : Int) (lw19_mo_9 : (-1) ≤ w19_mo_9) (uw19_mo_9 : w19_mo_9 ≤ (-1)) (w19_mo_2 : Int) (lw19_mo_2 : 0 ≤ w19_mo_2) (uw19_mo_2 : w19_mo_2 ≤ 0) (w19_mo_5 : Int) (lw19_mo_5 : 0 ≤ w19_mo_5) (uw19_mo_5 : w19_mo_5 ≤ 600) (w19_mo_36 : Int) (lw19_mo_36 : 0 ≤ w19_mo_36) (uw19_mo_36 : w19_mo_36 ≤ 30) (w19_mo_37 : Int) (lw19_mo_37 : 0 ≤ w19_mo_37) (uw19_mo_37 : w19_mo_37 ≤ 2) (hj_sr_3 : q_is (q_z f19 sr 3) xt) (hj_sr_4 : q_is (q_z f19 sr 4) xm) (hj_sr_0 : q_is (q_z f19 sr 0) xc) (hj_mo_8 : q_is (q_z f19 mo 8) w19_mo_8) (hj_mo_9 : q_is (q_z f19 mo 9) w19_mo_9) (hj_mo_2 : q_is (q_z f19 mo 2) w19_mo_2) (hj_mo_3 : q_is (q_z f19 mo 3) tn) (hj_mo_5 : q_is (q_z f19 mo 5) w19_mo_5) (hj_mo_36 : q_is (q_z f19 mo 36) w19_mo_36) (hj_mo_37 : q_is (q_z f19 mo 37) w19_mo_37) (hq_mo_13 : q_ir (q_r f19 mo 13) sr) (hq_mo_18 : q_ir (q_r f19 mo 18) nm) (hq_mo_1 : q_ir (q_r f19 mo 1) bu) (hq_mo_29 : q_ir (q_r f19 mo 29) cs) (hq_mo_30 : q_ir (q_r f19 mo 30) c1) (hq_mo_31 : q_ir (q_r f19 mo 31) c2) (hq_mo_32 : q_ir (q_r f19 mo 32) c3) (hq_mo_33 : q_ir (q_r f19 mo 33) bg) (hq_mo_34 : q_ir (q_r f19 mo 34) lp) (hq_mo_24 : q_ir (q_r f19 mo 24) hp) (hq_mo_25 : q_ir (q_r f19 mo 25) dy) (hq_mo_15 : q_ir (q_r f19 mo 15) as) (hq_mo_17 : q_ir (q_r f19 mo 17) pa) (hgr19 : q_gr f19 sr) (hpc19 : q_pc f19 mo pa xc) (hpk19 : q_pk f19 mo pa) (hrn19 : tk_nq f19 nm nl9) (hsc19 : q_sc f19 mo cs c1 c2) (htr19 : tk_tr f19 mo B tn) (hub19 : tk_ub f19 bu B tn) (hrl19_0 : 0 ≤ 1 * tn + -1 * w19_mo_5 + 0) (hal : tk_U B tn nl9 (tk_S B tn 0) 0 0 = tk_U B tn nl9 w19_mo_5 w19_mo_37 w19_mo_36) (hncl : ¬ (0 < w19_mo_37 ∧ tk_k B tn w19_mo_5 = 41)) (hmu : (Int.toNat (601 - w19_mo_5)) < n) (H : Heap) (locs : List Loc) (hB : q_B g K L (fun q => q ∈ L) [(12, 0, 0), (12, 2, 12), (12, 21, 21), (12, 26, 28), (12, 35, 37), (151, 3, 4), (151, 9, 9), (151, 11, 89), (151, 92, 657), (153, 0, 657), (155, 0, 3947), (159, 0, 9), (160, 0, 9), (161, 0, 59), (162, 0, 58), (163, 0, 58), (164, 0, 58), (165, 0, 1), (166, 0, 1)] f f19 s H locs) (ls : Array Slot) (hl : lv_has ls 2 [(0, .ref mo)]), W p l e { frames := 12, cells := 0, slots := 0, locals := 276 } s m ([.ref mo] : List Value).toArray below meth c H locs 0 0 (MQ below (q_Q g K L [(12, 0, 0), (12, 2, 12), (12, 21, 21), (12, 26, 28), (12, 35, 37), (151, 3, 4), (151, 9, 9), (151, 11, 89), (151, 92, 657), (153, 0, 657), (155, 0, 3947), (159, 0, 9), (160, 0, 9), (161, 0, 59), (162, 0, 58), (163, 0, 58), (164, 0, 58), (165, 0, 1), (166, 0, 1)] f (q_Pi (fun (z : Int) (f1 : Nat → va_E) => (0 ≤ q_z f1 sr 3 ∧ q_z f1 sr 3 ≤ 9999 ∧ 0 ≤ q_z f1 sr 4 ∧ q_z f1 sr 4 ≤ 60 ∧ q_is (q_z f1 sr 0) xc ∧ q_is (q_z f1 mo 2) 0 ∧ q_is (q_z f1 mo 0) 0 ∧ q_is (q_z f1 mo 10) 0 ∧ q_is (q_z f1 mo 11) (-1) ∧ (tk_U B tn nl9 (tk_S B tn 0) 0 0 = tk_ok 0) ∧ q_gr f1 sr ∧ (q_pk f1 mo pa) ∧ (q_pc f1 mo pa xc)) ∨ (z = 0 ∧ 0 ≤ q_z f1 sr 3 ∧ q_z f1 sr 3 ≤ 9999 ∧ 0 ≤ q_z f1 sr 4 ∧ q_z f1 sr 4 ≤ 60 ∧ q_is (q_z f1 sr 0) xc ∧ q_is (q_z f1 mo 2) 0 ∧ q_is (q_z f1 mo 0) 1 ∧ (tk_U B tn nl9 (tk_S B tn 0) 0 0 = tk_er (q_z f1 mo 10) (q_z f1 mo 11)) ∧ q_gr f1 sr ∧ (q_pk f1 mo pa) ∧ (q_pc f1 mo pa xc))))) ([.ref mo] : List Value).toArray s 0 0 (fun q => q ∈ L)) (F0 m 19 ls []) := by
    intro n
    induction n with
    | zero =>
      intro f19 w19_mo_8 lw19_mo_8 uw19_mo_8 w19_mo_9 lw19_mo_9 uw19_mo_9 w19_mo_2 lw19_mo_2 uw19_mo_2 w19_mo_5 lw19_mo_5 uw19_mo_5 w19_mo_36 lw19_mo_36 uw19_mo_36 w19_mo_37 lw19_mo_37 uw19_mo_37 hj_sr_3 hj_sr_4 hj_sr_0 hj_mo_8 hj_mo_9 hj_mo_2 hj_mo_3 hj_mo_5 hj_mo_36 hj_mo_37 hq_mo_13 hq_mo_18 hq_mo_1 hq_mo_29 hq_mo_30 hq_mo_31 hq_mo_32 hq_mo_33 hq_mo_34 hq_mo_24 hq_mo_25 hq_mo_15 hq_mo_17 hgr19 hpc19 hpk19 hrn19 hsc19 htr19 hub19 hrl19_0 hal hncl hmu
      exact absurd hmu (Nat.not_lt_zero _)
    | succ n ih19 =>
      intro f19 w19_mo_8 lw19_mo_8 uw19_mo_8 w19_mo_9 lw19_mo_9 uw19_mo_9 w19_mo_2 lw19_mo_2 uw19_mo_2 w19_mo_5 lw19_mo_5 uw19_mo_5 w19_mo_36 lw19_mo_36 uw19_mo_36 w19_mo_37 lw19_mo_37 uw19_mo_37 hj_sr_3 hj_sr_4 hj_sr_0 hj_mo_8 hj_mo_9 hj_mo_2 hj_mo_3 hj_mo_5 hj_mo_36 hj_mo_37 hq_mo_13 hq_mo_18 hq_mo_1 hq_mo_29 hq_mo_30 hq_mo_31 hq_mo_32 hq_mo_33 hq_mo_34 hq_mo_24 hq_mo_25 hq_mo_15 hq_mo_17 hgr19 hpc19 hpk19 hrn19 hsc19 htr19 hub19 hrl19_0 hal hncl hmu H locs hB ls hl
      refine q_ald_n cx dX12_runScript_19 rfl (lv_at hl 0 rfl) ?_
      refine q_cVi (As := []) (rest := []) cx hB (fun _ h => h) hN hmo kmo (by decide) rfl (f_misGood l g hN hB.2.1 mo hmo kmo (Eq.trans hj_mo_8 (by omega))) q_cX12_130 q_dX12_isGood (by decide) rfl rfl hl.1 rfl (Nat.le_of_ble_eq_true rfl) dX12_runScript_20 (fun y974 H locs f973 ry974 h975 hF hB => ?_)
      obtain ⟨rfl, qy974⟩ := h975
      subst qy974
      refine q_ifeq (tgt := 63) cx ⟨by decide, by decide⟩ dX12_runScript_23 (by decide) (fun c976 => ?_) (fun c976 => ?_)
      · exact absurd c976 (by omega)
      · refine q_ald_n cx dX12_runScript_26 rfl (lv_at hl 0 rfl) ?_
        obtain ⟨x977, ex977⟩ : ∃ zz, q_is (q_z f19 mo 6) zz := ⟨_, q_isr _⟩
        refine q_gX12_117 cx hB hmo kmo ex977 dX12_runScript_27 (fun lb978 ub978 => ?_)
        refine q_ifeq (tgt := 63) cx ⟨by omega, by omega⟩ dX12_runScript_30 (by decide) (fun c979 => ?_) (fun c979 => ?_)
        · refine q_ald_n cx dX12_runScript_63 rfl (lv_at hl 0 rfl) ?_
          refine q_cVi (As := []) (rest := []) cx hB (fun _ h => h) hN hmo kmo (by decide) rfl (f_misGood l g hN hB.2.1 mo hmo kmo (Eq.trans hj_mo_8 (by omega))) q_cX12_130 q_dX12_isGood (by decide) rfl rfl hl.1 rfl (Nat.le_of_ble_eq_true rfl) dX12_runScript_64 (fun y981 H locs f980 ry981 h982 hF hB => ?_)
          obtain ⟨rfl, qy981⟩ := h982
          subst qy981
          refine q_ifeq (tgt := 82) cx ⟨by decide, by decide⟩ dX12_runScript_67 (by decide) (fun c983 => ?_) (fun c983 => ?_)
          · exact absurd c983 (by omega)
          · refine q_ald_n cx dX12_runScript_70 rfl (lv_at hl 0 rfl) ?_
            refine q_gX12_488 cx hB hmo kmo hj_mo_37 dX12_runScript_71 (fun lb984 ub984 => ?_)
            refine q_ifle (tgt := 82) cx ⟨by omega, by omega⟩ dX12_runScript_74 (by decide) (fun c985 => ?_) (fun c985 => ?_)
            · refine q_ald_n cx dX12_runScript_82 rfl (lv_at hl 0 rfl) ?_
              refine q_cVi (As := []) (rest := []) cx hB (fun _ h => h) hN hmo kmo (by decide) rfl (f_mendsText0 l g hN hB.2.1 mo hmo kmo (Eq.trans hj_mo_8 (by omega)) (Eq.trans hj_mo_9 (by omega))) q_cX12_253 q_dX12_endsText (by decide) rfl rfl hl.1 rfl (Nat.le_of_ble_eq_true rfl) dX12_runScript_83 (fun y987 H locs f986 ry987 h988 hF hB => ?_)
              obtain ⟨qy987, z989, z990, z991⟩ := h988
              have z992 : q_is (q_z f986 sr 3) xt := Eq.trans (hF.z hsr (by rw [ksr]; rfl)) hj_sr_3
              have z993 : q_is (q_z f986 sr 4) xm := Eq.trans (hF.z hsr (by rw [ksr]; rfl)) hj_sr_4
              have z994 : q_is (q_z f986 sr 0) xc := Eq.trans (hF.z hsr (by rw [ksr]; rfl)) hj_sr_0
              have z995 : q_is (q_z f986 mo 8) w19_mo_8 := Eq.trans (hF.z hmo (by rw [kmo]; rfl)) hj_mo_8
              have z996 : q_is (q_z f986 mo 9) w19_mo_9 := Eq.trans (hF.z hmo (by rw [kmo]; rfl)) hj_mo_9
              have z997 : q_is (q_z f986 mo 2) w19_mo_2 := Eq.trans (hF.z hmo (by rw [kmo]; rfl)) hj_mo_2
              have z998 : q_is (q_z f986 mo 3) tn := Eq.trans (hF.z hmo (by rw [kmo]; rfl)) hj_mo_3
              have z999 : q_is (q_z f986 mo 5) w19_mo_5 := Eq.trans (hF.z hmo (by rw [kmo]; rfl)) hj_mo_5
              have z1000 : q_is (q_z f986 mo 36) w19_mo_36 := Eq.trans (hF.z hmo (by rw [kmo]; rfl)) hj_mo_36
              have z1001 : q_is (q_z f986 mo 37) w19_mo_37 := Eq.trans (hF.z hmo (by rw [kmo]; rfl)) hj_mo_37
              have z1002 : q_is (q_z f986 mo 6) x977 := Eq.trans (hF.z hmo (by rw [kmo]; rfl)) ex977
              have z1003 : q_ir (q_r f986 mo 13) sr := Eq.trans (hF.r hmo (by rw [kmo]; rfl)) hq_mo_13
              have z1004 : q_ir (q_r f986 mo 18) nm := Eq.trans (hF.r hmo (by rw [kmo]; rfl)) hq_mo_18
              have z1005 : q_ir (q_r f986 mo 1) bu := Eq.trans (hF.r hmo (by rw [kmo]; rfl)) hq_mo_1
              have z1006 : q_ir (q_r f986 mo 29) cs := Eq.trans (hF.r hmo (by rw [kmo]; rfl)) hq_mo_29
              have z1007 : q_ir (q_r f986 mo 30) c1 := Eq.trans (hF.r hmo (by rw [kmo]; rfl)) hq_mo_30
              have z1008 : q_ir (q_r f986 mo 31) c2 := Eq.trans (hF.r hmo (by rw [kmo]; rfl)) hq_mo_31
              have z1009 : q_ir (q_r f986 mo 32) c3 := Eq.trans (hF.r hmo (by rw [kmo]; rfl)) hq_mo_32
              have z1010 : q_ir (q_r f986 mo 33) bg := Eq.trans (hF.r hmo (by rw [kmo]; rfl)) hq_mo_33
              have z1011 : q_ir (q_r f986 mo 34) lp := Eq.trans (hF.r hmo (by rw [kmo]; rfl)) hq_mo_34
              have z1012 : q_ir (q_r f986 mo 24) hp := Eq.trans (hF.r hmo (by rw [kmo]; rfl)) hq_mo_24
              have z1013 : q_ir (q_r f986 mo 25) dy := Eq.trans (hF.r hmo (by rw [kmo]; rfl)) hq_mo_25
              have z1014 : q_ir (q_r f986 mo 15) as := Eq.trans (hF.r hmo (by rw [kmo]; rfl)) hq_mo_15
              have z1015 : q_ir (q_r f986 mo 17) pa := Eq.trans (hF.r hmo (by rw [kmo]; rfl)) hq_mo_17
              have g1016 : q_gr f986 sr := q_gr_fr hgr19 (fun i9 _ => hF.z hsr (by rw [ksr]; rfl))
              have g1017 : q_pk f986 mo pa := q_pk_tr hpk19 (hF.z hmo (by rw [kmo]; rfl)) (fun i9 => hF.z hpa (by rw [kpa]; rfl))
              have g1018 : q_pc f986 mo pa xc := q_pc_tr hpc19 (hF.z hmo (by rw [kmo]; rfl)) (fun i9 => hF.z hpa (by rw [kpa]; rfl))
              have g1019 : tk_ub f986 bu B tn := tk_ub_tr hub19 (fun i9 => hF.z hbu (by rw [kbu]; rfl))
              have g1020 : tk_nq f986 nm nl9 := tk_nq_tr hrn19 (fun i9 => hF.j hnm (by rw [knm]; rfl))
              have g1021 : tk_tr f986 mo B tn := tk_tr_tr htr19 (hF.z hmo (by rw [kmo]; rfl)) (hF.z hmo (by rw [kmo]; rfl)) (hF.z hmo (by rw [kmo]; rfl)) (hF.z hmo (by rw [kmo]; rfl)) (hF.j hmo (by rw [kmo]; rfl))
              have g1022 : q_sc f986 mo cs c1 c2 := q_sc_tr hsc19 (hF.z hmo (by rw [kmo]; rfl)) (hF.z hmo (by rw [kmo]; rfl)) (hF.z hmo (by rw [kmo]; rfl)) (fun i9 => hF.z hcs (by rw [kcs]; rfl)) (fun i9 => hF.z hc1 (by rw [kc1]; rfl)) (fun i9 => hF.z hc2 (by rw [kc2]; rfl))
              subst qy987
              refine q_ifne (tgt := 91) cx ⟨by decide, by decide⟩ dX12_runScript_86 (by decide) (fun c1023 => ?_) (fun c1023 => ?_)
              · refine q_ald_n cx dX12_runScript_91 rfl (lv_at hl 0 rfl) ?_
                refine q_cVv (As := []) (rest := []) cx hB (fun _ h => h) hN hmo kmo (by decide) rfl (r_laysAside l g hN hB.2.1 mo hmo kmo sr hsr ksr as has kas xt (by omega) (by omega) xm (by omega) (by omega) xc (by omega) (by omega) z992 z993 z994 z1003 z1014 g1016) q_cX12_247 q_dX12_laysAside (by decide) rfl rfl hl.1 rfl (Nat.le_of_ble_eq_true rfl) dX12_runScript_92 (fun H locs f1024 h1026 hF hB => ?_)
                obtain ⟨lz1027, uz1027, z1028⟩ := h1026
                have z1029 : q_is (q_z f1024 sr 3) xt := Eq.trans (hF.z hsr (by rw [ksr]; rfl)) z992
                have z1030 : q_is (q_z f1024 sr 4) xm := Eq.trans (hF.z hsr (by rw [ksr]; rfl)) z993
                have z1031 : q_is (q_z f1024 sr 0) xc := Eq.trans (hF.z hsr (by rw [ksr]; rfl)) z994
                have z1032 : q_is (q_z f1024 mo 8) w19_mo_8 := Eq.trans (hF.z hmo (by rw [kmo]; rfl)) z995
                have z1033 : q_is (q_z f1024 mo 9) w19_mo_9 := Eq.trans (hF.z hmo (by rw [kmo]; rfl)) z996
                have z1034 : q_is (q_z f1024 mo 2) w19_mo_2 := Eq.trans (hF.z hmo (by rw [kmo]; rfl)) z997
                have z1035 : q_is (q_z f1024 mo 3) tn := Eq.trans (hF.z hmo (by rw [kmo]; rfl)) z998
                have z1036 : q_is (q_z f1024 mo 5) w19_mo_5 := Eq.trans (hF.z hmo (by rw [kmo]; rfl)) z999
                have z1037 : q_is (q_z f1024 mo 36) w19_mo_36 := Eq.trans (hF.z hmo (by rw [kmo]; rfl)) z1000
                have z1038 : q_is (q_z f1024 mo 37) w19_mo_37 := Eq.trans (hF.z hmo (by rw [kmo]; rfl)) z1001
                have z1039 : q_is (q_z f1024 mo 6) x977 := Eq.trans (hF.z hmo (by rw [kmo]; rfl)) z1002
                have z1040 : q_is (q_z f1024 mo 0) 0 := Eq.trans (hF.z hmo (by rw [kmo]; rfl)) z989
                have z1041 : q_is (q_z f1024 mo 10) 0 := Eq.trans (hF.z hmo (by rw [kmo]; rfl)) z990
                have z1042 : q_is (q_z f1024 mo 11) (-1) := Eq.trans (hF.z hmo (by rw [kmo]; rfl)) z991
                have z1043 : q_ir (q_r f1024 mo 13) sr := Eq.trans (hF.r hmo (by rw [kmo]; rfl)) z1003
                have z1044 : q_ir (q_r f1024 mo 18) nm := Eq.trans (hF.r hmo (by rw [kmo]; rfl)) z1004
                have z1045 : q_ir (q_r f1024 mo 1) bu := Eq.trans (hF.r hmo (by rw [kmo]; rfl)) z1005
                have z1046 : q_ir (q_r f1024 mo 29) cs := Eq.trans (hF.r hmo (by rw [kmo]; rfl)) z1006
                have z1047 : q_ir (q_r f1024 mo 30) c1 := Eq.trans (hF.r hmo (by rw [kmo]; rfl)) z1007
                have z1048 : q_ir (q_r f1024 mo 31) c2 := Eq.trans (hF.r hmo (by rw [kmo]; rfl)) z1008
                have z1049 : q_ir (q_r f1024 mo 32) c3 := Eq.trans (hF.r hmo (by rw [kmo]; rfl)) z1009
                have z1050 : q_ir (q_r f1024 mo 33) bg := Eq.trans (hF.r hmo (by rw [kmo]; rfl)) z1010
                have z1051 : q_ir (q_r f1024 mo 34) lp := Eq.trans (hF.r hmo (by rw [kmo]; rfl)) z1011
                have z1052 : q_ir (q_r f1024 mo 24) hp := Eq.trans (hF.r hmo (by rw [kmo]; rfl)) z1012
                have z1053 : q_ir (q_r f1024 mo 25) dy := Eq.trans (hF.r hmo (by rw [kmo]; rfl)) z1013
                have z1054 : q_ir (q_r f1024 mo 15) as := Eq.trans (hF.r hmo (by rw [kmo]; rfl)) z1014
                have z1055 : q_ir (q_r f1024 mo 17) pa := Eq.trans (hF.r hmo (by rw [kmo]; rfl)) z1015
                have g1056 : q_gr f1024 sr := q_gr_fr g1016 (fun i9 _ => hF.z hsr (by rw [ksr]; rfl))
                have g1057 : q_pk f1024 mo pa := q_pk_tr g1017 (hF.z hmo (by rw [kmo]; rfl)) (fun i9 => hF.z hpa (by rw [kpa]; rfl))
                have g1058 : q_pc f1024 mo pa xc := q_pc_tr g1018 (hF.z hmo (by rw [kmo]; rfl)) (fun i9 => hF.z hpa (by rw [kpa]; rfl))
                have g1059 : tk_ub f1024 bu B tn := tk_ub_tr g1019 (fun i9 => hF.z hbu (by rw [kbu]; rfl))
                have g1060 : tk_nq f1024 nm nl9 := tk_nq_tr g1020 (fun i9 => hF.j hnm (by rw [knm]; rfl))
                have g1061 : tk_tr f1024 mo B tn := tk_tr_tr g1021 (hF.z hmo (by rw [kmo]; rfl)) (hF.z hmo (by rw [kmo]; rfl)) (hF.z hmo (by rw [kmo]; rfl)) (hF.z hmo (by rw [kmo]; rfl)) (hF.j hmo (by rw [kmo]; rfl))
                have g1062 : q_sc f1024 mo cs c1 c2 := q_sc_tr g1022 (hF.z hmo (by rw [kmo]; rfl)) (hF.z hmo (by rw [kmo]; rfl)) (hF.z hmo (by rw [kmo]; rfl)) (fun i9 => hF.z hcs (by rw [kcs]; rfl)) (fun i9 => hF.z hc1 (by rw [kc1]; rfl)) (fun i9 => hF.z hc2 (by rw [kc2]; rfl))
                obtain ⟨x1063, ex1063⟩ : ∃ zz, q_is (q_z f1024 as 2) zz := ⟨_, q_isr _⟩
                obtain ⟨lx1063, ux1063⟩ := q_isb ex1063 ⟨lz1027, uz1027⟩
                refine q_ald_n cx dX12_runScript_95 rfl (lv_at hl 0 rfl) ?_
                obtain ⟨x1064, ex1064⟩ : ∃ zz, q_is (q_z f1024 mo 35) zz := ⟨_, q_isr _⟩
                obtain ⟨lx1064, ux1064⟩ := q_isb ex1064 (q_fib hB.2.1 hmo kmo (by decide) rfl)
                refine q_cVi (As := []) (rest := []) cx hB (fun _ h => h) hN hmo kmo (by decide) rfl (r_runs l g hN hB.2.1 mo hmo kmo sr hsr ksr hp hhp khp dy hdy kdy cs hcs kcs c1 hc1 kc1 c2 hc2 kc2 c3 hc3 kc3 bg hbg kbg lp hlp klp xt (by omega) (by omega) xm (by omega) (by omega) xc (by omega) (by omega) x1064 (by omega) (by omega) z1029 z1030 z1031 ex1064 z1043 z1052 z1053 z1046 z1047 z1048 z1049 z1050 z1051 g1056 g1062) q_cX12_506 q_dX12_runs (by decide) rfl rfl hl.1 rfl (Nat.le_of_ble_eq_true rfl) dX12_runScript_96 (fun y1066 H locs f1065 ry1066 h1067 hF hB => ?_)
                obtain ⟨ly1066, uy1066, lz1068, uz1068, lz1069, uz1069, z1070, g1071⟩ := h1067
                have z1072 : q_is (q_z f1065 sr 0) xc := Eq.trans (hF.z hsr (by rw [ksr]; rfl)) z1031
                have z1073 : q_is (q_z f1065 mo 8) w19_mo_8 := Eq.trans (hF.z hmo (by rw [kmo]; rfl)) z1032
                have z1074 : q_is (q_z f1065 mo 9) w19_mo_9 := Eq.trans (hF.z hmo (by rw [kmo]; rfl)) z1033
                have z1075 : q_is (q_z f1065 mo 2) w19_mo_2 := Eq.trans (hF.z hmo (by rw [kmo]; rfl)) z1034
                have z1076 : q_is (q_z f1065 mo 3) tn := Eq.trans (hF.z hmo (by rw [kmo]; rfl)) z1035
                have z1077 : q_is (q_z f1065 mo 5) w19_mo_5 := Eq.trans (hF.z hmo (by rw [kmo]; rfl)) z1036
                have z1078 : q_is (q_z f1065 mo 36) w19_mo_36 := Eq.trans (hF.z hmo (by rw [kmo]; rfl)) z1037
                have z1079 : q_is (q_z f1065 mo 37) w19_mo_37 := Eq.trans (hF.z hmo (by rw [kmo]; rfl)) z1038
                have z1080 : q_is (q_z f1065 mo 6) x977 := Eq.trans (hF.z hmo (by rw [kmo]; rfl)) z1039
                have z1081 : q_is (q_z f1065 mo 0) 0 := Eq.trans (hF.z hmo (by rw [kmo]; rfl)) z1040
                have z1082 : q_is (q_z f1065 mo 10) 0 := Eq.trans (hF.z hmo (by rw [kmo]; rfl)) z1041
                have z1083 : q_is (q_z f1065 mo 11) (-1) := Eq.trans (hF.z hmo (by rw [kmo]; rfl)) z1042
                have z1084 : q_is (q_z f1065 as 2) x1063 := Eq.trans (hF.z has (by rw [kas]; rfl)) ex1063
                have z1085 : q_is (q_z f1065 as 0) xc := Eq.trans (hF.z has (by rw [kas]; rfl)) z1028
                have z1086 : q_is (q_z f1065 mo 35) x1064 := Eq.trans (hF.z hmo (by rw [kmo]; rfl)) ex1064
                have z1087 : q_ir (q_r f1065 mo 13) sr := Eq.trans (hF.r hmo (by rw [kmo]; rfl)) z1043
                have z1088 : q_ir (q_r f1065 mo 18) nm := Eq.trans (hF.r hmo (by rw [kmo]; rfl)) z1044
                have z1089 : q_ir (q_r f1065 mo 1) bu := Eq.trans (hF.r hmo (by rw [kmo]; rfl)) z1045
                have z1090 : q_ir (q_r f1065 mo 29) cs := Eq.trans (hF.r hmo (by rw [kmo]; rfl)) z1046
                have z1091 : q_ir (q_r f1065 mo 30) c1 := Eq.trans (hF.r hmo (by rw [kmo]; rfl)) z1047
                have z1092 : q_ir (q_r f1065 mo 31) c2 := Eq.trans (hF.r hmo (by rw [kmo]; rfl)) z1048
                have z1093 : q_ir (q_r f1065 mo 32) c3 := Eq.trans (hF.r hmo (by rw [kmo]; rfl)) z1049
                have z1094 : q_ir (q_r f1065 mo 33) bg := Eq.trans (hF.r hmo (by rw [kmo]; rfl)) z1050
                have z1095 : q_ir (q_r f1065 mo 34) lp := Eq.trans (hF.r hmo (by rw [kmo]; rfl)) z1051
                have z1096 : q_ir (q_r f1065 mo 24) hp := Eq.trans (hF.r hmo (by rw [kmo]; rfl)) z1052
                have z1097 : q_ir (q_r f1065 mo 25) dy := Eq.trans (hF.r hmo (by rw [kmo]; rfl)) z1053
                have z1098 : q_ir (q_r f1065 mo 15) as := Eq.trans (hF.r hmo (by rw [kmo]; rfl)) z1054
                have z1099 : q_ir (q_r f1065 mo 17) pa := Eq.trans (hF.r hmo (by rw [kmo]; rfl)) z1055
                have g1100 : q_pk f1065 mo pa := q_pk_tr g1057 (hF.z hmo (by rw [kmo]; rfl)) (fun i9 => hF.z hpa (by rw [kpa]; rfl))
                have g1101 : q_pc f1065 mo pa xc := q_pc_tr g1058 (hF.z hmo (by rw [kmo]; rfl)) (fun i9 => hF.z hpa (by rw [kpa]; rfl))
                have g1102 : tk_ub f1065 bu B tn := tk_ub_tr g1059 (fun i9 => hF.z hbu (by rw [kbu]; rfl))
                have g1103 : tk_nq f1065 nm nl9 := tk_nq_tr g1060 (fun i9 => hF.j hnm (by rw [knm]; rfl))
                have g1104 : tk_tr f1065 mo B tn := tk_tr_tr g1061 (hF.z hmo (by rw [kmo]; rfl)) (hF.z hmo (by rw [kmo]; rfl)) (hF.z hmo (by rw [kmo]; rfl)) (hF.z hmo (by rw [kmo]; rfl)) (hF.j hmo (by rw [kmo]; rfl))
                have g1105 : q_sc f1065 mo cs c1 c2 := q_sc_tr g1062 (hF.z hmo (by rw [kmo]; rfl)) (hF.z hmo (by rw [kmo]; rfl)) (hF.z hmo (by rw [kmo]; rfl)) (fun i9 => hF.z hcs (by rw [kcs]; rfl)) (fun i9 => hF.z hc1 (by rw [kc1]; rfl)) (fun i9 => hF.z hc2 (by rw [kc2]; rfl))
                obtain ⟨x1106, ex1106⟩ : ∃ zz, q_is (q_z f1065 sr 3) zz := ⟨_, q_isr _⟩
                obtain ⟨lx1106, ux1106⟩ := q_isb ex1106 ⟨lz1068, uz1068⟩
                obtain ⟨x1107, ex1107⟩ : ∃ zz, q_is (q_z f1065 sr 4) zz := ⟨_, q_isr _⟩
                obtain ⟨lx1107, ux1107⟩ := q_isb ex1107 ⟨lz1069, uz1069⟩
                refine lv_istore_n (lv' := [(1, .int (q_i y1066)), (0, .ref mo)]) cx.1 cx.2.1 dX12_runScript_99 rfl hl (by decide) rfl (fun ls hl => ?_)
                refine q_ald_n cx dX12_runScript_100 rfl (lv_at hl 1 rfl) ?_
                obtain ⟨x1108, ex1108⟩ : ∃ zz, q_is (q_z f1065 mo 21) zz := ⟨_, q_isr _⟩
                obtain ⟨lx1108, ux1108⟩ := q_isb ex1108 (q_fib hB.2.1 hmo kmo (by decide) rfl)
                by_cases c1109 : x1108 ≤ 5
                · refine q_cVv (As := []) (rest := []) cx hB (fun _ h => h) hN hmo kmo (by decide) rfl (r_keeps0 l g hN hB.2.1 mo hmo kmo as has kas pa hpa kpa x1063 (by omega) (by omega) x1108 (by omega) (by omega) xc (by omega) (by omega) z1084 ex1108 z1085 z1098 z1099 g1100 g1101) q_cX12_161 q_dX12_keeps (by decide) rfl rfl hl.1 rfl (Nat.le_of_ble_eq_true rfl) dX12_runScript_101 (fun H locs f1110 h1112 hF hB => ?_)
                  obtain ⟨g1113, g1114⟩ := h1112
                  have z1115 : q_is (q_z f1110 sr 0) xc := Eq.trans (hF.z hsr (by rw [ksr]; rfl)) z1070
                  have z1116 : q_is (q_z f1110 mo 8) w19_mo_8 := Eq.trans (hF.z hmo (by rw [kmo]; rfl)) z1073
                  have z1117 : q_is (q_z f1110 mo 9) w19_mo_9 := Eq.trans (hF.z hmo (by rw [kmo]; rfl)) z1074
                  have z1118 : q_is (q_z f1110 mo 2) w19_mo_2 := Eq.trans (hF.z hmo (by rw [kmo]; rfl)) z1075
                  have z1119 : q_is (q_z f1110 mo 3) tn := Eq.trans (hF.z hmo (by rw [kmo]; rfl)) z1076
                  have z1120 : q_is (q_z f1110 mo 5) w19_mo_5 := Eq.trans (hF.z hmo (by rw [kmo]; rfl)) z1077
                  have z1121 : q_is (q_z f1110 mo 36) w19_mo_36 := Eq.trans (hF.z hmo (by rw [kmo]; rfl)) z1078
                  have z1122 : q_is (q_z f1110 mo 37) w19_mo_37 := Eq.trans (hF.z hmo (by rw [kmo]; rfl)) z1079
                  have z1123 : q_is (q_z f1110 mo 6) x977 := Eq.trans (hF.z hmo (by rw [kmo]; rfl)) z1080
                  have z1124 : q_is (q_z f1110 mo 0) 0 := Eq.trans (hF.z hmo (by rw [kmo]; rfl)) z1081
                  have z1125 : q_is (q_z f1110 mo 10) 0 := Eq.trans (hF.z hmo (by rw [kmo]; rfl)) z1082
                  have z1126 : q_is (q_z f1110 mo 11) (-1) := Eq.trans (hF.z hmo (by rw [kmo]; rfl)) z1083
                  have z1127 : q_is (q_z f1110 as 2) x1063 := Eq.trans (hF.z has (by rw [kas]; rfl)) z1084
                  have z1128 : q_is (q_z f1110 as 0) xc := Eq.trans (hF.z has (by rw [kas]; rfl)) z1085
                  have z1129 : q_is (q_z f1110 mo 35) x1064 := Eq.trans (hF.z hmo (by rw [kmo]; rfl)) z1086
                  have z1130 : q_is (q_z f1110 sr 3) x1106 := Eq.trans (hF.z hsr (by rw [ksr]; rfl)) ex1106
                  have z1131 : q_is (q_z f1110 sr 4) x1107 := Eq.trans (hF.z hsr (by rw [ksr]; rfl)) ex1107
                  have z1132 : q_ir (q_r f1110 mo 13) sr := Eq.trans (hF.r hmo (by rw [kmo]; rfl)) z1087
                  have z1133 : q_ir (q_r f1110 mo 18) nm := Eq.trans (hF.r hmo (by rw [kmo]; rfl)) z1088
                  have z1134 : q_ir (q_r f1110 mo 1) bu := Eq.trans (hF.r hmo (by rw [kmo]; rfl)) z1089
                  have z1135 : q_ir (q_r f1110 mo 29) cs := Eq.trans (hF.r hmo (by rw [kmo]; rfl)) z1090
                  have z1136 : q_ir (q_r f1110 mo 30) c1 := Eq.trans (hF.r hmo (by rw [kmo]; rfl)) z1091
                  have z1137 : q_ir (q_r f1110 mo 31) c2 := Eq.trans (hF.r hmo (by rw [kmo]; rfl)) z1092
                  have z1138 : q_ir (q_r f1110 mo 32) c3 := Eq.trans (hF.r hmo (by rw [kmo]; rfl)) z1093
                  have z1139 : q_ir (q_r f1110 mo 33) bg := Eq.trans (hF.r hmo (by rw [kmo]; rfl)) z1094
                  have z1140 : q_ir (q_r f1110 mo 34) lp := Eq.trans (hF.r hmo (by rw [kmo]; rfl)) z1095
                  have z1141 : q_ir (q_r f1110 mo 24) hp := Eq.trans (hF.r hmo (by rw [kmo]; rfl)) z1096
                  have z1142 : q_ir (q_r f1110 mo 25) dy := Eq.trans (hF.r hmo (by rw [kmo]; rfl)) z1097
                  have z1143 : q_ir (q_r f1110 mo 15) as := Eq.trans (hF.r hmo (by rw [kmo]; rfl)) z1098
                  have z1144 : q_ir (q_r f1110 mo 17) pa := Eq.trans (hF.r hmo (by rw [kmo]; rfl)) z1099
                  have g1145 : q_gr f1110 sr := q_gr_fr g1071 (fun i9 _ => hF.z hsr (by rw [ksr]; rfl))
                  have g1146 : tk_ub f1110 bu B tn := tk_ub_tr g1102 (fun i9 => hF.z hbu (by rw [kbu]; rfl))
                  have g1147 : tk_nq f1110 nm nl9 := tk_nq_tr g1103 (fun i9 => hF.j hnm (by rw [knm]; rfl))
                  have g1148 : tk_tr f1110 mo B tn := tk_tr_tr g1104 (hF.z hmo (by rw [kmo]; rfl)) (hF.z hmo (by rw [kmo]; rfl)) (hF.z hmo (by rw [kmo]; rfl)) (hF.z hmo (by rw [kmo]; rfl)) (hF.j hmo (by rw [kmo]; rfl))
                  have g1149 : q_sc f1110 mo cs c1 c2 := q_sc_tr g1105 (hF.z hmo (by rw [kmo]; rfl)) (hF.z hmo (by rw [kmo]; rfl)) (hF.z hmo (by rw [kmo]; rfl)) (fun i9 => hF.z hcs (by rw [kcs]; rfl)) (fun i9 => hF.z hc1 (by rw [kc1]; rfl)) (fun i9 => hF.z hc2 (by rw [kc2]; rfl))
                  refine q_ild_n cx dX12_runScript_104 rfl (lv_at hl 0 rfl) ?_
                  refine q_iret cx hr hlk hB dX12_runScript_105 ⟨by omega, by omega⟩ ?_
                  exact (Or.inl ⟨(q_isl z1130 (by omega)), (q_isu z1130 (by omega)), (q_isl z1131 (by omega)), (q_isu z1131 (by omega)), z1115, (Eq.trans z1118 (by omega)), z1124, z1125, z1126, (hal.trans (tk_U_end (tk_so_0 (tk_tr_s htr19 hj_mo_5 ex977) (by omega)) (by omega))), g1145, g1113, g1114⟩)
                · refine q_cVv (As := []) (rest := []) cx hB (fun _ h => h) hN hmo kmo (by decide) rfl (r_keeps6 l g hN hB.2.1 mo hmo kmo as has kas pa hpa kpa x1063 (by omega) (by omega) xc (by omega) (by omega) z1084 (Eq.trans ex1108 (by omega)) z1085 z1098 z1099 g1100 g1101) q_cX12_161 q_dX12_keeps (by decide) rfl rfl hl.1 rfl (Nat.le_of_ble_eq_true rfl) dX12_runScript_101 (fun H locs f1150 h1152 hF hB => ?_)
                  obtain ⟨g1153, g1154⟩ := h1152
                  have z1155 : q_is (q_z f1150 sr 0) xc := Eq.trans (hF.z hsr (by rw [ksr]; rfl)) z1070
                  have z1156 : q_is (q_z f1150 mo 8) w19_mo_8 := Eq.trans (hF.z hmo (by rw [kmo]; rfl)) z1073
                  have z1157 : q_is (q_z f1150 mo 9) w19_mo_9 := Eq.trans (hF.z hmo (by rw [kmo]; rfl)) z1074
                  have z1158 : q_is (q_z f1150 mo 2) w19_mo_2 := Eq.trans (hF.z hmo (by rw [kmo]; rfl)) z1075
                  have z1159 : q_is (q_z f1150 mo 3) tn := Eq.trans (hF.z hmo (by rw [kmo]; rfl)) z1076
                  have z1160 : q_is (q_z f1150 mo 5) w19_mo_5 := Eq.trans (hF.z hmo (by rw [kmo]; rfl)) z1077
                  have z1161 : q_is (q_z f1150 mo 36) w19_mo_36 := Eq.trans (hF.z hmo (by rw [kmo]; rfl)) z1078
                  have z1162 : q_is (q_z f1150 mo 37) w19_mo_37 := Eq.trans (hF.z hmo (by rw [kmo]; rfl)) z1079
                  have z1163 : q_is (q_z f1150 mo 6) x977 := Eq.trans (hF.z hmo (by rw [kmo]; rfl)) z1080
                  have z1164 : q_is (q_z f1150 mo 0) 0 := Eq.trans (hF.z hmo (by rw [kmo]; rfl)) z1081
                  have z1165 : q_is (q_z f1150 mo 10) 0 := Eq.trans (hF.z hmo (by rw [kmo]; rfl)) z1082
                  have z1166 : q_is (q_z f1150 mo 11) (-1) := Eq.trans (hF.z hmo (by rw [kmo]; rfl)) z1083
                  have z1167 : q_is (q_z f1150 as 2) x1063 := Eq.trans (hF.z has (by rw [kas]; rfl)) z1084
                  have z1168 : q_is (q_z f1150 as 0) xc := Eq.trans (hF.z has (by rw [kas]; rfl)) z1085
                  have z1169 : q_is (q_z f1150 mo 35) x1064 := Eq.trans (hF.z hmo (by rw [kmo]; rfl)) z1086
                  have z1170 : q_is (q_z f1150 sr 3) x1106 := Eq.trans (hF.z hsr (by rw [ksr]; rfl)) ex1106
                  have z1171 : q_is (q_z f1150 sr 4) x1107 := Eq.trans (hF.z hsr (by rw [ksr]; rfl)) ex1107
                  have z1172 : q_ir (q_r f1150 mo 13) sr := Eq.trans (hF.r hmo (by rw [kmo]; rfl)) z1087
                  have z1173 : q_ir (q_r f1150 mo 18) nm := Eq.trans (hF.r hmo (by rw [kmo]; rfl)) z1088
                  have z1174 : q_ir (q_r f1150 mo 1) bu := Eq.trans (hF.r hmo (by rw [kmo]; rfl)) z1089
                  have z1175 : q_ir (q_r f1150 mo 29) cs := Eq.trans (hF.r hmo (by rw [kmo]; rfl)) z1090
                  have z1176 : q_ir (q_r f1150 mo 30) c1 := Eq.trans (hF.r hmo (by rw [kmo]; rfl)) z1091
                  have z1177 : q_ir (q_r f1150 mo 31) c2 := Eq.trans (hF.r hmo (by rw [kmo]; rfl)) z1092
                  have z1178 : q_ir (q_r f1150 mo 32) c3 := Eq.trans (hF.r hmo (by rw [kmo]; rfl)) z1093
                  have z1179 : q_ir (q_r f1150 mo 33) bg := Eq.trans (hF.r hmo (by rw [kmo]; rfl)) z1094
                  have z1180 : q_ir (q_r f1150 mo 34) lp := Eq.trans (hF.r hmo (by rw [kmo]; rfl)) z1095
                  have z1181 : q_ir (q_r f1150 mo 24) hp := Eq.trans (hF.r hmo (by rw [kmo]; rfl)) z1096
                  have z1182 : q_ir (q_r f1150 mo 25) dy := Eq.trans (hF.r hmo (by rw [kmo]; rfl)) z1097
                  have z1183 : q_ir (q_r f1150 mo 15) as := Eq.trans (hF.r hmo (by rw [kmo]; rfl)) z1098
                  have z1184 : q_ir (q_r f1150 mo 17) pa := Eq.trans (hF.r hmo (by rw [kmo]; rfl)) z1099
                  have g1185 : q_gr f1150 sr := q_gr_fr g1071 (fun i9 _ => hF.z hsr (by rw [ksr]; rfl))
                  have g1186 : tk_ub f1150 bu B tn := tk_ub_tr g1102 (fun i9 => hF.z hbu (by rw [kbu]; rfl))
                  have g1187 : tk_nq f1150 nm nl9 := tk_nq_tr g1103 (fun i9 => hF.j hnm (by rw [knm]; rfl))
                  have g1188 : tk_tr f1150 mo B tn := tk_tr_tr g1104 (hF.z hmo (by rw [kmo]; rfl)) (hF.z hmo (by rw [kmo]; rfl)) (hF.z hmo (by rw [kmo]; rfl)) (hF.z hmo (by rw [kmo]; rfl)) (hF.j hmo (by rw [kmo]; rfl))
                  have g1189 : q_sc f1150 mo cs c1 c2 := q_sc_tr g1105 (hF.z hmo (by rw [kmo]; rfl)) (hF.z hmo (by rw [kmo]; rfl)) (hF.z hmo (by rw [kmo]; rfl)) (fun i9 => hF.z hcs (by rw [kcs]; rfl)) (fun i9 => hF.z hc1 (by rw [kc1]; rfl)) (fun i9 => hF.z hc2 (by rw [kc2]; rfl))
                  refine q_ild_n cx dX12_runScript_104 rfl (lv_at hl 0 rfl) ?_
                  refine q_iret cx hr hlk hB dX12_runScript_105 ⟨by omega, by omega⟩ ?_
                  exact (Or.inl ⟨(q_isl z1170 (by omega)), (q_isu z1170 (by omega)), (q_isl z1171 (by omega)), (q_isu z1171 (by omega)), z1155, (Eq.trans z1158 (by omega)), z1164, z1165, z1166, (hal.trans (tk_U_end (tk_so_0 (tk_tr_s htr19 hj_mo_5 ex977) (by omega)) (by omega))), g1185, g1153, g1154⟩)
              · exact absurd c1023 (by omega)
            · refine q_ald_n cx dX12_runScript_77 rfl (lv_at hl 0 rfl) ?_
              refine q_iconst cx dX12_runScript_78 ?_
              refine q_cVv (As := [.int (q_i 1)]) (rest := []) cx hB (fun _ h => h) hN hmo kmo (by decide) rfl (f_mwrong1 l g hN hB.2.1 mo hmo kmo 1 (by decide) (by decide) w19_mo_5 (by omega) (by omega) hj_mo_5 (Eq.trans hj_mo_8 (by omega)) (Eq.trans hj_mo_9 (by omega))) q_cX12_137 q_dX12_wrong (by decide) rfl rfl hl.1 rfl (Nat.le_of_ble_eq_true rfl) dX12_runScript_79 (fun H locs f1190 h1192 hF hB => ?_)
              obtain ⟨z1193, z1194⟩ := h1192
              have z1195 : q_is (q_z f1190 sr 3) xt := Eq.trans (hF.z hsr (by rw [ksr]; rfl)) hj_sr_3
              have z1196 : q_is (q_z f1190 sr 4) xm := Eq.trans (hF.z hsr (by rw [ksr]; rfl)) hj_sr_4
              have z1197 : q_is (q_z f1190 sr 0) xc := Eq.trans (hF.z hsr (by rw [ksr]; rfl)) hj_sr_0
              have z1198 : q_is (q_z f1190 mo 2) w19_mo_2 := Eq.trans (hF.z hmo (by rw [kmo]; rfl)) hj_mo_2
              have z1199 : q_is (q_z f1190 mo 3) tn := Eq.trans (hF.z hmo (by rw [kmo]; rfl)) hj_mo_3
              have z1200 : q_is (q_z f1190 mo 5) w19_mo_5 := Eq.trans (hF.z hmo (by rw [kmo]; rfl)) hj_mo_5
              have z1201 : q_is (q_z f1190 mo 36) w19_mo_36 := Eq.trans (hF.z hmo (by rw [kmo]; rfl)) hj_mo_36
              have z1202 : q_is (q_z f1190 mo 37) w19_mo_37 := Eq.trans (hF.z hmo (by rw [kmo]; rfl)) hj_mo_37
              have z1203 : q_is (q_z f1190 mo 6) x977 := Eq.trans (hF.z hmo (by rw [kmo]; rfl)) ex977
              have z1204 : q_ir (q_r f1190 mo 13) sr := Eq.trans (hF.r hmo (by rw [kmo]; rfl)) hq_mo_13
              have z1205 : q_ir (q_r f1190 mo 18) nm := Eq.trans (hF.r hmo (by rw [kmo]; rfl)) hq_mo_18
              have z1206 : q_ir (q_r f1190 mo 1) bu := Eq.trans (hF.r hmo (by rw [kmo]; rfl)) hq_mo_1
              have z1207 : q_ir (q_r f1190 mo 29) cs := Eq.trans (hF.r hmo (by rw [kmo]; rfl)) hq_mo_29
              have z1208 : q_ir (q_r f1190 mo 30) c1 := Eq.trans (hF.r hmo (by rw [kmo]; rfl)) hq_mo_30
              have z1209 : q_ir (q_r f1190 mo 31) c2 := Eq.trans (hF.r hmo (by rw [kmo]; rfl)) hq_mo_31
              have z1210 : q_ir (q_r f1190 mo 32) c3 := Eq.trans (hF.r hmo (by rw [kmo]; rfl)) hq_mo_32
              have z1211 : q_ir (q_r f1190 mo 33) bg := Eq.trans (hF.r hmo (by rw [kmo]; rfl)) hq_mo_33
              have z1212 : q_ir (q_r f1190 mo 34) lp := Eq.trans (hF.r hmo (by rw [kmo]; rfl)) hq_mo_34
              have z1213 : q_ir (q_r f1190 mo 24) hp := Eq.trans (hF.r hmo (by rw [kmo]; rfl)) hq_mo_24
              have z1214 : q_ir (q_r f1190 mo 25) dy := Eq.trans (hF.r hmo (by rw [kmo]; rfl)) hq_mo_25
              have z1215 : q_ir (q_r f1190 mo 15) as := Eq.trans (hF.r hmo (by rw [kmo]; rfl)) hq_mo_15
              have z1216 : q_ir (q_r f1190 mo 17) pa := Eq.trans (hF.r hmo (by rw [kmo]; rfl)) hq_mo_17
              have g1217 : q_gr f1190 sr := q_gr_fr hgr19 (fun i9 _ => hF.z hsr (by rw [ksr]; rfl))
              have g1218 : q_pk f1190 mo pa := q_pk_tr hpk19 (hF.z hmo (by rw [kmo]; rfl)) (fun i9 => hF.z hpa (by rw [kpa]; rfl))
              have g1219 : q_pc f1190 mo pa xc := q_pc_tr hpc19 (hF.z hmo (by rw [kmo]; rfl)) (fun i9 => hF.z hpa (by rw [kpa]; rfl))
              have g1220 : tk_ub f1190 bu B tn := tk_ub_tr hub19 (fun i9 => hF.z hbu (by rw [kbu]; rfl))
              have g1221 : tk_nq f1190 nm nl9 := tk_nq_tr hrn19 (fun i9 => hF.j hnm (by rw [knm]; rfl))
              have g1222 : tk_tr f1190 mo B tn := tk_tr_tr htr19 (hF.z hmo (by rw [kmo]; rfl)) (hF.z hmo (by rw [kmo]; rfl)) (hF.z hmo (by rw [kmo]; rfl)) (hF.z hmo (by rw [kmo]; rfl)) (hF.j hmo (by rw [kmo]; rfl))
              have g1223 : q_sc f1190 mo cs c1 c2 := q_sc_tr hsc19 (hF.z hmo (by rw [kmo]; rfl)) (hF.z hmo (by rw [kmo]; rfl)) (hF.z hmo (by rw [kmo]; rfl)) (fun i9 => hF.z hcs (by rw [kcs]; rfl)) (fun i9 => hF.z hc1 (by rw [kc1]; rfl)) (fun i9 => hF.z hc2 (by rw [kc2]; rfl))
              refine q_ald_n cx dX12_runScript_82 rfl (lv_at hl 0 rfl) ?_
              refine q_cVi (As := []) (rest := []) cx hB (fun _ h => h) hN hmo kmo (by decide) rfl (f_mendsText1 l g hN hB.2.1 mo hmo kmo 1 (by decide) (by decide) w19_mo_5 (by omega) (by omega) z1193 z1194) q_cX12_253 q_dX12_endsText (by decide) rfl rfl hl.1 rfl (Nat.le_of_ble_eq_true rfl) dX12_runScript_83 (fun y1225 H locs f1224 ry1225 h1226 hF hB => ?_)
              obtain ⟨qy1225, z1227, z1228, z1229⟩ := h1226
              have z1230 : q_is (q_z f1224 sr 3) xt := Eq.trans (hF.z hsr (by rw [ksr]; rfl)) z1195
              have z1231 : q_is (q_z f1224 sr 4) xm := Eq.trans (hF.z hsr (by rw [ksr]; rfl)) z1196
              have z1232 : q_is (q_z f1224 sr 0) xc := Eq.trans (hF.z hsr (by rw [ksr]; rfl)) z1197
              have z1233 : q_is (q_z f1224 mo 2) w19_mo_2 := Eq.trans (hF.z hmo (by rw [kmo]; rfl)) z1198
              have z1234 : q_is (q_z f1224 mo 3) tn := Eq.trans (hF.z hmo (by rw [kmo]; rfl)) z1199
              have z1235 : q_is (q_z f1224 mo 5) w19_mo_5 := Eq.trans (hF.z hmo (by rw [kmo]; rfl)) z1200
              have z1236 : q_is (q_z f1224 mo 36) w19_mo_36 := Eq.trans (hF.z hmo (by rw [kmo]; rfl)) z1201
              have z1237 : q_is (q_z f1224 mo 37) w19_mo_37 := Eq.trans (hF.z hmo (by rw [kmo]; rfl)) z1202
              have z1238 : q_is (q_z f1224 mo 6) x977 := Eq.trans (hF.z hmo (by rw [kmo]; rfl)) z1203
              have z1239 : q_is (q_z f1224 mo 8) 1 := Eq.trans (hF.z hmo (by rw [kmo]; rfl)) z1193
              have z1240 : q_is (q_z f1224 mo 9) w19_mo_5 := Eq.trans (hF.z hmo (by rw [kmo]; rfl)) z1194
              have z1241 : q_ir (q_r f1224 mo 13) sr := Eq.trans (hF.r hmo (by rw [kmo]; rfl)) z1204
              have z1242 : q_ir (q_r f1224 mo 18) nm := Eq.trans (hF.r hmo (by rw [kmo]; rfl)) z1205
              have z1243 : q_ir (q_r f1224 mo 1) bu := Eq.trans (hF.r hmo (by rw [kmo]; rfl)) z1206
              have z1244 : q_ir (q_r f1224 mo 29) cs := Eq.trans (hF.r hmo (by rw [kmo]; rfl)) z1207
              have z1245 : q_ir (q_r f1224 mo 30) c1 := Eq.trans (hF.r hmo (by rw [kmo]; rfl)) z1208
              have z1246 : q_ir (q_r f1224 mo 31) c2 := Eq.trans (hF.r hmo (by rw [kmo]; rfl)) z1209
              have z1247 : q_ir (q_r f1224 mo 32) c3 := Eq.trans (hF.r hmo (by rw [kmo]; rfl)) z1210
              have z1248 : q_ir (q_r f1224 mo 33) bg := Eq.trans (hF.r hmo (by rw [kmo]; rfl)) z1211
              have z1249 : q_ir (q_r f1224 mo 34) lp := Eq.trans (hF.r hmo (by rw [kmo]; rfl)) z1212
              have z1250 : q_ir (q_r f1224 mo 24) hp := Eq.trans (hF.r hmo (by rw [kmo]; rfl)) z1213
              have z1251 : q_ir (q_r f1224 mo 25) dy := Eq.trans (hF.r hmo (by rw [kmo]; rfl)) z1214
              have z1252 : q_ir (q_r f1224 mo 15) as := Eq.trans (hF.r hmo (by rw [kmo]; rfl)) z1215
              have z1253 : q_ir (q_r f1224 mo 17) pa := Eq.trans (hF.r hmo (by rw [kmo]; rfl)) z1216
              have g1254 : q_gr f1224 sr := q_gr_fr g1217 (fun i9 _ => hF.z hsr (by rw [ksr]; rfl))
              have g1255 : q_pk f1224 mo pa := q_pk_tr g1218 (hF.z hmo (by rw [kmo]; rfl)) (fun i9 => hF.z hpa (by rw [kpa]; rfl))
              have g1256 : q_pc f1224 mo pa xc := q_pc_tr g1219 (hF.z hmo (by rw [kmo]; rfl)) (fun i9 => hF.z hpa (by rw [kpa]; rfl))
              have g1257 : tk_ub f1224 bu B tn := tk_ub_tr g1220 (fun i9 => hF.z hbu (by rw [kbu]; rfl))
              have g1258 : tk_nq f1224 nm nl9 := tk_nq_tr g1221 (fun i9 => hF.j hnm (by rw [knm]; rfl))
              have g1259 : tk_tr f1224 mo B tn := tk_tr_tr g1222 (hF.z hmo (by rw [kmo]; rfl)) (hF.z hmo (by rw [kmo]; rfl)) (hF.z hmo (by rw [kmo]; rfl)) (hF.z hmo (by rw [kmo]; rfl)) (hF.j hmo (by rw [kmo]; rfl))
              have g1260 : q_sc f1224 mo cs c1 c2 := q_sc_tr g1223 (hF.z hmo (by rw [kmo]; rfl)) (hF.z hmo (by rw [kmo]; rfl)) (hF.z hmo (by rw [kmo]; rfl)) (fun i9 => hF.z hcs (by rw [kcs]; rfl)) (fun i9 => hF.z hc1 (by rw [kc1]; rfl)) (fun i9 => hF.z hc2 (by rw [kc2]; rfl))
              subst qy1225
              refine q_ifne (tgt := 91) cx ⟨by decide, by decide⟩ dX12_runScript_86 (by decide) (fun c1261 => ?_) (fun c1261 => ?_)
              · exact absurd c1261 (by omega)
              · refine q_iconst cx dX12_runScript_89 ?_
                refine q_iret cx hr hlk hB dX12_runScript_90 ⟨by decide, by decide⟩ ?_
                exact (Or.inr ⟨rfl, (q_isl z1230 (by omega)), (q_isu z1230 (by omega)), (q_isl z1231 (by omega)), (q_isu z1231 (by omega)), z1232, (Eq.trans z1233 (by omega)), z1227, (tk_erp (tk_erx (hal.trans (tk_U_open (tk_so_0 (tk_tr_s htr19 hj_mo_5 ex977) (by omega)) (by omega) z1193 z1194)) z1193 z1194) z1228 z1229), g1254, g1255, g1256⟩)
        · refine q_ald_n cx dX12_runScript_33 rfl (lv_at hl 0 rfl) ?_
          refine q_gX12_488 cx hB hmo kmo hj_mo_37 dX12_runScript_34 (fun lb1262 ub1262 => ?_)
          refine lv_istore_n (lv' := [(1, .int (q_i w19_mo_37)), (0, .ref mo)]) cx.1 cx.2.1 dX12_runScript_37 rfl hl (by decide) rfl (fun ls hl => ?_)
          refine q_ald_n cx dX12_runScript_38 rfl (lv_at hl 1 rfl) ?_
          refine q_cVv (As := []) (rest := []) cx hB (fun _ h => h) hN hmo kmo (by decide) rfl (f_mcommand l g hN hB.2.1 B nl9 mo hmo kmo sr hsr ksr nm hnm knm bu hbu kbu cs hcs kcs c1 hc1 kc1 c2 hc2 kc2 c3 hc3 kc3 tn (by omega) (by omega) w19_mo_5 (by omega) (by omega) xc (by omega) (by omega) w19_mo_37 (by omega) (by omega) w19_mo_36 (by omega) (by omega) hj_mo_3 hj_mo_5 (Eq.trans hj_mo_8 (by omega)) (Eq.trans hj_mo_9 (by omega)) hj_sr_0 hj_mo_37 hj_mo_36 hq_mo_13 hq_mo_18 hq_mo_1 hq_mo_29 hq_mo_30 hq_mo_31 hq_mo_32 hp0 htr19 hub19 hrn19 hsc19) q_cX12_500 q_dX12_command (by decide) rfl rfl hl.1 rfl (Nat.le_of_ble_eq_true rfl) dX12_runScript_39 (fun H locs f1263 h1265 hF hB => ?_)
          rcases h1265 with h1266 | h1267 | h1268
          · obtain ⟨z1269, z1270, z1271, z1272, t1273, t1274, t1275, g1276⟩ := h1266
            have z1277 : q_is (q_z f1263 sr 3) xt := Eq.trans (hF.z hsr (by rw [ksr]; rfl)) hj_sr_3
            have z1278 : q_is (q_z f1263 sr 4) xm := Eq.trans (hF.z hsr (by rw [ksr]; rfl)) hj_sr_4
            have z1279 : q_is (q_z f1263 sr 0) xc := Eq.trans (hF.z hsr (by rw [ksr]; rfl)) hj_sr_0
            have z1280 : q_is (q_z f1263 mo 2) w19_mo_2 := Eq.trans (hF.z hmo (by rw [kmo]; rfl)) hj_mo_2
            have z1281 : q_is (q_z f1263 mo 3) tn := Eq.trans (hF.z hmo (by rw [kmo]; rfl)) hj_mo_3
            have z1282 : q_ir (q_r f1263 mo 13) sr := Eq.trans (hF.r hmo (by rw [kmo]; rfl)) hq_mo_13
            have z1283 : q_ir (q_r f1263 mo 18) nm := Eq.trans (hF.r hmo (by rw [kmo]; rfl)) hq_mo_18
            have z1284 : q_ir (q_r f1263 mo 1) bu := Eq.trans (hF.r hmo (by rw [kmo]; rfl)) hq_mo_1
            have z1285 : q_ir (q_r f1263 mo 29) cs := Eq.trans (hF.r hmo (by rw [kmo]; rfl)) hq_mo_29
            have z1286 : q_ir (q_r f1263 mo 30) c1 := Eq.trans (hF.r hmo (by rw [kmo]; rfl)) hq_mo_30
            have z1287 : q_ir (q_r f1263 mo 31) c2 := Eq.trans (hF.r hmo (by rw [kmo]; rfl)) hq_mo_31
            have z1288 : q_ir (q_r f1263 mo 32) c3 := Eq.trans (hF.r hmo (by rw [kmo]; rfl)) hq_mo_32
            have z1289 : q_ir (q_r f1263 mo 33) bg := Eq.trans (hF.r hmo (by rw [kmo]; rfl)) hq_mo_33
            have z1290 : q_ir (q_r f1263 mo 34) lp := Eq.trans (hF.r hmo (by rw [kmo]; rfl)) hq_mo_34
            have z1291 : q_ir (q_r f1263 mo 24) hp := Eq.trans (hF.r hmo (by rw [kmo]; rfl)) hq_mo_24
            have z1292 : q_ir (q_r f1263 mo 25) dy := Eq.trans (hF.r hmo (by rw [kmo]; rfl)) hq_mo_25
            have z1293 : q_ir (q_r f1263 mo 15) as := Eq.trans (hF.r hmo (by rw [kmo]; rfl)) hq_mo_15
            have z1294 : q_ir (q_r f1263 mo 17) pa := Eq.trans (hF.r hmo (by rw [kmo]; rfl)) hq_mo_17
            have g1295 : q_gr f1263 sr := q_gr_fr hgr19 (fun i9 _ => hF.z hsr (by rw [ksr]; rfl))
            have g1296 : q_pk f1263 mo pa := q_pk_tr hpk19 (hF.z hmo (by rw [kmo]; rfl)) (fun i9 => hF.z hpa (by rw [kpa]; rfl))
            have g1297 : q_pc f1263 mo pa xc := q_pc_tr hpc19 (hF.z hmo (by rw [kmo]; rfl)) (fun i9 => hF.z hpa (by rw [kpa]; rfl))
            have g1298 : tk_ub f1263 bu B tn := tk_ub_tr hub19 (fun i9 => hF.z hbu (by rw [kbu]; rfl))
            have g1299 : tk_nq f1263 nm nl9 := tk_nq_tr hrn19 (fun i9 => hF.j hnm (by rw [knm]; rfl))
            obtain ⟨x1300, ex1300⟩ : ∃ zz, q_is (q_z f1263 mo 5) zz := ⟨_, q_isr _⟩
            obtain ⟨lx1300, ux1300⟩ := q_isb ex1300 (q_fib hB.2.1 hmo kmo (by decide) rfl)
            obtain ⟨-, l0x1300, u0x1300, -, -⟩ := tk_tr_n g1276 ex1300
            have hcm9 : tk_cm B tn nl9 w19_mo_5 w19_mo_37 w19_mo_36 = tk_ok (x1300, w19_mo_37, (w19_mo_36 + 1)) := tk_xof t1273 ex1300 z1271 z1272
            refine q_ald_n cx dX12_runScript_42 rfl (lv_at hl 1 rfl) ?_
            refine q_gX12_488 cx hB hmo kmo z1271 dX12_runScript_43 (fun lb1301 ub1301 => ?_)
            refine q_ild_n cx dX12_runScript_46 rfl (lv_at hl 0 rfl) ?_
            refine q_icne (tgt := 56) cx ⟨by omega, by omega⟩ ⟨by omega, by omega⟩ dX12_runScript_47 (by decide) (fun c1302 => ?_) (fun c1302 => ?_)
            · exact absurd c1302 (by omega)
            · refine q_ald_n cx dX12_runScript_50 rfl (lv_at hl 1 rfl) ?_
              refine q_bipush cx dX12_runScript_51 rfl ?_
              refine q_cVv (As := [.int (q_i 59)]) (rest := []) cx hB (fun _ h => h) hN hmo kmo (by decide) rfl (f_mmustSign l g hN hB.2.1 B mo hmo kmo 59 (by decide) (by decide) bu hbu kbu tn (by omega) (by omega) x1300 (by omega) (by omega) z1281 ex1300 z1269 z1270 z1284 (by omega) g1276 g1298) q_cX12_241 q_dX12_mustSign (by decide) rfl rfl hl.1 rfl (Nat.le_of_ble_eq_true rfl) dX12_runScript_53 (fun H locs f1303 h1305 hF hB => ?_)
              rcases h1305 with h1306 | h1307
              · obtain ⟨z1308, z1309, t1310, g1311⟩ := h1306
                have z1312 : q_is (q_z f1303 sr 3) xt := Eq.trans (hF.z hsr (by rw [ksr]; rfl)) z1277
                have z1313 : q_is (q_z f1303 sr 4) xm := Eq.trans (hF.z hsr (by rw [ksr]; rfl)) z1278
                have z1314 : q_is (q_z f1303 sr 0) xc := Eq.trans (hF.z hsr (by rw [ksr]; rfl)) z1279
                have z1315 : q_is (q_z f1303 mo 2) w19_mo_2 := Eq.trans (hF.z hmo (by rw [kmo]; rfl)) z1280
                have z1316 : q_is (q_z f1303 mo 3) tn := Eq.trans (hF.z hmo (by rw [kmo]; rfl)) z1281
                have z1317 : q_is (q_z f1303 mo 37) w19_mo_37 := Eq.trans (hF.z hmo (by rw [kmo]; rfl)) z1271
                have z1318 : q_is (q_z f1303 mo 36) (w19_mo_36 + 1) := Eq.trans (hF.z hmo (by rw [kmo]; rfl)) z1272
                have z1319 : q_ir (q_r f1303 mo 13) sr := Eq.trans (hF.r hmo (by rw [kmo]; rfl)) z1282
                have z1320 : q_ir (q_r f1303 mo 18) nm := Eq.trans (hF.r hmo (by rw [kmo]; rfl)) z1283
                have z1321 : q_ir (q_r f1303 mo 1) bu := Eq.trans (hF.r hmo (by rw [kmo]; rfl)) z1284
                have z1322 : q_ir (q_r f1303 mo 29) cs := Eq.trans (hF.r hmo (by rw [kmo]; rfl)) z1285
                have z1323 : q_ir (q_r f1303 mo 30) c1 := Eq.trans (hF.r hmo (by rw [kmo]; rfl)) z1286
                have z1324 : q_ir (q_r f1303 mo 31) c2 := Eq.trans (hF.r hmo (by rw [kmo]; rfl)) z1287
                have z1325 : q_ir (q_r f1303 mo 32) c3 := Eq.trans (hF.r hmo (by rw [kmo]; rfl)) z1288
                have z1326 : q_ir (q_r f1303 mo 33) bg := Eq.trans (hF.r hmo (by rw [kmo]; rfl)) z1289
                have z1327 : q_ir (q_r f1303 mo 34) lp := Eq.trans (hF.r hmo (by rw [kmo]; rfl)) z1290
                have z1328 : q_ir (q_r f1303 mo 24) hp := Eq.trans (hF.r hmo (by rw [kmo]; rfl)) z1291
                have z1329 : q_ir (q_r f1303 mo 25) dy := Eq.trans (hF.r hmo (by rw [kmo]; rfl)) z1292
                have z1330 : q_ir (q_r f1303 mo 15) as := Eq.trans (hF.r hmo (by rw [kmo]; rfl)) z1293
                have z1331 : q_ir (q_r f1303 mo 17) pa := Eq.trans (hF.r hmo (by rw [kmo]; rfl)) z1294
                have g1332 : q_gr f1303 sr := q_gr_fr g1295 (fun i9 _ => hF.z hsr (by rw [ksr]; rfl))
                have g1333 : q_pk f1303 mo pa := q_pk_tr g1296 (hF.z hmo (by rw [kmo]; rfl)) (fun i9 => hF.z hpa (by rw [kpa]; rfl))
                have g1334 : q_pc f1303 mo pa xc := q_pc_tr g1297 (hF.z hmo (by rw [kmo]; rfl)) (fun i9 => hF.z hpa (by rw [kpa]; rfl))
                have g1335 : tk_ub f1303 bu B tn := tk_ub_tr g1298 (fun i9 => hF.z hbu (by rw [kbu]; rfl))
                have g1336 : tk_nq f1303 nm nl9 := tk_nq_tr g1299 (fun i9 => hF.j hnm (by rw [knm]; rfl))
                have g1337 : q_sc f1303 mo cs c1 c2 := q_sc_tr t1275 (hF.z hmo (by rw [kmo]; rfl)) (hF.z hmo (by rw [kmo]; rfl)) (hF.z hmo (by rw [kmo]; rfl)) (fun i9 => hF.z hcs (by rw [kcs]; rfl)) (fun i9 => hF.z hc1 (by rw [kc1]; rfl)) (fun i9 => hF.z hc2 (by rw [kc2]; rfl))
                obtain ⟨x1338, ex1338⟩ : ∃ zz, q_is (q_z f1303 mo 5) zz := ⟨_, q_isr _⟩
                obtain ⟨lx1338, ux1338⟩ := q_isb ex1338 (q_fib hB.2.1 hmo kmo (by decide) rfl)
                obtain ⟨-, l0x1338, u0x1338, -, -⟩ := tk_tr_n g1311 ex1338
                have hsx9 : tk_sx B tn nl9 w19_mo_5 w19_mo_37 w19_mo_36 = tk_ok (x1338, w19_mo_37, (w19_mo_36 + 1)) := Eq.trans (tk_sx_cd hncl) (tk_cd_n hcm9 (by omega) (tk_okx t1310 ex1338))
                have hlt9 := tk_sx_in hsx9 (by omega) (by omega)
                have hlt8 : w19_mo_5 < x1338 := hlt9.1
                refine q_ald_n cx dX12_runScript_56 rfl (lv_at hl 1 rfl) ?_
                refine q_cVv (As := []) (rest := []) cx hB (fun _ h => h) hN hmo kmo (by decide) rfl (f_mcloses0 l g hN hB.2.1 B nl9 mo hmo kmo bu hbu kbu cs hcs kcs c1 hc1 kc1 c2 hc2 kc2 tn (by omega) (by omega) x1338 (by omega) (by omega) w19_mo_37 (by omega) (by omega) (w19_mo_36 + 1) (by omega) (by omega) z1316 ex1338 z1308 z1309 z1317 z1318 z1321 z1322 z1323 z1324 g1311 g1335 g1337) q_cX12_503 q_dX12_closes (by decide) rfl rfl hl.1 rfl (Nat.le_of_ble_eq_true rfl) dX12_runScript_57 (fun H locs f1339 h1341 hF hB => ?_)
                rcases h1341 with h1342 | h1343
                · obtain ⟨z1344, z1345, z1346, lz1347, uz1347, t1348, t1349, t1350, t1351, t1352, g1353⟩ := h1342
                  have z1354 : q_is (q_z f1339 sr 3) xt := Eq.trans (hF.z hsr (by rw [ksr]; rfl)) z1312
                  have z1355 : q_is (q_z f1339 sr 4) xm := Eq.trans (hF.z hsr (by rw [ksr]; rfl)) z1313
                  have z1356 : q_is (q_z f1339 sr 0) xc := Eq.trans (hF.z hsr (by rw [ksr]; rfl)) z1314
                  have z1357 : q_is (q_z f1339 mo 2) w19_mo_2 := Eq.trans (hF.z hmo (by rw [kmo]; rfl)) z1315
                  have z1358 : q_is (q_z f1339 mo 3) tn := Eq.trans (hF.z hmo (by rw [kmo]; rfl)) z1316
                  have z1359 : q_is (q_z f1339 mo 36) (w19_mo_36 + 1) := Eq.trans (hF.z hmo (by rw [kmo]; rfl)) z1318
                  have z1360 : q_ir (q_r f1339 mo 13) sr := Eq.trans (hF.r hmo (by rw [kmo]; rfl)) z1319
                  have z1361 : q_ir (q_r f1339 mo 18) nm := Eq.trans (hF.r hmo (by rw [kmo]; rfl)) z1320
                  have z1362 : q_ir (q_r f1339 mo 1) bu := Eq.trans (hF.r hmo (by rw [kmo]; rfl)) z1321
                  have z1363 : q_ir (q_r f1339 mo 29) cs := Eq.trans (hF.r hmo (by rw [kmo]; rfl)) z1322
                  have z1364 : q_ir (q_r f1339 mo 30) c1 := Eq.trans (hF.r hmo (by rw [kmo]; rfl)) z1323
                  have z1365 : q_ir (q_r f1339 mo 31) c2 := Eq.trans (hF.r hmo (by rw [kmo]; rfl)) z1324
                  have z1366 : q_ir (q_r f1339 mo 32) c3 := Eq.trans (hF.r hmo (by rw [kmo]; rfl)) z1325
                  have z1367 : q_ir (q_r f1339 mo 33) bg := Eq.trans (hF.r hmo (by rw [kmo]; rfl)) z1326
                  have z1368 : q_ir (q_r f1339 mo 34) lp := Eq.trans (hF.r hmo (by rw [kmo]; rfl)) z1327
                  have z1369 : q_ir (q_r f1339 mo 24) hp := Eq.trans (hF.r hmo (by rw [kmo]; rfl)) z1328
                  have z1370 : q_ir (q_r f1339 mo 25) dy := Eq.trans (hF.r hmo (by rw [kmo]; rfl)) z1329
                  have z1371 : q_ir (q_r f1339 mo 15) as := Eq.trans (hF.r hmo (by rw [kmo]; rfl)) z1330
                  have z1372 : q_ir (q_r f1339 mo 17) pa := Eq.trans (hF.r hmo (by rw [kmo]; rfl)) z1331
                  have g1373 : q_gr f1339 sr := q_gr_fr g1332 (fun i9 _ => hF.z hsr (by rw [ksr]; rfl))
                  have g1374 : q_pk f1339 mo pa := q_pk_tr g1333 (hF.z hmo (by rw [kmo]; rfl)) (fun i9 => hF.z hpa (by rw [kpa]; rfl))
                  have g1375 : q_pc f1339 mo pa xc := q_pc_tr g1334 (hF.z hmo (by rw [kmo]; rfl)) (fun i9 => hF.z hpa (by rw [kpa]; rfl))
                  have g1376 : tk_ub f1339 bu B tn := tk_ub_tr g1335 (fun i9 => hF.z hbu (by rw [kbu]; rfl))
                  have g1377 : tk_nq f1339 nm nl9 := tk_nq_tr g1336 (fun i9 => hF.j hnm (by rw [knm]; rfl))
                  obtain ⟨x1378, ex1378⟩ : ∃ zz, q_is (q_z f1339 mo 37) zz := ⟨_, q_isr _⟩
                  obtain ⟨lx1378, ux1378⟩ := q_isb ex1378 ⟨lz1347, uz1347⟩
                  obtain ⟨x1379, ex1379⟩ : ∃ zz, q_is (q_z f1339 mo 5) zz := ⟨_, q_isr _⟩
                  obtain ⟨lx1379, ux1379⟩ := q_isb ex1379 (q_fib hB.2.1 hmo kmo (by decide) rfl)
                  obtain ⟨-, l0x1379, u0x1379, -, -⟩ := tk_tr_n g1353 ex1379
                  have g1380 : _ ≤ _ := t1350
                  have g1381 : w19_mo_5 < x1379 := by have h7 : _ = _ := ex1379; omega
                  have g1382 : _ ≤ _ := t1351
                  have g1383 : x1378 ≤ w19_mo_37 := by have h7 : _ = _ := ex1378; omega
                  refine lv_goto (tgt := 19) cx.1 cx.2.1 dX12_runScript_60 (by decide) ?_
                  exact ih19 f1339 0 (by decide) (by decide) (-1) (by decide) (by decide) w19_mo_2 (by omega) (by omega) x1379 (by omega) (by omega) (w19_mo_36 + 1) (by omega) (by omega) x1378 (by omega) (by omega) z1354 z1355 z1356 z1344 z1345 z1357 z1358 ex1379 z1346 ex1378 z1360 z1361 z1362 z1363 z1364 z1365 z1366 z1367 z1368 z1369 z1370 z1371 z1372 g1373 g1375 g1374 g1377 t1352 g1353 g1376 (by omega) (hal.trans ((tk_U_ok (by omega) (by omega) (tk_so_0n (tk_tr_s htr19 hj_mo_5 ex977) (by omega)) hsx9).trans (tk_U_r t1348 ex1379 ex1378))) (tk_ncl_r t1349 ex1379 ex1378) (by omega) H locs hB ls (lv_sub hl [1] rfl)
                · obtain ⟨lz1384, uz1384, t1385, g1386⟩ := h1343
                  have z1387 : q_is (q_z f1339 sr 3) xt := Eq.trans (hF.z hsr (by rw [ksr]; rfl)) z1312
                  have z1388 : q_is (q_z f1339 sr 4) xm := Eq.trans (hF.z hsr (by rw [ksr]; rfl)) z1313
                  have z1389 : q_is (q_z f1339 sr 0) xc := Eq.trans (hF.z hsr (by rw [ksr]; rfl)) z1314
                  have z1390 : q_is (q_z f1339 mo 2) w19_mo_2 := Eq.trans (hF.z hmo (by rw [kmo]; rfl)) z1315
                  have z1391 : q_is (q_z f1339 mo 3) tn := Eq.trans (hF.z hmo (by rw [kmo]; rfl)) z1316
                  have z1392 : q_is (q_z f1339 mo 36) (w19_mo_36 + 1) := Eq.trans (hF.z hmo (by rw [kmo]; rfl)) z1318
                  have z1393 : q_ir (q_r f1339 mo 13) sr := Eq.trans (hF.r hmo (by rw [kmo]; rfl)) z1319
                  have z1394 : q_ir (q_r f1339 mo 18) nm := Eq.trans (hF.r hmo (by rw [kmo]; rfl)) z1320
                  have z1395 : q_ir (q_r f1339 mo 1) bu := Eq.trans (hF.r hmo (by rw [kmo]; rfl)) z1321
                  have z1396 : q_ir (q_r f1339 mo 29) cs := Eq.trans (hF.r hmo (by rw [kmo]; rfl)) z1322
                  have z1397 : q_ir (q_r f1339 mo 30) c1 := Eq.trans (hF.r hmo (by rw [kmo]; rfl)) z1323
                  have z1398 : q_ir (q_r f1339 mo 31) c2 := Eq.trans (hF.r hmo (by rw [kmo]; rfl)) z1324
                  have z1399 : q_ir (q_r f1339 mo 32) c3 := Eq.trans (hF.r hmo (by rw [kmo]; rfl)) z1325
                  have z1400 : q_ir (q_r f1339 mo 33) bg := Eq.trans (hF.r hmo (by rw [kmo]; rfl)) z1326
                  have z1401 : q_ir (q_r f1339 mo 34) lp := Eq.trans (hF.r hmo (by rw [kmo]; rfl)) z1327
                  have z1402 : q_ir (q_r f1339 mo 24) hp := Eq.trans (hF.r hmo (by rw [kmo]; rfl)) z1328
                  have z1403 : q_ir (q_r f1339 mo 25) dy := Eq.trans (hF.r hmo (by rw [kmo]; rfl)) z1329
                  have z1404 : q_ir (q_r f1339 mo 15) as := Eq.trans (hF.r hmo (by rw [kmo]; rfl)) z1330
                  have z1405 : q_ir (q_r f1339 mo 17) pa := Eq.trans (hF.r hmo (by rw [kmo]; rfl)) z1331
                  have g1406 : q_gr f1339 sr := q_gr_fr g1332 (fun i9 _ => hF.z hsr (by rw [ksr]; rfl))
                  have g1407 : q_pk f1339 mo pa := q_pk_tr g1333 (hF.z hmo (by rw [kmo]; rfl)) (fun i9 => hF.z hpa (by rw [kpa]; rfl))
                  have g1408 : q_pc f1339 mo pa xc := q_pc_tr g1334 (hF.z hmo (by rw [kmo]; rfl)) (fun i9 => hF.z hpa (by rw [kpa]; rfl))
                  have g1409 : tk_ub f1339 bu B tn := tk_ub_tr g1335 (fun i9 => hF.z hbu (by rw [kbu]; rfl))
                  have g1410 : tk_nq f1339 nm nl9 := tk_nq_tr g1336 (fun i9 => hF.j hnm (by rw [knm]; rfl))
                  obtain ⟨x1411, ex1411⟩ : ∃ zz, q_is (q_z f1339 mo 8) zz := ⟨_, q_isr _⟩
                  obtain ⟨lx1411, ux1411⟩ := q_isb ex1411 ⟨lz1384, uz1384⟩
                  obtain ⟨x1412, ex1412⟩ : ∃ zz, q_is (q_z f1339 mo 5) zz := ⟨_, q_isr _⟩
                  obtain ⟨lx1412, ux1412⟩ := q_isb ex1412 (q_fib hB.2.1 hmo kmo (by decide) rfl)
                  obtain ⟨x1413, ex1413⟩ : ∃ zz, q_is (q_z f1339 mo 9) zz := ⟨_, q_isr _⟩
                  obtain ⟨lx1413, ux1413⟩ := q_isb ex1413 (q_fib hB.2.1 hmo kmo (by decide) rfl)
                  obtain ⟨x1414, ex1414⟩ : ∃ zz, q_is (q_z f1339 mo 37) zz := ⟨_, q_isr _⟩
                  obtain ⟨lx1414, ux1414⟩ := q_isb ex1414 (q_fib hB.2.1 hmo kmo (by decide) rfl)
                  obtain ⟨-, l0x1412, u0x1412, -, -⟩ := tk_tr_n g1386 ex1412
                  refine lv_goto (tgt := 19) cx.1 cx.2.1 dX12_runScript_60 (by decide) ?_
                  refine q_ald_n cx dX12_runScript_19 rfl (lv_at hl 1 rfl) ?_
                  refine q_cVi (As := []) (rest := []) cx hB (fun _ h => h) hN hmo kmo (by decide) rfl (r_isGood1 l g hN hB.2.1 mo hmo kmo x1411 (by omega) (by omega) ex1411) q_cX12_130 q_dX12_isGood (by decide) rfl rfl hl.1 rfl (Nat.le_of_ble_eq_true rfl) dX12_runScript_20 (fun y1416 H locs f1415 ry1416 h1417 hF hB => ?_)
                  obtain ⟨rfl, qy1416⟩ := h1417
                  subst qy1416
                  refine q_ifeq (tgt := 63) cx ⟨by decide, by decide⟩ dX12_runScript_23 (by decide) (fun c1418 => ?_) (fun c1418 => ?_)
                  · refine q_ald_n cx dX12_runScript_63 rfl (lv_at hl 1 rfl) ?_
                    refine q_cVi (As := []) (rest := []) cx hB (fun _ h => h) hN hmo kmo (by decide) rfl (r_isGood1 l g hN hB.2.1 mo hmo kmo x1411 (by omega) (by omega) ex1411) q_cX12_130 q_dX12_isGood (by decide) rfl rfl hl.1 rfl (Nat.le_of_ble_eq_true rfl) dX12_runScript_64 (fun y1420 H locs f1419 ry1420 h1421 hF hB => ?_)
                    obtain ⟨rfl, qy1420⟩ := h1421
                    subst qy1420
                    refine q_ifeq (tgt := 82) cx ⟨by decide, by decide⟩ dX12_runScript_67 (by decide) (fun c1422 => ?_) (fun c1422 => ?_)
                    · refine q_ald_n cx dX12_runScript_82 rfl (lv_at hl 1 rfl) ?_
                      refine q_cVi (As := []) (rest := []) cx hB (fun _ h => h) hN hmo kmo (by decide) rfl (f_mendsText1 l g hN hB.2.1 mo hmo kmo x1411 (by omega) (by omega) x1413 (by omega) (by omega) ex1411 ex1413) q_cX12_253 q_dX12_endsText (by decide) rfl rfl hl.1 rfl (Nat.le_of_ble_eq_true rfl) dX12_runScript_83 (fun y1424 H locs f1423 ry1424 h1425 hF hB => ?_)
                      obtain ⟨qy1424, z1426, z1427, z1428⟩ := h1425
                      have z1429 : q_is (q_z f1423 sr 3) xt := Eq.trans (hF.z hsr (by rw [ksr]; rfl)) z1387
                      have z1430 : q_is (q_z f1423 sr 4) xm := Eq.trans (hF.z hsr (by rw [ksr]; rfl)) z1388
                      have z1431 : q_is (q_z f1423 sr 0) xc := Eq.trans (hF.z hsr (by rw [ksr]; rfl)) z1389
                      have z1432 : q_is (q_z f1423 mo 2) w19_mo_2 := Eq.trans (hF.z hmo (by rw [kmo]; rfl)) z1390
                      have z1433 : q_is (q_z f1423 mo 3) tn := Eq.trans (hF.z hmo (by rw [kmo]; rfl)) z1391
                      have z1434 : q_is (q_z f1423 mo 36) (w19_mo_36 + 1) := Eq.trans (hF.z hmo (by rw [kmo]; rfl)) z1392
                      have z1435 : q_is (q_z f1423 mo 8) x1411 := Eq.trans (hF.z hmo (by rw [kmo]; rfl)) ex1411
                      have z1436 : q_is (q_z f1423 mo 5) x1412 := Eq.trans (hF.z hmo (by rw [kmo]; rfl)) ex1412
                      have z1437 : q_is (q_z f1423 mo 9) x1413 := Eq.trans (hF.z hmo (by rw [kmo]; rfl)) ex1413
                      have z1438 : q_is (q_z f1423 mo 37) x1414 := Eq.trans (hF.z hmo (by rw [kmo]; rfl)) ex1414
                      have z1439 : q_ir (q_r f1423 mo 13) sr := Eq.trans (hF.r hmo (by rw [kmo]; rfl)) z1393
                      have z1440 : q_ir (q_r f1423 mo 18) nm := Eq.trans (hF.r hmo (by rw [kmo]; rfl)) z1394
                      have z1441 : q_ir (q_r f1423 mo 1) bu := Eq.trans (hF.r hmo (by rw [kmo]; rfl)) z1395
                      have z1442 : q_ir (q_r f1423 mo 29) cs := Eq.trans (hF.r hmo (by rw [kmo]; rfl)) z1396
                      have z1443 : q_ir (q_r f1423 mo 30) c1 := Eq.trans (hF.r hmo (by rw [kmo]; rfl)) z1397
                      have z1444 : q_ir (q_r f1423 mo 31) c2 := Eq.trans (hF.r hmo (by rw [kmo]; rfl)) z1398
                      have z1445 : q_ir (q_r f1423 mo 32) c3 := Eq.trans (hF.r hmo (by rw [kmo]; rfl)) z1399
                      have z1446 : q_ir (q_r f1423 mo 33) bg := Eq.trans (hF.r hmo (by rw [kmo]; rfl)) z1400
                      have z1447 : q_ir (q_r f1423 mo 34) lp := Eq.trans (hF.r hmo (by rw [kmo]; rfl)) z1401
                      have z1448 : q_ir (q_r f1423 mo 24) hp := Eq.trans (hF.r hmo (by rw [kmo]; rfl)) z1402
                      have z1449 : q_ir (q_r f1423 mo 25) dy := Eq.trans (hF.r hmo (by rw [kmo]; rfl)) z1403
                      have z1450 : q_ir (q_r f1423 mo 15) as := Eq.trans (hF.r hmo (by rw [kmo]; rfl)) z1404
                      have z1451 : q_ir (q_r f1423 mo 17) pa := Eq.trans (hF.r hmo (by rw [kmo]; rfl)) z1405
                      have g1452 : q_gr f1423 sr := q_gr_fr g1406 (fun i9 _ => hF.z hsr (by rw [ksr]; rfl))
                      have g1453 : q_pk f1423 mo pa := q_pk_tr g1407 (hF.z hmo (by rw [kmo]; rfl)) (fun i9 => hF.z hpa (by rw [kpa]; rfl))
                      have g1454 : q_pc f1423 mo pa xc := q_pc_tr g1408 (hF.z hmo (by rw [kmo]; rfl)) (fun i9 => hF.z hpa (by rw [kpa]; rfl))
                      have g1455 : tk_ub f1423 bu B tn := tk_ub_tr g1409 (fun i9 => hF.z hbu (by rw [kbu]; rfl))
                      have g1456 : tk_nq f1423 nm nl9 := tk_nq_tr g1410 (fun i9 => hF.j hnm (by rw [knm]; rfl))
                      have g1457 : tk_tr f1423 mo B tn := tk_tr_tr g1386 (hF.z hmo (by rw [kmo]; rfl)) (hF.z hmo (by rw [kmo]; rfl)) (hF.z hmo (by rw [kmo]; rfl)) (hF.z hmo (by rw [kmo]; rfl)) (hF.j hmo (by rw [kmo]; rfl))
                      subst qy1424
                      refine q_ifne (tgt := 91) cx ⟨by decide, by decide⟩ dX12_runScript_86 (by decide) (fun c1458 => ?_) (fun c1458 => ?_)
                      · exact absurd c1458 (by omega)
                      · refine q_iconst cx dX12_runScript_89 ?_
                        refine q_iret cx hr hlk hB dX12_runScript_90 ⟨by decide, by decide⟩ ?_
                        exact (Or.inr ⟨rfl, (q_isl z1429 (by omega)), (q_isu z1429 (by omega)), (q_isl z1430 (by omega)), (q_isu z1430 (by omega)), z1431, (Eq.trans z1432 (by omega)), z1426, (tk_erp (hal.trans ((tk_U_ok (by omega) (by omega) (tk_so_0n (tk_tr_s htr19 hj_mo_5 ex977) (by omega)) hsx9).trans (tk_erx t1385 ex1411 ex1413))) z1427 z1428), g1452, g1453, g1454⟩)
                    · exact absurd c1422 (by omega)
                  · exact absurd c1418 (by omega)
              · obtain ⟨lz1459, uz1459, t1460, g1461⟩ := h1307
                have z1462 : q_is (q_z f1303 sr 3) xt := Eq.trans (hF.z hsr (by rw [ksr]; rfl)) z1277
                have z1463 : q_is (q_z f1303 sr 4) xm := Eq.trans (hF.z hsr (by rw [ksr]; rfl)) z1278
                have z1464 : q_is (q_z f1303 sr 0) xc := Eq.trans (hF.z hsr (by rw [ksr]; rfl)) z1279
                have z1465 : q_is (q_z f1303 mo 2) w19_mo_2 := Eq.trans (hF.z hmo (by rw [kmo]; rfl)) z1280
                have z1466 : q_is (q_z f1303 mo 3) tn := Eq.trans (hF.z hmo (by rw [kmo]; rfl)) z1281
                have z1467 : q_is (q_z f1303 mo 37) w19_mo_37 := Eq.trans (hF.z hmo (by rw [kmo]; rfl)) z1271
                have z1468 : q_is (q_z f1303 mo 36) (w19_mo_36 + 1) := Eq.trans (hF.z hmo (by rw [kmo]; rfl)) z1272
                have z1469 : q_ir (q_r f1303 mo 13) sr := Eq.trans (hF.r hmo (by rw [kmo]; rfl)) z1282
                have z1470 : q_ir (q_r f1303 mo 18) nm := Eq.trans (hF.r hmo (by rw [kmo]; rfl)) z1283
                have z1471 : q_ir (q_r f1303 mo 1) bu := Eq.trans (hF.r hmo (by rw [kmo]; rfl)) z1284
                have z1472 : q_ir (q_r f1303 mo 29) cs := Eq.trans (hF.r hmo (by rw [kmo]; rfl)) z1285
                have z1473 : q_ir (q_r f1303 mo 30) c1 := Eq.trans (hF.r hmo (by rw [kmo]; rfl)) z1286
                have z1474 : q_ir (q_r f1303 mo 31) c2 := Eq.trans (hF.r hmo (by rw [kmo]; rfl)) z1287
                have z1475 : q_ir (q_r f1303 mo 32) c3 := Eq.trans (hF.r hmo (by rw [kmo]; rfl)) z1288
                have z1476 : q_ir (q_r f1303 mo 33) bg := Eq.trans (hF.r hmo (by rw [kmo]; rfl)) z1289
                have z1477 : q_ir (q_r f1303 mo 34) lp := Eq.trans (hF.r hmo (by rw [kmo]; rfl)) z1290
                have z1478 : q_ir (q_r f1303 mo 24) hp := Eq.trans (hF.r hmo (by rw [kmo]; rfl)) z1291
                have z1479 : q_ir (q_r f1303 mo 25) dy := Eq.trans (hF.r hmo (by rw [kmo]; rfl)) z1292
                have z1480 : q_ir (q_r f1303 mo 15) as := Eq.trans (hF.r hmo (by rw [kmo]; rfl)) z1293
                have z1481 : q_ir (q_r f1303 mo 17) pa := Eq.trans (hF.r hmo (by rw [kmo]; rfl)) z1294
                have g1482 : q_gr f1303 sr := q_gr_fr g1295 (fun i9 _ => hF.z hsr (by rw [ksr]; rfl))
                have g1483 : q_pk f1303 mo pa := q_pk_tr g1296 (hF.z hmo (by rw [kmo]; rfl)) (fun i9 => hF.z hpa (by rw [kpa]; rfl))
                have g1484 : q_pc f1303 mo pa xc := q_pc_tr g1297 (hF.z hmo (by rw [kmo]; rfl)) (fun i9 => hF.z hpa (by rw [kpa]; rfl))
                have g1485 : tk_ub f1303 bu B tn := tk_ub_tr g1298 (fun i9 => hF.z hbu (by rw [kbu]; rfl))
                have g1486 : tk_nq f1303 nm nl9 := tk_nq_tr g1299 (fun i9 => hF.j hnm (by rw [knm]; rfl))
                have g1487 : q_sc f1303 mo cs c1 c2 := q_sc_tr t1275 (hF.z hmo (by rw [kmo]; rfl)) (hF.z hmo (by rw [kmo]; rfl)) (hF.z hmo (by rw [kmo]; rfl)) (fun i9 => hF.z hcs (by rw [kcs]; rfl)) (fun i9 => hF.z hc1 (by rw [kc1]; rfl)) (fun i9 => hF.z hc2 (by rw [kc2]; rfl))
                obtain ⟨x1488, ex1488⟩ : ∃ zz, q_is (q_z f1303 mo 8) zz := ⟨_, q_isr _⟩
                obtain ⟨lx1488, ux1488⟩ := q_isb ex1488 ⟨lz1459, uz1459⟩
                obtain ⟨x1489, ex1489⟩ : ∃ zz, q_is (q_z f1303 mo 5) zz := ⟨_, q_isr _⟩
                obtain ⟨lx1489, ux1489⟩ := q_isb ex1489 (q_fib hB.2.1 hmo kmo (by decide) rfl)
                obtain ⟨x1490, ex1490⟩ : ∃ zz, q_is (q_z f1303 mo 9) zz := ⟨_, q_isr _⟩
                obtain ⟨lx1490, ux1490⟩ := q_isb ex1490 (q_fib hB.2.1 hmo kmo (by decide) rfl)
                obtain ⟨-, l0x1489, u0x1489, -, -⟩ := tk_tr_n g1461 ex1489
                refine q_ald_n cx dX12_runScript_56 rfl (lv_at hl 1 rfl) ?_
                refine q_cVv (As := []) (rest := []) cx hB (fun _ h => h) hN hmo kmo (by decide) rfl (r_closes1 l g hN hB.2.1 mo hmo kmo x1488 (by omega) (by omega) ex1488) q_cX12_503 q_dX12_closes (by decide) rfl rfl hl.1 rfl (Nat.le_of_ble_eq_true rfl) dX12_runScript_57 (fun H locs f1491 h1493 hF hB => ?_)
                obtain rfl := h1493
                refine lv_goto (tgt := 19) cx.1 cx.2.1 dX12_runScript_60 (by decide) ?_
                refine q_ald_n cx dX12_runScript_19 rfl (lv_at hl 1 rfl) ?_
                refine q_cVi (As := []) (rest := []) cx hB (fun _ h => h) hN hmo kmo (by decide) rfl (r_isGood1 l g hN hB.2.1 mo hmo kmo x1488 (by omega) (by omega) ex1488) q_cX12_130 q_dX12_isGood (by decide) rfl rfl hl.1 rfl (Nat.le_of_ble_eq_true rfl) dX12_runScript_20 (fun y1495 H locs f1494 ry1495 h1496 hF hB => ?_)
                obtain ⟨rfl, qy1495⟩ := h1496
                subst qy1495
                refine q_ifeq (tgt := 63) cx ⟨by decide, by decide⟩ dX12_runScript_23 (by decide) (fun c1497 => ?_) (fun c1497 => ?_)
                · refine q_ald_n cx dX12_runScript_63 rfl (lv_at hl 1 rfl) ?_
                  refine q_cVi (As := []) (rest := []) cx hB (fun _ h => h) hN hmo kmo (by decide) rfl (r_isGood1 l g hN hB.2.1 mo hmo kmo x1488 (by omega) (by omega) ex1488) q_cX12_130 q_dX12_isGood (by decide) rfl rfl hl.1 rfl (Nat.le_of_ble_eq_true rfl) dX12_runScript_64 (fun y1499 H locs f1498 ry1499 h1500 hF hB => ?_)
                  obtain ⟨rfl, qy1499⟩ := h1500
                  subst qy1499
                  refine q_ifeq (tgt := 82) cx ⟨by decide, by decide⟩ dX12_runScript_67 (by decide) (fun c1501 => ?_) (fun c1501 => ?_)
                  · refine q_ald_n cx dX12_runScript_82 rfl (lv_at hl 1 rfl) ?_
                    refine q_cVi (As := []) (rest := []) cx hB (fun _ h => h) hN hmo kmo (by decide) rfl (f_mendsText1 l g hN hB.2.1 mo hmo kmo x1488 (by omega) (by omega) x1490 (by omega) (by omega) ex1488 ex1490) q_cX12_253 q_dX12_endsText (by decide) rfl rfl hl.1 rfl (Nat.le_of_ble_eq_true rfl) dX12_runScript_83 (fun y1503 H locs f1502 ry1503 h1504 hF hB => ?_)
                    obtain ⟨qy1503, z1505, z1506, z1507⟩ := h1504
                    have z1508 : q_is (q_z f1502 sr 3) xt := Eq.trans (hF.z hsr (by rw [ksr]; rfl)) z1462
                    have z1509 : q_is (q_z f1502 sr 4) xm := Eq.trans (hF.z hsr (by rw [ksr]; rfl)) z1463
                    have z1510 : q_is (q_z f1502 sr 0) xc := Eq.trans (hF.z hsr (by rw [ksr]; rfl)) z1464
                    have z1511 : q_is (q_z f1502 mo 2) w19_mo_2 := Eq.trans (hF.z hmo (by rw [kmo]; rfl)) z1465
                    have z1512 : q_is (q_z f1502 mo 3) tn := Eq.trans (hF.z hmo (by rw [kmo]; rfl)) z1466
                    have z1513 : q_is (q_z f1502 mo 37) w19_mo_37 := Eq.trans (hF.z hmo (by rw [kmo]; rfl)) z1467
                    have z1514 : q_is (q_z f1502 mo 36) (w19_mo_36 + 1) := Eq.trans (hF.z hmo (by rw [kmo]; rfl)) z1468
                    have z1515 : q_is (q_z f1502 mo 8) x1488 := Eq.trans (hF.z hmo (by rw [kmo]; rfl)) ex1488
                    have z1516 : q_is (q_z f1502 mo 5) x1489 := Eq.trans (hF.z hmo (by rw [kmo]; rfl)) ex1489
                    have z1517 : q_is (q_z f1502 mo 9) x1490 := Eq.trans (hF.z hmo (by rw [kmo]; rfl)) ex1490
                    have z1518 : q_ir (q_r f1502 mo 13) sr := Eq.trans (hF.r hmo (by rw [kmo]; rfl)) z1469
                    have z1519 : q_ir (q_r f1502 mo 18) nm := Eq.trans (hF.r hmo (by rw [kmo]; rfl)) z1470
                    have z1520 : q_ir (q_r f1502 mo 1) bu := Eq.trans (hF.r hmo (by rw [kmo]; rfl)) z1471
                    have z1521 : q_ir (q_r f1502 mo 29) cs := Eq.trans (hF.r hmo (by rw [kmo]; rfl)) z1472
                    have z1522 : q_ir (q_r f1502 mo 30) c1 := Eq.trans (hF.r hmo (by rw [kmo]; rfl)) z1473
                    have z1523 : q_ir (q_r f1502 mo 31) c2 := Eq.trans (hF.r hmo (by rw [kmo]; rfl)) z1474
                    have z1524 : q_ir (q_r f1502 mo 32) c3 := Eq.trans (hF.r hmo (by rw [kmo]; rfl)) z1475
                    have z1525 : q_ir (q_r f1502 mo 33) bg := Eq.trans (hF.r hmo (by rw [kmo]; rfl)) z1476
                    have z1526 : q_ir (q_r f1502 mo 34) lp := Eq.trans (hF.r hmo (by rw [kmo]; rfl)) z1477
                    have z1527 : q_ir (q_r f1502 mo 24) hp := Eq.trans (hF.r hmo (by rw [kmo]; rfl)) z1478
                    have z1528 : q_ir (q_r f1502 mo 25) dy := Eq.trans (hF.r hmo (by rw [kmo]; rfl)) z1479
                    have z1529 : q_ir (q_r f1502 mo 15) as := Eq.trans (hF.r hmo (by rw [kmo]; rfl)) z1480
                    have z1530 : q_ir (q_r f1502 mo 17) pa := Eq.trans (hF.r hmo (by rw [kmo]; rfl)) z1481
                    have g1531 : q_gr f1502 sr := q_gr_fr g1482 (fun i9 _ => hF.z hsr (by rw [ksr]; rfl))
                    have g1532 : q_pk f1502 mo pa := q_pk_tr g1483 (hF.z hmo (by rw [kmo]; rfl)) (fun i9 => hF.z hpa (by rw [kpa]; rfl))
                    have g1533 : q_pc f1502 mo pa xc := q_pc_tr g1484 (hF.z hmo (by rw [kmo]; rfl)) (fun i9 => hF.z hpa (by rw [kpa]; rfl))
                    have g1534 : tk_ub f1502 bu B tn := tk_ub_tr g1485 (fun i9 => hF.z hbu (by rw [kbu]; rfl))
                    have g1535 : tk_nq f1502 nm nl9 := tk_nq_tr g1486 (fun i9 => hF.j hnm (by rw [knm]; rfl))
                    have g1536 : q_sc f1502 mo cs c1 c2 := q_sc_tr g1487 (hF.z hmo (by rw [kmo]; rfl)) (hF.z hmo (by rw [kmo]; rfl)) (hF.z hmo (by rw [kmo]; rfl)) (fun i9 => hF.z hcs (by rw [kcs]; rfl)) (fun i9 => hF.z hc1 (by rw [kc1]; rfl)) (fun i9 => hF.z hc2 (by rw [kc2]; rfl))
                    have g1537 : tk_tr f1502 mo B tn := tk_tr_tr g1461 (hF.z hmo (by rw [kmo]; rfl)) (hF.z hmo (by rw [kmo]; rfl)) (hF.z hmo (by rw [kmo]; rfl)) (hF.z hmo (by rw [kmo]; rfl)) (hF.j hmo (by rw [kmo]; rfl))
                    subst qy1503
                    refine q_ifne (tgt := 91) cx ⟨by decide, by decide⟩ dX12_runScript_86 (by decide) (fun c1538 => ?_) (fun c1538 => ?_)
                    · exact absurd c1538 (by omega)
                    · refine q_iconst cx dX12_runScript_89 ?_
                      refine q_iret cx hr hlk hB dX12_runScript_90 ⟨by decide, by decide⟩ ?_
                      exact (Or.inr ⟨rfl, (q_isl z1508 (by omega)), (q_isu z1508 (by omega)), (q_isl z1509 (by omega)), (q_isu z1509 (by omega)), z1510, (Eq.trans z1511 (by omega)), z1505, (tk_erp (hal.trans (tk_U_er (tk_so_0n (tk_tr_s htr19 hj_mo_5 ex977) (by omega)) (Eq.trans (tk_sx_cd hncl) (tk_cd_ne hcm9 (by omega) (tk_erx t1460 ex1488 ex1490))))) z1506 z1507), g1531, g1532, g1533⟩)
                  · exact absurd c1501 (by omega)
                · exact absurd c1497 (by omega)
          · obtain ⟨z1539, z1540, z1541, z1542, t1543, t1544, t1545, t1546, g1547⟩ := h1267
            have z1548 : q_is (q_z f1263 sr 3) xt := Eq.trans (hF.z hsr (by rw [ksr]; rfl)) hj_sr_3
            have z1549 : q_is (q_z f1263 sr 4) xm := Eq.trans (hF.z hsr (by rw [ksr]; rfl)) hj_sr_4
            have z1550 : q_is (q_z f1263 sr 0) xc := Eq.trans (hF.z hsr (by rw [ksr]; rfl)) hj_sr_0
            have z1551 : q_is (q_z f1263 mo 2) w19_mo_2 := Eq.trans (hF.z hmo (by rw [kmo]; rfl)) hj_mo_2
            have z1552 : q_is (q_z f1263 mo 3) tn := Eq.trans (hF.z hmo (by rw [kmo]; rfl)) hj_mo_3
            have z1553 : q_ir (q_r f1263 mo 13) sr := Eq.trans (hF.r hmo (by rw [kmo]; rfl)) hq_mo_13
            have z1554 : q_ir (q_r f1263 mo 18) nm := Eq.trans (hF.r hmo (by rw [kmo]; rfl)) hq_mo_18
            have z1555 : q_ir (q_r f1263 mo 1) bu := Eq.trans (hF.r hmo (by rw [kmo]; rfl)) hq_mo_1
            have z1556 : q_ir (q_r f1263 mo 29) cs := Eq.trans (hF.r hmo (by rw [kmo]; rfl)) hq_mo_29
            have z1557 : q_ir (q_r f1263 mo 30) c1 := Eq.trans (hF.r hmo (by rw [kmo]; rfl)) hq_mo_30
            have z1558 : q_ir (q_r f1263 mo 31) c2 := Eq.trans (hF.r hmo (by rw [kmo]; rfl)) hq_mo_31
            have z1559 : q_ir (q_r f1263 mo 32) c3 := Eq.trans (hF.r hmo (by rw [kmo]; rfl)) hq_mo_32
            have z1560 : q_ir (q_r f1263 mo 33) bg := Eq.trans (hF.r hmo (by rw [kmo]; rfl)) hq_mo_33
            have z1561 : q_ir (q_r f1263 mo 34) lp := Eq.trans (hF.r hmo (by rw [kmo]; rfl)) hq_mo_34
            have z1562 : q_ir (q_r f1263 mo 24) hp := Eq.trans (hF.r hmo (by rw [kmo]; rfl)) hq_mo_24
            have z1563 : q_ir (q_r f1263 mo 25) dy := Eq.trans (hF.r hmo (by rw [kmo]; rfl)) hq_mo_25
            have z1564 : q_ir (q_r f1263 mo 15) as := Eq.trans (hF.r hmo (by rw [kmo]; rfl)) hq_mo_15
            have z1565 : q_ir (q_r f1263 mo 17) pa := Eq.trans (hF.r hmo (by rw [kmo]; rfl)) hq_mo_17
            have g1566 : q_gr f1263 sr := q_gr_fr hgr19 (fun i9 _ => hF.z hsr (by rw [ksr]; rfl))
            have g1567 : q_pk f1263 mo pa := q_pk_tr hpk19 (hF.z hmo (by rw [kmo]; rfl)) (fun i9 => hF.z hpa (by rw [kpa]; rfl))
            have g1568 : q_pc f1263 mo pa xc := q_pc_tr hpc19 (hF.z hmo (by rw [kmo]; rfl)) (fun i9 => hF.z hpa (by rw [kpa]; rfl))
            have g1569 : tk_ub f1263 bu B tn := tk_ub_tr hub19 (fun i9 => hF.z hbu (by rw [kbu]; rfl))
            have g1570 : tk_nq f1263 nm nl9 := tk_nq_tr hrn19 (fun i9 => hF.j hnm (by rw [knm]; rfl))
            obtain ⟨x1571, ex1571⟩ : ∃ zz, q_is (q_z f1263 mo 5) zz := ⟨_, q_isr _⟩
            obtain ⟨lx1571, ux1571⟩ := q_isb ex1571 (q_fib hB.2.1 hmo kmo (by decide) rfl)
            obtain ⟨-, l0x1571, u0x1571, -, -⟩ := tk_tr_n g1547 ex1571
            have hcm9 : tk_cm B tn nl9 w19_mo_5 w19_mo_37 w19_mo_36 = tk_ok (x1571, (w19_mo_37 + 1), (w19_mo_36 + 1)) := tk_xof t1543 ex1571 z1541 z1542
            refine q_ald_n cx dX12_runScript_42 rfl (lv_at hl 1 rfl) ?_
            refine q_gX12_488 cx hB hmo kmo z1541 dX12_runScript_43 (fun lb1572 ub1572 => ?_)
            refine q_ild_n cx dX12_runScript_46 rfl (lv_at hl 0 rfl) ?_
            refine q_icne (tgt := 56) cx ⟨by omega, by omega⟩ ⟨by omega, by omega⟩ dX12_runScript_47 (by decide) (fun c1573 => ?_) (fun c1573 => ?_)
            · have hsx9 : tk_sx B tn nl9 w19_mo_5 w19_mo_37 w19_mo_36 = tk_ok (x1571, (w19_mo_37 + 1), (w19_mo_36 + 1)) := Eq.trans (tk_sx_cd hncl) (tk_cd_6 hcm9 (by omega))
              have hlt9 := tk_sx_in hsx9 (by omega) (by omega)
              have hlt8 : w19_mo_5 < x1571 := hlt9.1
              refine q_ald_n cx dX12_runScript_56 rfl (lv_at hl 1 rfl) ?_
              refine q_cVv (As := []) (rest := []) cx hB (fun _ h => h) hN hmo kmo (by decide) rfl (f_mcloses0 l g hN hB.2.1 B nl9 mo hmo kmo bu hbu kbu cs hcs kcs c1 hc1 kc1 c2 hc2 kc2 tn (by omega) (by omega) x1571 (by omega) (by omega) (w19_mo_37 + 1) (by omega) (by omega) (w19_mo_36 + 1) (by omega) (by omega) z1552 ex1571 z1539 z1540 z1541 z1542 z1555 z1556 z1557 z1558 g1547 g1569 t1546) q_cX12_503 q_dX12_closes (by decide) rfl rfl hl.1 rfl (Nat.le_of_ble_eq_true rfl) dX12_runScript_57 (fun H locs f1574 h1576 hF hB => ?_)
              rcases h1576 with h1577 | h1578
              · obtain ⟨z1579, z1580, z1581, lz1582, uz1582, t1583, t1584, t1585, t1586, t1587, g1588⟩ := h1577
                have z1589 : q_is (q_z f1574 sr 3) xt := Eq.trans (hF.z hsr (by rw [ksr]; rfl)) z1548
                have z1590 : q_is (q_z f1574 sr 4) xm := Eq.trans (hF.z hsr (by rw [ksr]; rfl)) z1549
                have z1591 : q_is (q_z f1574 sr 0) xc := Eq.trans (hF.z hsr (by rw [ksr]; rfl)) z1550
                have z1592 : q_is (q_z f1574 mo 2) w19_mo_2 := Eq.trans (hF.z hmo (by rw [kmo]; rfl)) z1551
                have z1593 : q_is (q_z f1574 mo 3) tn := Eq.trans (hF.z hmo (by rw [kmo]; rfl)) z1552
                have z1594 : q_is (q_z f1574 mo 36) (w19_mo_36 + 1) := Eq.trans (hF.z hmo (by rw [kmo]; rfl)) z1542
                have z1595 : q_ir (q_r f1574 mo 13) sr := Eq.trans (hF.r hmo (by rw [kmo]; rfl)) z1553
                have z1596 : q_ir (q_r f1574 mo 18) nm := Eq.trans (hF.r hmo (by rw [kmo]; rfl)) z1554
                have z1597 : q_ir (q_r f1574 mo 1) bu := Eq.trans (hF.r hmo (by rw [kmo]; rfl)) z1555
                have z1598 : q_ir (q_r f1574 mo 29) cs := Eq.trans (hF.r hmo (by rw [kmo]; rfl)) z1556
                have z1599 : q_ir (q_r f1574 mo 30) c1 := Eq.trans (hF.r hmo (by rw [kmo]; rfl)) z1557
                have z1600 : q_ir (q_r f1574 mo 31) c2 := Eq.trans (hF.r hmo (by rw [kmo]; rfl)) z1558
                have z1601 : q_ir (q_r f1574 mo 32) c3 := Eq.trans (hF.r hmo (by rw [kmo]; rfl)) z1559
                have z1602 : q_ir (q_r f1574 mo 33) bg := Eq.trans (hF.r hmo (by rw [kmo]; rfl)) z1560
                have z1603 : q_ir (q_r f1574 mo 34) lp := Eq.trans (hF.r hmo (by rw [kmo]; rfl)) z1561
                have z1604 : q_ir (q_r f1574 mo 24) hp := Eq.trans (hF.r hmo (by rw [kmo]; rfl)) z1562
                have z1605 : q_ir (q_r f1574 mo 25) dy := Eq.trans (hF.r hmo (by rw [kmo]; rfl)) z1563
                have z1606 : q_ir (q_r f1574 mo 15) as := Eq.trans (hF.r hmo (by rw [kmo]; rfl)) z1564
                have z1607 : q_ir (q_r f1574 mo 17) pa := Eq.trans (hF.r hmo (by rw [kmo]; rfl)) z1565
                have g1608 : q_gr f1574 sr := q_gr_fr g1566 (fun i9 _ => hF.z hsr (by rw [ksr]; rfl))
                have g1609 : q_pk f1574 mo pa := q_pk_tr g1567 (hF.z hmo (by rw [kmo]; rfl)) (fun i9 => hF.z hpa (by rw [kpa]; rfl))
                have g1610 : q_pc f1574 mo pa xc := q_pc_tr g1568 (hF.z hmo (by rw [kmo]; rfl)) (fun i9 => hF.z hpa (by rw [kpa]; rfl))
                have g1611 : tk_ub f1574 bu B tn := tk_ub_tr g1569 (fun i9 => hF.z hbu (by rw [kbu]; rfl))
                have g1612 : tk_nq f1574 nm nl9 := tk_nq_tr g1570 (fun i9 => hF.j hnm (by rw [knm]; rfl))
                obtain ⟨x1613, ex1613⟩ : ∃ zz, q_is (q_z f1574 mo 37) zz := ⟨_, q_isr _⟩
                obtain ⟨lx1613, ux1613⟩ := q_isb ex1613 ⟨lz1582, uz1582⟩
                obtain ⟨x1614, ex1614⟩ : ∃ zz, q_is (q_z f1574 mo 5) zz := ⟨_, q_isr _⟩
                obtain ⟨lx1614, ux1614⟩ := q_isb ex1614 (q_fib hB.2.1 hmo kmo (by decide) rfl)
                obtain ⟨-, l0x1614, u0x1614, -, -⟩ := tk_tr_n g1588 ex1614
                have g1615 : _ ≤ _ := t1585
                have g1616 : w19_mo_5 < x1614 := by have h7 : _ = _ := ex1614; omega
                have g1617 : _ ≤ _ := t1586
                have g1618 : x1613 ≤ (w19_mo_37 + 1) := by have h7 : _ = _ := ex1613; omega
                refine lv_goto (tgt := 19) cx.1 cx.2.1 dX12_runScript_60 (by decide) ?_
                exact ih19 f1574 0 (by decide) (by decide) (-1) (by decide) (by decide) w19_mo_2 (by omega) (by omega) x1614 (by omega) (by omega) (w19_mo_36 + 1) (by omega) (by omega) x1613 (by omega) (by omega) z1589 z1590 z1591 z1579 z1580 z1592 z1593 ex1614 z1581 ex1613 z1595 z1596 z1597 z1598 z1599 z1600 z1601 z1602 z1603 z1604 z1605 z1606 z1607 g1608 g1610 g1609 g1612 t1587 g1588 g1611 (by omega) (hal.trans ((tk_U_ok (by omega) (by omega) (tk_so_0n (tk_tr_s htr19 hj_mo_5 ex977) (by omega)) hsx9).trans (tk_U_r t1583 ex1614 ex1613))) (tk_ncl_r t1584 ex1614 ex1613) (by omega) H locs hB ls (lv_sub hl [1] rfl)
              · obtain ⟨lz1619, uz1619, t1620, g1621⟩ := h1578
                have z1622 : q_is (q_z f1574 sr 3) xt := Eq.trans (hF.z hsr (by rw [ksr]; rfl)) z1548
                have z1623 : q_is (q_z f1574 sr 4) xm := Eq.trans (hF.z hsr (by rw [ksr]; rfl)) z1549
                have z1624 : q_is (q_z f1574 sr 0) xc := Eq.trans (hF.z hsr (by rw [ksr]; rfl)) z1550
                have z1625 : q_is (q_z f1574 mo 2) w19_mo_2 := Eq.trans (hF.z hmo (by rw [kmo]; rfl)) z1551
                have z1626 : q_is (q_z f1574 mo 3) tn := Eq.trans (hF.z hmo (by rw [kmo]; rfl)) z1552
                have z1627 : q_is (q_z f1574 mo 36) (w19_mo_36 + 1) := Eq.trans (hF.z hmo (by rw [kmo]; rfl)) z1542
                have z1628 : q_ir (q_r f1574 mo 13) sr := Eq.trans (hF.r hmo (by rw [kmo]; rfl)) z1553
                have z1629 : q_ir (q_r f1574 mo 18) nm := Eq.trans (hF.r hmo (by rw [kmo]; rfl)) z1554
                have z1630 : q_ir (q_r f1574 mo 1) bu := Eq.trans (hF.r hmo (by rw [kmo]; rfl)) z1555
                have z1631 : q_ir (q_r f1574 mo 29) cs := Eq.trans (hF.r hmo (by rw [kmo]; rfl)) z1556
                have z1632 : q_ir (q_r f1574 mo 30) c1 := Eq.trans (hF.r hmo (by rw [kmo]; rfl)) z1557
                have z1633 : q_ir (q_r f1574 mo 31) c2 := Eq.trans (hF.r hmo (by rw [kmo]; rfl)) z1558
                have z1634 : q_ir (q_r f1574 mo 32) c3 := Eq.trans (hF.r hmo (by rw [kmo]; rfl)) z1559
                have z1635 : q_ir (q_r f1574 mo 33) bg := Eq.trans (hF.r hmo (by rw [kmo]; rfl)) z1560
                have z1636 : q_ir (q_r f1574 mo 34) lp := Eq.trans (hF.r hmo (by rw [kmo]; rfl)) z1561
                have z1637 : q_ir (q_r f1574 mo 24) hp := Eq.trans (hF.r hmo (by rw [kmo]; rfl)) z1562
                have z1638 : q_ir (q_r f1574 mo 25) dy := Eq.trans (hF.r hmo (by rw [kmo]; rfl)) z1563
                have z1639 : q_ir (q_r f1574 mo 15) as := Eq.trans (hF.r hmo (by rw [kmo]; rfl)) z1564
                have z1640 : q_ir (q_r f1574 mo 17) pa := Eq.trans (hF.r hmo (by rw [kmo]; rfl)) z1565
                have g1641 : q_gr f1574 sr := q_gr_fr g1566 (fun i9 _ => hF.z hsr (by rw [ksr]; rfl))
                have g1642 : q_pk f1574 mo pa := q_pk_tr g1567 (hF.z hmo (by rw [kmo]; rfl)) (fun i9 => hF.z hpa (by rw [kpa]; rfl))
                have g1643 : q_pc f1574 mo pa xc := q_pc_tr g1568 (hF.z hmo (by rw [kmo]; rfl)) (fun i9 => hF.z hpa (by rw [kpa]; rfl))
                have g1644 : tk_ub f1574 bu B tn := tk_ub_tr g1569 (fun i9 => hF.z hbu (by rw [kbu]; rfl))
                have g1645 : tk_nq f1574 nm nl9 := tk_nq_tr g1570 (fun i9 => hF.j hnm (by rw [knm]; rfl))
                obtain ⟨x1646, ex1646⟩ : ∃ zz, q_is (q_z f1574 mo 8) zz := ⟨_, q_isr _⟩
                obtain ⟨lx1646, ux1646⟩ := q_isb ex1646 ⟨lz1619, uz1619⟩
                obtain ⟨x1647, ex1647⟩ : ∃ zz, q_is (q_z f1574 mo 5) zz := ⟨_, q_isr _⟩
                obtain ⟨lx1647, ux1647⟩ := q_isb ex1647 (q_fib hB.2.1 hmo kmo (by decide) rfl)
                obtain ⟨x1648, ex1648⟩ : ∃ zz, q_is (q_z f1574 mo 9) zz := ⟨_, q_isr _⟩
                obtain ⟨lx1648, ux1648⟩ := q_isb ex1648 (q_fib hB.2.1 hmo kmo (by decide) rfl)
                obtain ⟨x1649, ex1649⟩ : ∃ zz, q_is (q_z f1574 mo 37) zz := ⟨_, q_isr _⟩
                obtain ⟨lx1649, ux1649⟩ := q_isb ex1649 (q_fib hB.2.1 hmo kmo (by decide) rfl)
                obtain ⟨-, l0x1647, u0x1647, -, -⟩ := tk_tr_n g1621 ex1647
                refine lv_goto (tgt := 19) cx.1 cx.2.1 dX12_runScript_60 (by decide) ?_
                refine q_ald_n cx dX12_runScript_19 rfl (lv_at hl 1 rfl) ?_
                refine q_cVi (As := []) (rest := []) cx hB (fun _ h => h) hN hmo kmo (by decide) rfl (r_isGood1 l g hN hB.2.1 mo hmo kmo x1646 (by omega) (by omega) ex1646) q_cX12_130 q_dX12_isGood (by decide) rfl rfl hl.1 rfl (Nat.le_of_ble_eq_true rfl) dX12_runScript_20 (fun y1651 H locs f1650 ry1651 h1652 hF hB => ?_)
                obtain ⟨rfl, qy1651⟩ := h1652
                subst qy1651
                refine q_ifeq (tgt := 63) cx ⟨by decide, by decide⟩ dX12_runScript_23 (by decide) (fun c1653 => ?_) (fun c1653 => ?_)
                · refine q_ald_n cx dX12_runScript_63 rfl (lv_at hl 1 rfl) ?_
                  refine q_cVi (As := []) (rest := []) cx hB (fun _ h => h) hN hmo kmo (by decide) rfl (r_isGood1 l g hN hB.2.1 mo hmo kmo x1646 (by omega) (by omega) ex1646) q_cX12_130 q_dX12_isGood (by decide) rfl rfl hl.1 rfl (Nat.le_of_ble_eq_true rfl) dX12_runScript_64 (fun y1655 H locs f1654 ry1655 h1656 hF hB => ?_)
                  obtain ⟨rfl, qy1655⟩ := h1656
                  subst qy1655
                  refine q_ifeq (tgt := 82) cx ⟨by decide, by decide⟩ dX12_runScript_67 (by decide) (fun c1657 => ?_) (fun c1657 => ?_)
                  · refine q_ald_n cx dX12_runScript_82 rfl (lv_at hl 1 rfl) ?_
                    refine q_cVi (As := []) (rest := []) cx hB (fun _ h => h) hN hmo kmo (by decide) rfl (f_mendsText1 l g hN hB.2.1 mo hmo kmo x1646 (by omega) (by omega) x1648 (by omega) (by omega) ex1646 ex1648) q_cX12_253 q_dX12_endsText (by decide) rfl rfl hl.1 rfl (Nat.le_of_ble_eq_true rfl) dX12_runScript_83 (fun y1659 H locs f1658 ry1659 h1660 hF hB => ?_)
                    obtain ⟨qy1659, z1661, z1662, z1663⟩ := h1660
                    have z1664 : q_is (q_z f1658 sr 3) xt := Eq.trans (hF.z hsr (by rw [ksr]; rfl)) z1622
                    have z1665 : q_is (q_z f1658 sr 4) xm := Eq.trans (hF.z hsr (by rw [ksr]; rfl)) z1623
                    have z1666 : q_is (q_z f1658 sr 0) xc := Eq.trans (hF.z hsr (by rw [ksr]; rfl)) z1624
                    have z1667 : q_is (q_z f1658 mo 2) w19_mo_2 := Eq.trans (hF.z hmo (by rw [kmo]; rfl)) z1625
                    have z1668 : q_is (q_z f1658 mo 3) tn := Eq.trans (hF.z hmo (by rw [kmo]; rfl)) z1626
                    have z1669 : q_is (q_z f1658 mo 36) (w19_mo_36 + 1) := Eq.trans (hF.z hmo (by rw [kmo]; rfl)) z1627
                    have z1670 : q_is (q_z f1658 mo 8) x1646 := Eq.trans (hF.z hmo (by rw [kmo]; rfl)) ex1646
                    have z1671 : q_is (q_z f1658 mo 5) x1647 := Eq.trans (hF.z hmo (by rw [kmo]; rfl)) ex1647
                    have z1672 : q_is (q_z f1658 mo 9) x1648 := Eq.trans (hF.z hmo (by rw [kmo]; rfl)) ex1648
                    have z1673 : q_is (q_z f1658 mo 37) x1649 := Eq.trans (hF.z hmo (by rw [kmo]; rfl)) ex1649
                    have z1674 : q_ir (q_r f1658 mo 13) sr := Eq.trans (hF.r hmo (by rw [kmo]; rfl)) z1628
                    have z1675 : q_ir (q_r f1658 mo 18) nm := Eq.trans (hF.r hmo (by rw [kmo]; rfl)) z1629
                    have z1676 : q_ir (q_r f1658 mo 1) bu := Eq.trans (hF.r hmo (by rw [kmo]; rfl)) z1630
                    have z1677 : q_ir (q_r f1658 mo 29) cs := Eq.trans (hF.r hmo (by rw [kmo]; rfl)) z1631
                    have z1678 : q_ir (q_r f1658 mo 30) c1 := Eq.trans (hF.r hmo (by rw [kmo]; rfl)) z1632
                    have z1679 : q_ir (q_r f1658 mo 31) c2 := Eq.trans (hF.r hmo (by rw [kmo]; rfl)) z1633
                    have z1680 : q_ir (q_r f1658 mo 32) c3 := Eq.trans (hF.r hmo (by rw [kmo]; rfl)) z1634
                    have z1681 : q_ir (q_r f1658 mo 33) bg := Eq.trans (hF.r hmo (by rw [kmo]; rfl)) z1635
                    have z1682 : q_ir (q_r f1658 mo 34) lp := Eq.trans (hF.r hmo (by rw [kmo]; rfl)) z1636
                    have z1683 : q_ir (q_r f1658 mo 24) hp := Eq.trans (hF.r hmo (by rw [kmo]; rfl)) z1637
                    have z1684 : q_ir (q_r f1658 mo 25) dy := Eq.trans (hF.r hmo (by rw [kmo]; rfl)) z1638
                    have z1685 : q_ir (q_r f1658 mo 15) as := Eq.trans (hF.r hmo (by rw [kmo]; rfl)) z1639
                    have z1686 : q_ir (q_r f1658 mo 17) pa := Eq.trans (hF.r hmo (by rw [kmo]; rfl)) z1640
                    have g1687 : q_gr f1658 sr := q_gr_fr g1641 (fun i9 _ => hF.z hsr (by rw [ksr]; rfl))
                    have g1688 : q_pk f1658 mo pa := q_pk_tr g1642 (hF.z hmo (by rw [kmo]; rfl)) (fun i9 => hF.z hpa (by rw [kpa]; rfl))
                    have g1689 : q_pc f1658 mo pa xc := q_pc_tr g1643 (hF.z hmo (by rw [kmo]; rfl)) (fun i9 => hF.z hpa (by rw [kpa]; rfl))
                    have g1690 : tk_ub f1658 bu B tn := tk_ub_tr g1644 (fun i9 => hF.z hbu (by rw [kbu]; rfl))
                    have g1691 : tk_nq f1658 nm nl9 := tk_nq_tr g1645 (fun i9 => hF.j hnm (by rw [knm]; rfl))
                    have g1692 : tk_tr f1658 mo B tn := tk_tr_tr g1621 (hF.z hmo (by rw [kmo]; rfl)) (hF.z hmo (by rw [kmo]; rfl)) (hF.z hmo (by rw [kmo]; rfl)) (hF.z hmo (by rw [kmo]; rfl)) (hF.j hmo (by rw [kmo]; rfl))
                    subst qy1659
                    refine q_ifne (tgt := 91) cx ⟨by decide, by decide⟩ dX12_runScript_86 (by decide) (fun c1693 => ?_) (fun c1693 => ?_)
                    · exact absurd c1693 (by omega)
                    · refine q_iconst cx dX12_runScript_89 ?_
                      refine q_iret cx hr hlk hB dX12_runScript_90 ⟨by decide, by decide⟩ ?_
                      exact (Or.inr ⟨rfl, (q_isl z1664 (by omega)), (q_isu z1664 (by omega)), (q_isl z1665 (by omega)), (q_isu z1665 (by omega)), z1666, (Eq.trans z1667 (by omega)), z1661, (tk_erp (hal.trans ((tk_U_ok (by omega) (by omega) (tk_so_0n (tk_tr_s htr19 hj_mo_5 ex977) (by omega)) hsx9).trans (tk_erx t1620 ex1646 ex1648))) z1662 z1663), g1687, g1688, g1689⟩)
                  · exact absurd c1657 (by omega)
                · exact absurd c1653 (by omega)
            · exact absurd c1573 (by omega)
          · obtain ⟨lz1694, uz1694, t1695, g1696⟩ := h1268
            have z1697 : q_is (q_z f1263 sr 3) xt := Eq.trans (hF.z hsr (by rw [ksr]; rfl)) hj_sr_3
            have z1698 : q_is (q_z f1263 sr 4) xm := Eq.trans (hF.z hsr (by rw [ksr]; rfl)) hj_sr_4
            have z1699 : q_is (q_z f1263 sr 0) xc := Eq.trans (hF.z hsr (by rw [ksr]; rfl)) hj_sr_0
            have z1700 : q_is (q_z f1263 mo 2) w19_mo_2 := Eq.trans (hF.z hmo (by rw [kmo]; rfl)) hj_mo_2
            have z1701 : q_is (q_z f1263 mo 3) tn := Eq.trans (hF.z hmo (by rw [kmo]; rfl)) hj_mo_3
            have z1702 : q_ir (q_r f1263 mo 13) sr := Eq.trans (hF.r hmo (by rw [kmo]; rfl)) hq_mo_13
            have z1703 : q_ir (q_r f1263 mo 18) nm := Eq.trans (hF.r hmo (by rw [kmo]; rfl)) hq_mo_18
            have z1704 : q_ir (q_r f1263 mo 1) bu := Eq.trans (hF.r hmo (by rw [kmo]; rfl)) hq_mo_1
            have z1705 : q_ir (q_r f1263 mo 29) cs := Eq.trans (hF.r hmo (by rw [kmo]; rfl)) hq_mo_29
            have z1706 : q_ir (q_r f1263 mo 30) c1 := Eq.trans (hF.r hmo (by rw [kmo]; rfl)) hq_mo_30
            have z1707 : q_ir (q_r f1263 mo 31) c2 := Eq.trans (hF.r hmo (by rw [kmo]; rfl)) hq_mo_31
            have z1708 : q_ir (q_r f1263 mo 32) c3 := Eq.trans (hF.r hmo (by rw [kmo]; rfl)) hq_mo_32
            have z1709 : q_ir (q_r f1263 mo 33) bg := Eq.trans (hF.r hmo (by rw [kmo]; rfl)) hq_mo_33
            have z1710 : q_ir (q_r f1263 mo 34) lp := Eq.trans (hF.r hmo (by rw [kmo]; rfl)) hq_mo_34
            have z1711 : q_ir (q_r f1263 mo 24) hp := Eq.trans (hF.r hmo (by rw [kmo]; rfl)) hq_mo_24
            have z1712 : q_ir (q_r f1263 mo 25) dy := Eq.trans (hF.r hmo (by rw [kmo]; rfl)) hq_mo_25
            have z1713 : q_ir (q_r f1263 mo 15) as := Eq.trans (hF.r hmo (by rw [kmo]; rfl)) hq_mo_15
            have z1714 : q_ir (q_r f1263 mo 17) pa := Eq.trans (hF.r hmo (by rw [kmo]; rfl)) hq_mo_17
            have g1715 : q_gr f1263 sr := q_gr_fr hgr19 (fun i9 _ => hF.z hsr (by rw [ksr]; rfl))
            have g1716 : q_pk f1263 mo pa := q_pk_tr hpk19 (hF.z hmo (by rw [kmo]; rfl)) (fun i9 => hF.z hpa (by rw [kpa]; rfl))
            have g1717 : q_pc f1263 mo pa xc := q_pc_tr hpc19 (hF.z hmo (by rw [kmo]; rfl)) (fun i9 => hF.z hpa (by rw [kpa]; rfl))
            have g1718 : tk_ub f1263 bu B tn := tk_ub_tr hub19 (fun i9 => hF.z hbu (by rw [kbu]; rfl))
            have g1719 : tk_nq f1263 nm nl9 := tk_nq_tr hrn19 (fun i9 => hF.j hnm (by rw [knm]; rfl))
            obtain ⟨x1720, ex1720⟩ : ∃ zz, q_is (q_z f1263 mo 8) zz := ⟨_, q_isr _⟩
            obtain ⟨lx1720, ux1720⟩ := q_isb ex1720 ⟨lz1694, uz1694⟩
            obtain ⟨x1721, ex1721⟩ : ∃ zz, q_is (q_z f1263 mo 5) zz := ⟨_, q_isr _⟩
            obtain ⟨lx1721, ux1721⟩ := q_isb ex1721 (q_fib hB.2.1 hmo kmo (by decide) rfl)
            obtain ⟨x1722, ex1722⟩ : ∃ zz, q_is (q_z f1263 mo 9) zz := ⟨_, q_isr _⟩
            obtain ⟨lx1722, ux1722⟩ := q_isb ex1722 (q_fib hB.2.1 hmo kmo (by decide) rfl)
            obtain ⟨x1723, ex1723⟩ : ∃ zz, q_is (q_z f1263 mo 37) zz := ⟨_, q_isr _⟩
            obtain ⟨lx1723, ux1723⟩ := q_isb ex1723 (q_fib hB.2.1 hmo kmo (by decide) rfl)
            obtain ⟨x1724, ex1724⟩ : ∃ zz, q_is (q_z f1263 mo 36) zz := ⟨_, q_isr _⟩
            obtain ⟨lx1724, ux1724⟩ := q_isb ex1724 (q_fib hB.2.1 hmo kmo (by decide) rfl)
            obtain ⟨-, l0x1721, u0x1721, -, -⟩ := tk_tr_n g1696 ex1721
            refine q_ald_n cx dX12_runScript_42 rfl (lv_at hl 1 rfl) ?_
            refine q_gX12_488 cx hB hmo kmo ex1723 dX12_runScript_43 (fun lb1725 ub1725 => ?_)
            refine q_ild_n cx dX12_runScript_46 rfl (lv_at hl 0 rfl) ?_
            refine q_icne (tgt := 56) cx ⟨by omega, by omega⟩ ⟨by omega, by omega⟩ dX12_runScript_47 (by decide) (fun c1726 => ?_) (fun c1726 => ?_)
            · refine q_ald_n cx dX12_runScript_56 rfl (lv_at hl 1 rfl) ?_
              refine q_cVv (As := []) (rest := []) cx hB (fun _ h => h) hN hmo kmo (by decide) rfl (r_closes1 l g hN hB.2.1 mo hmo kmo x1720 (by omega) (by omega) ex1720) q_cX12_503 q_dX12_closes (by decide) rfl rfl hl.1 rfl (Nat.le_of_ble_eq_true rfl) dX12_runScript_57 (fun H locs f1727 h1729 hF hB => ?_)
              obtain rfl := h1729
              refine lv_goto (tgt := 19) cx.1 cx.2.1 dX12_runScript_60 (by decide) ?_
              refine q_ald_n cx dX12_runScript_19 rfl (lv_at hl 1 rfl) ?_
              refine q_cVi (As := []) (rest := []) cx hB (fun _ h => h) hN hmo kmo (by decide) rfl (r_isGood1 l g hN hB.2.1 mo hmo kmo x1720 (by omega) (by omega) ex1720) q_cX12_130 q_dX12_isGood (by decide) rfl rfl hl.1 rfl (Nat.le_of_ble_eq_true rfl) dX12_runScript_20 (fun y1731 H locs f1730 ry1731 h1732 hF hB => ?_)
              obtain ⟨rfl, qy1731⟩ := h1732
              subst qy1731
              refine q_ifeq (tgt := 63) cx ⟨by decide, by decide⟩ dX12_runScript_23 (by decide) (fun c1733 => ?_) (fun c1733 => ?_)
              · refine q_ald_n cx dX12_runScript_63 rfl (lv_at hl 1 rfl) ?_
                refine q_cVi (As := []) (rest := []) cx hB (fun _ h => h) hN hmo kmo (by decide) rfl (r_isGood1 l g hN hB.2.1 mo hmo kmo x1720 (by omega) (by omega) ex1720) q_cX12_130 q_dX12_isGood (by decide) rfl rfl hl.1 rfl (Nat.le_of_ble_eq_true rfl) dX12_runScript_64 (fun y1735 H locs f1734 ry1735 h1736 hF hB => ?_)
                obtain ⟨rfl, qy1735⟩ := h1736
                subst qy1735
                refine q_ifeq (tgt := 82) cx ⟨by decide, by decide⟩ dX12_runScript_67 (by decide) (fun c1737 => ?_) (fun c1737 => ?_)
                · refine q_ald_n cx dX12_runScript_82 rfl (lv_at hl 1 rfl) ?_
                  refine q_cVi (As := []) (rest := []) cx hB (fun _ h => h) hN hmo kmo (by decide) rfl (f_mendsText1 l g hN hB.2.1 mo hmo kmo x1720 (by omega) (by omega) x1722 (by omega) (by omega) ex1720 ex1722) q_cX12_253 q_dX12_endsText (by decide) rfl rfl hl.1 rfl (Nat.le_of_ble_eq_true rfl) dX12_runScript_83 (fun y1739 H locs f1738 ry1739 h1740 hF hB => ?_)
                  obtain ⟨qy1739, z1741, z1742, z1743⟩ := h1740
                  have z1744 : q_is (q_z f1738 sr 3) xt := Eq.trans (hF.z hsr (by rw [ksr]; rfl)) z1697
                  have z1745 : q_is (q_z f1738 sr 4) xm := Eq.trans (hF.z hsr (by rw [ksr]; rfl)) z1698
                  have z1746 : q_is (q_z f1738 sr 0) xc := Eq.trans (hF.z hsr (by rw [ksr]; rfl)) z1699
                  have z1747 : q_is (q_z f1738 mo 2) w19_mo_2 := Eq.trans (hF.z hmo (by rw [kmo]; rfl)) z1700
                  have z1748 : q_is (q_z f1738 mo 3) tn := Eq.trans (hF.z hmo (by rw [kmo]; rfl)) z1701
                  have z1749 : q_is (q_z f1738 mo 8) x1720 := Eq.trans (hF.z hmo (by rw [kmo]; rfl)) ex1720
                  have z1750 : q_is (q_z f1738 mo 5) x1721 := Eq.trans (hF.z hmo (by rw [kmo]; rfl)) ex1721
                  have z1751 : q_is (q_z f1738 mo 9) x1722 := Eq.trans (hF.z hmo (by rw [kmo]; rfl)) ex1722
                  have z1752 : q_is (q_z f1738 mo 37) x1723 := Eq.trans (hF.z hmo (by rw [kmo]; rfl)) ex1723
                  have z1753 : q_is (q_z f1738 mo 36) x1724 := Eq.trans (hF.z hmo (by rw [kmo]; rfl)) ex1724
                  have z1754 : q_ir (q_r f1738 mo 13) sr := Eq.trans (hF.r hmo (by rw [kmo]; rfl)) z1702
                  have z1755 : q_ir (q_r f1738 mo 18) nm := Eq.trans (hF.r hmo (by rw [kmo]; rfl)) z1703
                  have z1756 : q_ir (q_r f1738 mo 1) bu := Eq.trans (hF.r hmo (by rw [kmo]; rfl)) z1704
                  have z1757 : q_ir (q_r f1738 mo 29) cs := Eq.trans (hF.r hmo (by rw [kmo]; rfl)) z1705
                  have z1758 : q_ir (q_r f1738 mo 30) c1 := Eq.trans (hF.r hmo (by rw [kmo]; rfl)) z1706
                  have z1759 : q_ir (q_r f1738 mo 31) c2 := Eq.trans (hF.r hmo (by rw [kmo]; rfl)) z1707
                  have z1760 : q_ir (q_r f1738 mo 32) c3 := Eq.trans (hF.r hmo (by rw [kmo]; rfl)) z1708
                  have z1761 : q_ir (q_r f1738 mo 33) bg := Eq.trans (hF.r hmo (by rw [kmo]; rfl)) z1709
                  have z1762 : q_ir (q_r f1738 mo 34) lp := Eq.trans (hF.r hmo (by rw [kmo]; rfl)) z1710
                  have z1763 : q_ir (q_r f1738 mo 24) hp := Eq.trans (hF.r hmo (by rw [kmo]; rfl)) z1711
                  have z1764 : q_ir (q_r f1738 mo 25) dy := Eq.trans (hF.r hmo (by rw [kmo]; rfl)) z1712
                  have z1765 : q_ir (q_r f1738 mo 15) as := Eq.trans (hF.r hmo (by rw [kmo]; rfl)) z1713
                  have z1766 : q_ir (q_r f1738 mo 17) pa := Eq.trans (hF.r hmo (by rw [kmo]; rfl)) z1714
                  have g1767 : q_gr f1738 sr := q_gr_fr g1715 (fun i9 _ => hF.z hsr (by rw [ksr]; rfl))
                  have g1768 : q_pk f1738 mo pa := q_pk_tr g1716 (hF.z hmo (by rw [kmo]; rfl)) (fun i9 => hF.z hpa (by rw [kpa]; rfl))
                  have g1769 : q_pc f1738 mo pa xc := q_pc_tr g1717 (hF.z hmo (by rw [kmo]; rfl)) (fun i9 => hF.z hpa (by rw [kpa]; rfl))
                  have g1770 : tk_ub f1738 bu B tn := tk_ub_tr g1718 (fun i9 => hF.z hbu (by rw [kbu]; rfl))
                  have g1771 : tk_nq f1738 nm nl9 := tk_nq_tr g1719 (fun i9 => hF.j hnm (by rw [knm]; rfl))
                  have g1772 : tk_tr f1738 mo B tn := tk_tr_tr g1696 (hF.z hmo (by rw [kmo]; rfl)) (hF.z hmo (by rw [kmo]; rfl)) (hF.z hmo (by rw [kmo]; rfl)) (hF.z hmo (by rw [kmo]; rfl)) (hF.j hmo (by rw [kmo]; rfl))
                  subst qy1739
                  refine q_ifne (tgt := 91) cx ⟨by decide, by decide⟩ dX12_runScript_86 (by decide) (fun c1773 => ?_) (fun c1773 => ?_)
                  · exact absurd c1773 (by omega)
                  · refine q_iconst cx dX12_runScript_89 ?_
                    refine q_iret cx hr hlk hB dX12_runScript_90 ⟨by decide, by decide⟩ ?_
                    exact (Or.inr ⟨rfl, (q_isl z1744 (by omega)), (q_isu z1744 (by omega)), (q_isl z1745 (by omega)), (q_isu z1745 (by omega)), z1746, (Eq.trans z1747 (by omega)), z1741, (tk_erp (hal.trans (tk_U_er (tk_so_0n (tk_tr_s htr19 hj_mo_5 ex977) (by omega)) (Eq.trans (tk_sx_cd hncl) (tk_cd_e (tk_erx t1695 ex1720 ex1722))))) z1742 z1743), g1767, g1768, g1769⟩)
                · exact absurd c1737 (by omega)
              · exact absurd c1733 (by omega)
            · refine q_ald_n cx dX12_runScript_50 rfl (lv_at hl 1 rfl) ?_
              refine q_bipush cx dX12_runScript_51 rfl ?_
              refine q_cVv (As := [.int (q_i 59)]) (rest := []) cx hB (fun _ h => h) hN hmo kmo (by decide) rfl (r_mustSign1 l g hN hB.2.1 mo hmo kmo 59 (by decide) (by decide) x1720 (by omega) (by omega) ex1720) q_cX12_241 q_dX12_mustSign (by decide) rfl rfl hl.1 rfl (Nat.le_of_ble_eq_true rfl) dX12_runScript_53 (fun H locs f1774 h1776 hF hB => ?_)
              obtain rfl := h1776
              refine q_ald_n cx dX12_runScript_56 rfl (lv_at hl 1 rfl) ?_
              refine q_cVv (As := []) (rest := []) cx hB (fun _ h => h) hN hmo kmo (by decide) rfl (r_closes1 l g hN hB.2.1 mo hmo kmo x1720 (by omega) (by omega) ex1720) q_cX12_503 q_dX12_closes (by decide) rfl rfl hl.1 rfl (Nat.le_of_ble_eq_true rfl) dX12_runScript_57 (fun H locs f1777 h1779 hF hB => ?_)
              obtain rfl := h1779
              refine lv_goto (tgt := 19) cx.1 cx.2.1 dX12_runScript_60 (by decide) ?_
              refine q_ald_n cx dX12_runScript_19 rfl (lv_at hl 1 rfl) ?_
              refine q_cVi (As := []) (rest := []) cx hB (fun _ h => h) hN hmo kmo (by decide) rfl (r_isGood1 l g hN hB.2.1 mo hmo kmo x1720 (by omega) (by omega) ex1720) q_cX12_130 q_dX12_isGood (by decide) rfl rfl hl.1 rfl (Nat.le_of_ble_eq_true rfl) dX12_runScript_20 (fun y1781 H locs f1780 ry1781 h1782 hF hB => ?_)
              obtain ⟨rfl, qy1781⟩ := h1782
              subst qy1781
              refine q_ifeq (tgt := 63) cx ⟨by decide, by decide⟩ dX12_runScript_23 (by decide) (fun c1783 => ?_) (fun c1783 => ?_)
              · refine q_ald_n cx dX12_runScript_63 rfl (lv_at hl 1 rfl) ?_
                refine q_cVi (As := []) (rest := []) cx hB (fun _ h => h) hN hmo kmo (by decide) rfl (r_isGood1 l g hN hB.2.1 mo hmo kmo x1720 (by omega) (by omega) ex1720) q_cX12_130 q_dX12_isGood (by decide) rfl rfl hl.1 rfl (Nat.le_of_ble_eq_true rfl) dX12_runScript_64 (fun y1785 H locs f1784 ry1785 h1786 hF hB => ?_)
                obtain ⟨rfl, qy1785⟩ := h1786
                subst qy1785
                refine q_ifeq (tgt := 82) cx ⟨by decide, by decide⟩ dX12_runScript_67 (by decide) (fun c1787 => ?_) (fun c1787 => ?_)
                · refine q_ald_n cx dX12_runScript_82 rfl (lv_at hl 1 rfl) ?_
                  refine q_cVi (As := []) (rest := []) cx hB (fun _ h => h) hN hmo kmo (by decide) rfl (f_mendsText1 l g hN hB.2.1 mo hmo kmo x1720 (by omega) (by omega) x1722 (by omega) (by omega) ex1720 ex1722) q_cX12_253 q_dX12_endsText (by decide) rfl rfl hl.1 rfl (Nat.le_of_ble_eq_true rfl) dX12_runScript_83 (fun y1789 H locs f1788 ry1789 h1790 hF hB => ?_)
                  obtain ⟨qy1789, z1791, z1792, z1793⟩ := h1790
                  have z1794 : q_is (q_z f1788 sr 3) xt := Eq.trans (hF.z hsr (by rw [ksr]; rfl)) z1697
                  have z1795 : q_is (q_z f1788 sr 4) xm := Eq.trans (hF.z hsr (by rw [ksr]; rfl)) z1698
                  have z1796 : q_is (q_z f1788 sr 0) xc := Eq.trans (hF.z hsr (by rw [ksr]; rfl)) z1699
                  have z1797 : q_is (q_z f1788 mo 2) w19_mo_2 := Eq.trans (hF.z hmo (by rw [kmo]; rfl)) z1700
                  have z1798 : q_is (q_z f1788 mo 3) tn := Eq.trans (hF.z hmo (by rw [kmo]; rfl)) z1701
                  have z1799 : q_is (q_z f1788 mo 8) x1720 := Eq.trans (hF.z hmo (by rw [kmo]; rfl)) ex1720
                  have z1800 : q_is (q_z f1788 mo 5) x1721 := Eq.trans (hF.z hmo (by rw [kmo]; rfl)) ex1721
                  have z1801 : q_is (q_z f1788 mo 9) x1722 := Eq.trans (hF.z hmo (by rw [kmo]; rfl)) ex1722
                  have z1802 : q_is (q_z f1788 mo 37) x1723 := Eq.trans (hF.z hmo (by rw [kmo]; rfl)) ex1723
                  have z1803 : q_is (q_z f1788 mo 36) x1724 := Eq.trans (hF.z hmo (by rw [kmo]; rfl)) ex1724
                  have z1804 : q_ir (q_r f1788 mo 13) sr := Eq.trans (hF.r hmo (by rw [kmo]; rfl)) z1702
                  have z1805 : q_ir (q_r f1788 mo 18) nm := Eq.trans (hF.r hmo (by rw [kmo]; rfl)) z1703
                  have z1806 : q_ir (q_r f1788 mo 1) bu := Eq.trans (hF.r hmo (by rw [kmo]; rfl)) z1704
                  have z1807 : q_ir (q_r f1788 mo 29) cs := Eq.trans (hF.r hmo (by rw [kmo]; rfl)) z1705
                  have z1808 : q_ir (q_r f1788 mo 30) c1 := Eq.trans (hF.r hmo (by rw [kmo]; rfl)) z1706
                  have z1809 : q_ir (q_r f1788 mo 31) c2 := Eq.trans (hF.r hmo (by rw [kmo]; rfl)) z1707
                  have z1810 : q_ir (q_r f1788 mo 32) c3 := Eq.trans (hF.r hmo (by rw [kmo]; rfl)) z1708
                  have z1811 : q_ir (q_r f1788 mo 33) bg := Eq.trans (hF.r hmo (by rw [kmo]; rfl)) z1709
                  have z1812 : q_ir (q_r f1788 mo 34) lp := Eq.trans (hF.r hmo (by rw [kmo]; rfl)) z1710
                  have z1813 : q_ir (q_r f1788 mo 24) hp := Eq.trans (hF.r hmo (by rw [kmo]; rfl)) z1711
                  have z1814 : q_ir (q_r f1788 mo 25) dy := Eq.trans (hF.r hmo (by rw [kmo]; rfl)) z1712
                  have z1815 : q_ir (q_r f1788 mo 15) as := Eq.trans (hF.r hmo (by rw [kmo]; rfl)) z1713
                  have z1816 : q_ir (q_r f1788 mo 17) pa := Eq.trans (hF.r hmo (by rw [kmo]; rfl)) z1714
                  have g1817 : q_gr f1788 sr := q_gr_fr g1715 (fun i9 _ => hF.z hsr (by rw [ksr]; rfl))
                  have g1818 : q_pk f1788 mo pa := q_pk_tr g1716 (hF.z hmo (by rw [kmo]; rfl)) (fun i9 => hF.z hpa (by rw [kpa]; rfl))
                  have g1819 : q_pc f1788 mo pa xc := q_pc_tr g1717 (hF.z hmo (by rw [kmo]; rfl)) (fun i9 => hF.z hpa (by rw [kpa]; rfl))
                  have g1820 : tk_ub f1788 bu B tn := tk_ub_tr g1718 (fun i9 => hF.z hbu (by rw [kbu]; rfl))
                  have g1821 : tk_nq f1788 nm nl9 := tk_nq_tr g1719 (fun i9 => hF.j hnm (by rw [knm]; rfl))
                  have g1822 : tk_tr f1788 mo B tn := tk_tr_tr g1696 (hF.z hmo (by rw [kmo]; rfl)) (hF.z hmo (by rw [kmo]; rfl)) (hF.z hmo (by rw [kmo]; rfl)) (hF.z hmo (by rw [kmo]; rfl)) (hF.j hmo (by rw [kmo]; rfl))
                  subst qy1789
                  refine q_ifne (tgt := 91) cx ⟨by decide, by decide⟩ dX12_runScript_86 (by decide) (fun c1823 => ?_) (fun c1823 => ?_)
                  · exact absurd c1823 (by omega)
                  · refine q_iconst cx dX12_runScript_89 ?_
                    refine q_iret cx hr hlk hB dX12_runScript_90 ⟨by decide, by decide⟩ ?_
                    exact (Or.inr ⟨rfl, (q_isl z1794 (by omega)), (q_isu z1794 (by omega)), (q_isl z1795 (by omega)), (q_isu z1795 (by omega)), z1796, (Eq.trans z1797 (by omega)), z1791, (tk_erp (hal.trans (tk_U_er (tk_so_0n (tk_tr_s htr19 hj_mo_5 ex977) (by omega)) (Eq.trans (tk_sx_cd hncl) (tk_cd_e (tk_erx t1695 ex1720 ex1722))))) z1792 z1793), g1817, g1818, g1819⟩)
                · exact absurd c1787 (by omega)
              · exact absurd c1783 (by omega)
  obtain ⟨H, hH⟩ : ∃ H : Heap, H = s.heap := ⟨_, rfl⟩
  obtain ⟨locs, hlocs⟩ : ∃ z : List Loc, z = [] := ⟨_, rfl⟩
  rw [← hH, ← hlocs] at hB
  rw [← hH, ← hlocs]
  refine q_ald_n cx dX12_runScript_0 rfl (lv_at hl 0 rfl) ?_
  refine q_cVv (As := []) (rest := []) cx hB (fun _ h => h) hN hmo kmo (by decide) rfl (f_mbeginsText l g hN hB.2.1 B mo hmo kmo bu hbu kbu tn (by omega) (by omega) hf3 hr2 hub) q_cX12_244 q_dX12_beginsText (by decide) rfl rfl hl.1 rfl (Nat.le_of_ble_eq_true rfl) dX12_runScript_1 (fun H locs f1824 h1826 hF hB => ?_)
  obtain ⟨z1827, z1828, z1829, z1830, t1831, g1832⟩ := h1826
  have z1833 : q_is (q_z f1824 sr 3) xt := Eq.trans (hF.z hsr (by rw [ksr]; rfl)) hf0
  have z1834 : q_is (q_z f1824 sr 4) xm := Eq.trans (hF.z hsr (by rw [ksr]; rfl)) hf1
  have z1835 : q_is (q_z f1824 sr 0) xc := Eq.trans (hF.z hsr (by rw [ksr]; rfl)) hf2
  have z1836 : q_ir (q_r f1824 mo 13) sr := Eq.trans (hF.r hmo (by rw [kmo]; rfl)) hr0
  have z1837 : q_ir (q_r f1824 mo 18) nm := Eq.trans (hF.r hmo (by rw [kmo]; rfl)) hr1
  have z1838 : q_ir (q_r f1824 mo 1) bu := Eq.trans (hF.r hmo (by rw [kmo]; rfl)) hr2
  have z1839 : q_ir (q_r f1824 mo 29) cs := Eq.trans (hF.r hmo (by rw [kmo]; rfl)) hr3
  have z1840 : q_ir (q_r f1824 mo 30) c1 := Eq.trans (hF.r hmo (by rw [kmo]; rfl)) hr4
  have z1841 : q_ir (q_r f1824 mo 31) c2 := Eq.trans (hF.r hmo (by rw [kmo]; rfl)) hr5
  have z1842 : q_ir (q_r f1824 mo 32) c3 := Eq.trans (hF.r hmo (by rw [kmo]; rfl)) hr6
  have z1843 : q_ir (q_r f1824 mo 33) bg := Eq.trans (hF.r hmo (by rw [kmo]; rfl)) hr7
  have z1844 : q_ir (q_r f1824 mo 34) lp := Eq.trans (hF.r hmo (by rw [kmo]; rfl)) hr8
  have z1845 : q_ir (q_r f1824 mo 24) hp := Eq.trans (hF.r hmo (by rw [kmo]; rfl)) hr9
  have z1846 : q_ir (q_r f1824 mo 25) dy := Eq.trans (hF.r hmo (by rw [kmo]; rfl)) hr10
  have z1847 : q_ir (q_r f1824 mo 15) as := Eq.trans (hF.r hmo (by rw [kmo]; rfl)) hr11
  have z1848 : q_ir (q_r f1824 mo 17) pa := Eq.trans (hF.r hmo (by rw [kmo]; rfl)) hr12
  have g1849 : q_gr f1824 sr := q_gr_fr hgr (fun i9 _ => hF.z hsr (by rw [ksr]; rfl))
  have g1850 : q_pk f1824 mo pa := q_pk_tr hpk (hF.z hmo (by rw [kmo]; rfl)) (fun i9 => hF.z hpa (by rw [kpa]; rfl))
  have g1851 : q_pc f1824 mo pa xc := q_pc_tr hpc (hF.z hmo (by rw [kmo]; rfl)) (fun i9 => hF.z hpa (by rw [kpa]; rfl))
  have g1852 : tk_ub f1824 bu B tn := tk_ub_tr hub (fun i9 => hF.z hbu (by rw [kbu]; rfl))
  have g1853 : tk_nq f1824 nm nl9 := tk_nq_tr hrn (fun i9 => hF.j hnm (by rw [knm]; rfl))
  obtain ⟨x1854, ex1854⟩ : ∃ zz, q_is (q_z f1824 mo 5) zz := ⟨_, q_isr _⟩
  obtain ⟨lx1854, ux1854⟩ := q_isb ex1854 (q_fib hB.2.1 hmo kmo (by decide) rfl)
  obtain ⟨-, l0x1854, u0x1854, -, -⟩ := tk_tr_n g1832 ex1854
  refine q_ald_n cx dX12_runScript_4 rfl (lv_at hl 0 rfl) ?_
  refine q_iconst cx dX12_runScript_5 ?_
  refine q_pX12_494 cx hB hmo kmo ⟨by decide, by decide⟩ (by decide) (by decide) rfl dX12_runScript_6 (fun H locs f1855 ef1855 z1856 hB => ?_)
  have z1857 : q_is (q_z f1855 sr 3) xt := by rw [ef1855, q_setz (Or.inr (by decide))]; exact z1833
  have z1858 : q_is (q_z f1855 sr 4) xm := by rw [ef1855, q_setz (Or.inr (by decide))]; exact z1834
  have z1859 : q_is (q_z f1855 sr 0) xc := by rw [ef1855, q_setz (Or.inr (by decide))]; exact z1835
  have z1860 : q_is (q_z f1855 mo 8) 0 := by rw [ef1855, q_setz (Or.inr (by decide))]; exact z1827
  have z1861 : q_is (q_z f1855 mo 9) (-1) := by rw [ef1855, q_setz (Or.inr (by decide))]; exact z1828
  have z1862 : q_is (q_z f1855 mo 2) 0 := by rw [ef1855, q_setz (Or.inr (by decide))]; exact z1829
  have z1863 : q_is (q_z f1855 mo 3) tn := by rw [ef1855, q_setz (Or.inr (by decide))]; exact z1830
  have z1864 : q_is (q_z f1855 mo 5) x1854 := by rw [ef1855, q_setz (Or.inr (by decide))]; exact ex1854
  have z1865 : q_ir (q_r f1855 mo 13) sr := by rw [ef1855, q_setr (Or.inr (by decide))]; exact z1836
  have z1866 : q_ir (q_r f1855 mo 18) nm := by rw [ef1855, q_setr (Or.inr (by decide))]; exact z1837
  have z1867 : q_ir (q_r f1855 mo 1) bu := by rw [ef1855, q_setr (Or.inr (by decide))]; exact z1838
  have z1868 : q_ir (q_r f1855 mo 29) cs := by rw [ef1855, q_setr (Or.inr (by decide))]; exact z1839
  have z1869 : q_ir (q_r f1855 mo 30) c1 := by rw [ef1855, q_setr (Or.inr (by decide))]; exact z1840
  have z1870 : q_ir (q_r f1855 mo 31) c2 := by rw [ef1855, q_setr (Or.inr (by decide))]; exact z1841
  have z1871 : q_ir (q_r f1855 mo 32) c3 := by rw [ef1855, q_setr (Or.inr (by decide))]; exact z1842
  have z1872 : q_ir (q_r f1855 mo 33) bg := by rw [ef1855, q_setr (Or.inr (by decide))]; exact z1843
  have z1873 : q_ir (q_r f1855 mo 34) lp := by rw [ef1855, q_setr (Or.inr (by decide))]; exact z1844
  have z1874 : q_ir (q_r f1855 mo 24) hp := by rw [ef1855, q_setr (Or.inr (by decide))]; exact z1845
  have z1875 : q_ir (q_r f1855 mo 25) dy := by rw [ef1855, q_setr (Or.inr (by decide))]; exact z1846
  have z1876 : q_ir (q_r f1855 mo 15) as := by rw [ef1855, q_setr (Or.inr (by decide))]; exact z1847
  have z1877 : q_ir (q_r f1855 mo 17) pa := by rw [ef1855, q_setr (Or.inr (by decide))]; exact z1848
  have g1878 : q_gr f1855 sr := q_gr_ne g1849 ef1855 (fun q => q_kne (k := 151) (k2 := 12) (by decide) ksr kmo q)
  have g1879 : q_pk f1855 mo pa := q_pk_tr g1850 (by rw [ef1855, q_setz (Or.inr (by decide))]) (fun i9 => by rw [ef1855, q_setz (Or.inl (fun q => by rw [q, kmo] at kpa; exact absurd kpa (by decide)))])
  have g1880 : q_pc f1855 mo pa xc := q_pc_tr g1851 (by rw [ef1855, q_setz (Or.inr (by decide))]) (fun i9 => by rw [ef1855, q_setz (Or.inl (fun q => by rw [q, kmo] at kpa; exact absurd kpa (by decide)))])
  have g1881 : tk_ub f1855 bu B tn := tk_ub_tr g1852 (fun i9 => by rw [ef1855, q_setz (Or.inl (fun q => by rw [q, kmo] at kbu; exact absurd kbu (by decide)))])
  have g1882 : tk_nq f1855 nm nl9 := tk_nq_tr g1853 (fun i9 => by rw [ef1855, q_setj (Or.inl (fun q => by rw [q, kmo] at knm; exact absurd knm (by decide)))])
  have g1883 : tk_tr f1855 mo B tn := tk_tr_tr g1832 (by rw [ef1855, q_setz (Or.inr (by decide))]) (by rw [ef1855, q_setz (Or.inr (by decide))]) (by rw [ef1855, q_setz (Or.inr (by decide))]) (by rw [ef1855, q_setz (Or.inr (by decide))]) (by rw [ef1855, q_setj (Or.inr (by decide))])
  refine q_ald_n cx dX12_runScript_9 rfl (lv_at hl 0 rfl) ?_
  refine q_iconst cx dX12_runScript_10 ?_
  refine q_pX12_491 cx hB hmo kmo ⟨by decide, by decide⟩ (by decide) (by decide) rfl dX12_runScript_11 (fun H locs f1884 ef1884 z1885 hB => ?_)
  have z1886 : q_is (q_z f1884 sr 3) xt := by rw [ef1884, q_setz (Or.inr (by decide))]; exact z1857
  have z1887 : q_is (q_z f1884 sr 4) xm := by rw [ef1884, q_setz (Or.inr (by decide))]; exact z1858
  have z1888 : q_is (q_z f1884 sr 0) xc := by rw [ef1884, q_setz (Or.inr (by decide))]; exact z1859
  have z1889 : q_is (q_z f1884 mo 8) 0 := by rw [ef1884, q_setz (Or.inr (by decide))]; exact z1860
  have z1890 : q_is (q_z f1884 mo 9) (-1) := by rw [ef1884, q_setz (Or.inr (by decide))]; exact z1861
  have z1891 : q_is (q_z f1884 mo 2) 0 := by rw [ef1884, q_setz (Or.inr (by decide))]; exact z1862
  have z1892 : q_is (q_z f1884 mo 3) tn := by rw [ef1884, q_setz (Or.inr (by decide))]; exact z1863
  have z1893 : q_is (q_z f1884 mo 5) x1854 := by rw [ef1884, q_setz (Or.inr (by decide))]; exact z1864
  have z1894 : q_is (q_z f1884 mo 35) 0 := by rw [ef1884, q_setz (Or.inr (by decide))]; exact z1856
  have z1895 : q_ir (q_r f1884 mo 13) sr := by rw [ef1884, q_setr (Or.inr (by decide))]; exact z1865
  have z1896 : q_ir (q_r f1884 mo 18) nm := by rw [ef1884, q_setr (Or.inr (by decide))]; exact z1866
  have z1897 : q_ir (q_r f1884 mo 1) bu := by rw [ef1884, q_setr (Or.inr (by decide))]; exact z1867
  have z1898 : q_ir (q_r f1884 mo 29) cs := by rw [ef1884, q_setr (Or.inr (by decide))]; exact z1868
  have z1899 : q_ir (q_r f1884 mo 30) c1 := by rw [ef1884, q_setr (Or.inr (by decide))]; exact z1869
  have z1900 : q_ir (q_r f1884 mo 31) c2 := by rw [ef1884, q_setr (Or.inr (by decide))]; exact z1870
  have z1901 : q_ir (q_r f1884 mo 32) c3 := by rw [ef1884, q_setr (Or.inr (by decide))]; exact z1871
  have z1902 : q_ir (q_r f1884 mo 33) bg := by rw [ef1884, q_setr (Or.inr (by decide))]; exact z1872
  have z1903 : q_ir (q_r f1884 mo 34) lp := by rw [ef1884, q_setr (Or.inr (by decide))]; exact z1873
  have z1904 : q_ir (q_r f1884 mo 24) hp := by rw [ef1884, q_setr (Or.inr (by decide))]; exact z1874
  have z1905 : q_ir (q_r f1884 mo 25) dy := by rw [ef1884, q_setr (Or.inr (by decide))]; exact z1875
  have z1906 : q_ir (q_r f1884 mo 15) as := by rw [ef1884, q_setr (Or.inr (by decide))]; exact z1876
  have z1907 : q_ir (q_r f1884 mo 17) pa := by rw [ef1884, q_setr (Or.inr (by decide))]; exact z1877
  have g1908 : q_gr f1884 sr := q_gr_ne g1878 ef1884 (fun q => q_kne (k := 151) (k2 := 12) (by decide) ksr kmo q)
  have g1909 : q_pk f1884 mo pa := q_pk_tr g1879 (by rw [ef1884, q_setz (Or.inr (by decide))]) (fun i9 => by rw [ef1884, q_setz (Or.inl (fun q => by rw [q, kmo] at kpa; exact absurd kpa (by decide)))])
  have g1910 : q_pc f1884 mo pa xc := q_pc_tr g1880 (by rw [ef1884, q_setz (Or.inr (by decide))]) (fun i9 => by rw [ef1884, q_setz (Or.inl (fun q => by rw [q, kmo] at kpa; exact absurd kpa (by decide)))])
  have g1911 : tk_ub f1884 bu B tn := tk_ub_tr g1881 (fun i9 => by rw [ef1884, q_setz (Or.inl (fun q => by rw [q, kmo] at kbu; exact absurd kbu (by decide)))])
  have g1912 : tk_nq f1884 nm nl9 := tk_nq_tr g1882 (fun i9 => by rw [ef1884, q_setj (Or.inl (fun q => by rw [q, kmo] at knm; exact absurd knm (by decide)))])
  have g1913 : tk_tr f1884 mo B tn := tk_tr_tr g1883 (by rw [ef1884, q_setz (Or.inr (by decide))]) (by rw [ef1884, q_setz (Or.inr (by decide))]) (by rw [ef1884, q_setz (Or.inr (by decide))]) (by rw [ef1884, q_setz (Or.inr (by decide))]) (by rw [ef1884, q_setj (Or.inr (by decide))])
  refine q_ald_n cx dX12_runScript_14 rfl (lv_at hl 0 rfl) ?_
  refine q_iconst cx dX12_runScript_15 ?_
  refine q_pX12_488 cx hB hmo kmo ⟨by decide, by decide⟩ (by decide) (by decide) rfl dX12_runScript_16 (fun H locs f1914 ef1914 z1915 hB => ?_)
  have z1916 : q_is (q_z f1914 sr 3) xt := by rw [ef1914, q_setz (Or.inr (by decide))]; exact z1886
  have z1917 : q_is (q_z f1914 sr 4) xm := by rw [ef1914, q_setz (Or.inr (by decide))]; exact z1887
  have z1918 : q_is (q_z f1914 sr 0) xc := by rw [ef1914, q_setz (Or.inr (by decide))]; exact z1888
  have z1919 : q_is (q_z f1914 mo 8) 0 := by rw [ef1914, q_setz (Or.inr (by decide))]; exact z1889
  have z1920 : q_is (q_z f1914 mo 9) (-1) := by rw [ef1914, q_setz (Or.inr (by decide))]; exact z1890
  have z1921 : q_is (q_z f1914 mo 2) 0 := by rw [ef1914, q_setz (Or.inr (by decide))]; exact z1891
  have z1922 : q_is (q_z f1914 mo 3) tn := by rw [ef1914, q_setz (Or.inr (by decide))]; exact z1892
  have z1923 : q_is (q_z f1914 mo 5) x1854 := by rw [ef1914, q_setz (Or.inr (by decide))]; exact z1893
  have z1924 : q_is (q_z f1914 mo 35) 0 := by rw [ef1914, q_setz (Or.inr (by decide))]; exact z1894
  have z1925 : q_is (q_z f1914 mo 36) 0 := by rw [ef1914, q_setz (Or.inr (by decide))]; exact z1885
  have z1926 : q_ir (q_r f1914 mo 13) sr := by rw [ef1914, q_setr (Or.inr (by decide))]; exact z1895
  have z1927 : q_ir (q_r f1914 mo 18) nm := by rw [ef1914, q_setr (Or.inr (by decide))]; exact z1896
  have z1928 : q_ir (q_r f1914 mo 1) bu := by rw [ef1914, q_setr (Or.inr (by decide))]; exact z1897
  have z1929 : q_ir (q_r f1914 mo 29) cs := by rw [ef1914, q_setr (Or.inr (by decide))]; exact z1898
  have z1930 : q_ir (q_r f1914 mo 30) c1 := by rw [ef1914, q_setr (Or.inr (by decide))]; exact z1899
  have z1931 : q_ir (q_r f1914 mo 31) c2 := by rw [ef1914, q_setr (Or.inr (by decide))]; exact z1900
  have z1932 : q_ir (q_r f1914 mo 32) c3 := by rw [ef1914, q_setr (Or.inr (by decide))]; exact z1901
  have z1933 : q_ir (q_r f1914 mo 33) bg := by rw [ef1914, q_setr (Or.inr (by decide))]; exact z1902
  have z1934 : q_ir (q_r f1914 mo 34) lp := by rw [ef1914, q_setr (Or.inr (by decide))]; exact z1903
  have z1935 : q_ir (q_r f1914 mo 24) hp := by rw [ef1914, q_setr (Or.inr (by decide))]; exact z1904
  have z1936 : q_ir (q_r f1914 mo 25) dy := by rw [ef1914, q_setr (Or.inr (by decide))]; exact z1905
  have z1937 : q_ir (q_r f1914 mo 15) as := by rw [ef1914, q_setr (Or.inr (by decide))]; exact z1906
  have z1938 : q_ir (q_r f1914 mo 17) pa := by rw [ef1914, q_setr (Or.inr (by decide))]; exact z1907
  have g1939 : q_gr f1914 sr := q_gr_ne g1908 ef1914 (fun q => q_kne (k := 151) (k2 := 12) (by decide) ksr kmo q)
  have g1940 : q_pk f1914 mo pa := q_pk_tr g1909 (by rw [ef1914, q_setz (Or.inr (by decide))]) (fun i9 => by rw [ef1914, q_setz (Or.inl (fun q => by rw [q, kmo] at kpa; exact absurd kpa (by decide)))])
  have g1941 : q_pc f1914 mo pa xc := q_pc_tr g1910 (by rw [ef1914, q_setz (Or.inr (by decide))]) (fun i9 => by rw [ef1914, q_setz (Or.inl (fun q => by rw [q, kmo] at kpa; exact absurd kpa (by decide)))])
  have g1942 : tk_ub f1914 bu B tn := tk_ub_tr g1911 (fun i9 => by rw [ef1914, q_setz (Or.inl (fun q => by rw [q, kmo] at kbu; exact absurd kbu (by decide)))])
  have g1943 : tk_nq f1914 nm nl9 := tk_nq_tr g1912 (fun i9 => by rw [ef1914, q_setj (Or.inl (fun q => by rw [q, kmo] at knm; exact absurd knm (by decide)))])
  have g1944 : tk_tr f1914 mo B tn := tk_tr_tr g1913 (by rw [ef1914, q_setz (Or.inr (by decide))]) (by rw [ef1914, q_setz (Or.inr (by decide))]) (by rw [ef1914, q_setz (Or.inr (by decide))]) (by rw [ef1914, q_setz (Or.inr (by decide))]) (by rw [ef1914, q_setj (Or.inr (by decide))])
  have hsc0 : q_sc f1914 mo cs c1 c2 := k_sc0 z1924 z1925 z1915
  exact J19 ((Int.toNat (601 - x1854)) + 1) f1914 0 (by decide) (by decide) (-1) (by decide) (by decide) 0 (by decide) (by decide) x1854 (by omega) (by omega) 0 (by decide) (by decide) 0 (by decide) (by decide) z1916 z1917 z1918 z1919 z1920 z1921 z1922 z1923 z1925 z1915 z1926 z1927 z1928 z1929 z1930 z1931 z1932 z1933 z1934 z1935 z1936 z1937 z1938 g1939 g1941 g1940 g1943 hsc0 g1944 g1942 (by omega) (congrArg (fun q9 => tk_U B tn nl9 q9 0 0) (Eq.symm (Eq.trans (Eq.symm ex1854) t1831))) (fun h9 => absurd h9.1 (by omega)) (Nat.lt_succ_self _) H locs hB ls (lv_sub hl [0] rfl)
