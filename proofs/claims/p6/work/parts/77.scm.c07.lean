set_option maxHeartbeats 4000000 in
set_option maxRecDepth 100000 in
theorem f_mrunScript (l : Launch) (g : q_G) {K : Nat → Nat} {L : List Nat} (hN : L.Nodup) {f : Nat → va_E} (hT : q_Ty g K L f) (B : Nat → Int) (nl9 : List (List Int)) (mo : Nat) (hmo : mo ∈ L) (kmo : K mo = 12) (sr : Nat) (hsr : sr ∈ L) (ksr : K sr = 151) (nm : Nat) (hnm : nm ∈ L) (knm : K nm = 156) (bu : Nat) (hbu : bu ∈ L) (kbu : K bu = 150) (cs : Nat) (hcs : cs ∈ L) (kcs : K cs = 161) (c1 : Nat) (hc1 : c1 ∈ L) (kc1 : K c1 = 162) (c2 : Nat) (hc2 : c2 ∈ L) (kc2 : K c2 = 163) (c3 : Nat) (hc3 : c3 ∈ L) (kc3 : K c3 = 164) (bg : Nat) (hbg : bg ∈ L) (kbg : K bg = 165) (lp : Nat) (hlp : lp ∈ L) (klp : K lp = 166) (hp : Nat) (hhp : hp ∈ L) (khp : K hp = 159) (dy : Nat) (hdy : dy ∈ L) (kdy : K dy = 160) (as : Nat) (has : as ∈ L) (kas : K as = 153) (pa : Nat) (hpa : pa ∈ L) (kpa : K pa = 155) (xt : Int) (lxt : 0 ≤ xt) (uxt : xt ≤ 9999) (xm : Int) (lxm : 0 ≤ xm) (uxm : xm ≤ 60) (xc : Int) (lxc : 0 ≤ xc) (uxc : xc ≤ 10) (tn : Int) (ltn : 0 ≤ tn) (utn : tn ≤ 600) (hf0 : q_is (q_z f sr 3) xt) (hf1 : q_is (q_z f sr 4) xm) (hf2 : q_is (q_z f sr 0) xc) (hf3 : q_is (q_z f mo 2) tn) (hr0 : q_ir (q_r f mo 13) sr) (hr1 : q_ir (q_r f mo 18) nm) (hr2 : q_ir (q_r f mo 1) bu) (hr3 : q_ir (q_r f mo 29) cs) (hr4 : q_ir (q_r f mo 30) c1) (hr5 : q_ir (q_r f mo 31) c2) (hr6 : q_ir (q_r f mo 32) c3) (hr7 : q_ir (q_r f mo 33) bg) (hr8 : q_ir (q_r f mo 34) lp) (hr9 : q_ir (q_r f mo 24) hp) (hr10 : q_ir (q_r f mo 25) dy) (hr11 : q_ir (q_r f mo 15) as) (hr12 : q_ir (q_r f mo 17) pa) (hp0 : (nl9.length : Int) = xc) (hgr : q_gr f sr) (hpk : q_pk f mo pa) (hpc : q_pc f mo pa xc) (hub : tk_ub f bu B tn) (hrn : tk_nq f nm nl9) : q_Ct l g K L yX12_runScript cX12_runScript 2 (some .int) 12 276 [.ref mo] f [(12, 0, 0), (12, 2, 12), (12, 21, 21), (12, 26, 28), (12, 35, 37), (151, 3, 4), (151, 9, 9), (151, 11, 89), (151, 92, 657), (153, 0, 657), (155, 0, 3947), (159, 0, 9), (160, 0, 9), (161, 0, 59), (162, 0, 58), (163, 0, 58), (164, 0, 58), (165, 0, 1), (166, 0, 1)] (q_Pi (fun (z : Int) (f1 : Nat → va_E) => (0 ≤ q_z f1 sr 3 ∧ q_z f1 sr 3 ≤ 9999 ∧ 0 ≤ q_z f1 sr 4 ∧ q_z f1 sr 4 ≤ 60 ∧ q_is (q_z f1 sr 0) xc ∧ q_is (q_z f1 mo 2) 0 ∧ q_is (q_z f1 mo 0) 0 ∧ q_is (q_z f1 mo 10) 0 ∧ q_is (q_z f1 mo 11) (-1) ∧ (tk_U B tn nl9 (tk_S B tn 0) 0 0 = tk_ok 0) ∧ q_gr f1 sr ∧ (q_pk f1 mo pa) ∧ (q_pc f1 mo pa xc)) ∨ (z = 0 ∧ 0 ≤ q_z f1 sr 3 ∧ q_z f1 sr 3 ≤ 9999 ∧ 0 ≤ q_z f1 sr 4 ∧ q_z f1 sr 4 ≤ 60 ∧ q_is (q_z f1 sr 0) xc ∧ q_is (q_z f1 mo 2) 0 ∧ q_is (q_z f1 mo 0) 1 ∧ (tk_U B tn nl9 (tk_S B tn 0) 0 0 = tk_er (q_z f1 mo 10) (q_z f1 mo 11)) ∧ q_gr f1 sr ∧ (q_pk f1 mo pa) ∧ (q_pc f1 mo pa xc)))) := by
  refine q_ofb (by decide +kernel) hN hT (Nat.le_of_ble_eq_true rfl) ?_
  intro p e s m below meth c ls cx hr hlk hB hl
  have hl : lv_has ls 2 [(0, .ref mo)] := hl
  have J19 : ∀ (n : Nat) (f19 : Nat → va_E) (w19_mo_8 : Int) (lw19_mo_8 : 0 ≤ w19_mo_8) (uw19_mo_8 : w19_mo_8 ≤ 0) (w19_mo_9 : Int) (lw19_mo_9 : (-1) ≤ w19_mo_9) (uw19_mo_9 : w19_mo_9 ≤ (-1)) (w19_mo_2 : Int) (lw19_mo_2 : 0 ≤ w19_mo_2) (uw19_mo_2 : w19_mo_2 ≤ 0) (w19_mo_5 : Int) (lw19_mo_5 : 0 ≤ w19_mo_5) (uw19_mo_5 : w19_mo_5 ≤ 600) (w19_mo_36 : Int) (lw19_mo_36 : 0 ≤ w19_mo_36) (uw19_mo_36 : w19_mo_36 ≤ 30) (w19_mo_37 : Int) (lw19_mo_37 : 0 ≤ w19_mo_37) (uw19_mo_37 : w19_mo_37 ≤ 2) (hj_sr_3 : q_is (q_z f19 sr 3) xt) (hj_sr_4 : q_is (q_z f19 sr 4) xm) (hj_sr_0 : q_is (q_z f19 sr 0) xc) (hj_mo_8 : q_is (q_z f19 mo 8) w19_mo_8) (hj_mo_9 : q_is (q_z f19 mo 9) w19_mo_9) (hj_mo_2 : q_is (q_z f19 mo 2) w19_mo_2) (hj_mo_3 : q_is (q_z f19 mo 3) tn) (hj_mo_5 : q_is (q_z f19 mo 5) w19_mo_5) (hj_mo_36 : q_is (q_z f19 mo 36) w19_mo_36) (hj_mo_37 : q_is (q_z f19 mo 37) w19_mo_37) (hq_mo_13 : q_ir (q_r f19 mo 13) sr) (hq_mo_18 : q_ir (q_r f19 mo 18) nm) (hq_mo_1 : q_ir (q_r f19 mo 1) bu) (hq_mo_29 : q_ir (q_r f19 mo 29) cs) (hq_mo_30 : q_ir (q_r f19 mo 30) c1) (hq_mo_31 : q_ir (q_r f19 mo 31) c2) (hq_mo_32 : q_ir (q_r f19 mo 32) c3) (hq_mo_33 : q_ir (q_r f19 mo 33) bg) (hq_mo_34 : q_ir (q_r f19 mo 34) lp) (hq_mo_24 : q_ir (q_r f19 mo 24) hp) (hq_mo_25 : q_ir (q_r f19 mo 25) dy) (hq_mo_15 : q_ir (q_r f19 mo 15) as) (hq_mo_17 : q_ir (q_r f19 mo 17) pa) (hgr19 : q_gr f19 sr) (hpc19 : q_pc f19 mo pa xc) (hpk19 : q_pk f19 mo pa) (hrn19 : tk_nq f19 nm nl9) (hsc19 : q_sc f19 mo cs c1 c2) (htr19 : tk_tr f19 mo B tn) (hub19 : tk_ub f19 bu B tn) (hrl19_0 : 0 ≤ 1 * tn + -1 * w19_mo_5 + 0) (hal : tk_U B tn nl9 (tk_S B tn 0) 0 0 = tk_U B tn nl9 w19_mo_5 w19_mo_37 w19_mo_36) (hncl : ¬ (0 < w19_mo_37 ∧ tk_k B tn w19_mo_5 = 41)) (hmu : (Int.toNat (601 - w19_mo_5)) < n) (H : Heap) (locs : List Loc) (hB : q_B g K L (fun q => q ∈ L) [(12, 0, 0), (12, 2, 12), (12, 21, 21), (12, 26, 28), (12, 35, 37), (151, 3, 4), (151, 9, 9), (151, 11, 89), (151, 92, 657), (153, 0, 657), (155, 0, 3947), (159, 0, 9), (160, 0, 9), (161, 0, 59), (162, 0, 58), (163, 0, 58), (164, 0, 58), (165, 0, 1), (166, 0, 1)] f f19 s H locs) (ls : Array Slot) (hl : lv_has ls 2 [(0, .ref mo)]), W p l e { frames := 12, cells := 0, slots := 0, locals := 276 } s m ([.ref mo] : List Value).toArray below meth c H locs 0 0 (MQ below (q_Q g K L [(12, 0, 0), (12, 2, 12), (12, 21, 21), (12, 26, 28), (12, 35, 37), (151, 3, 4), (151, 9, 9), (151, 11, 89), (151, 92, 657), (153, 0, 657), (155, 0, 3947), (159, 0, 9), (160, 0, 9), (161, 0, 59), (162, 0, 58), (163, 0, 58), (164, 0, 58), (165, 0, 1), (166, 0, 1)] f (q_Pi (fun (z : Int) (f1 : Nat → va_E) => (0 ≤ q_z f1 sr 3 ∧ q_z f1 sr 3 ≤ 9999 ∧ 0 ≤ q_z f1 sr 4 ∧ q_z f1 sr 4 ≤ 60 ∧ q_is (q_z f1 sr 0) xc ∧ q_is (q_z f1 mo 2) 0 ∧ q_is (q_z f1 mo 0) 0 ∧ q_is (q_z f1 mo 10) 0 ∧ q_is (q_z f1 mo 11) (-1) ∧ (tk_U B tn nl9 (tk_S B tn 0) 0 0 = tk_ok 0) ∧ q_gr f1 sr ∧ (q_pk f1 mo pa) ∧ (q_pc f1 mo pa xc)) ∨ (z = 0 ∧ 0 ≤ q_z f1 sr 3 ∧ q_z f1 sr 3 ≤ 9999 ∧ 0 ≤ q_z f1 sr 4 ∧ q_z f1 sr 4 ≤ 60 ∧ q_is (q_z f1 sr 0) xc ∧ q_is (q_z f1 mo 2) 0 ∧ q_is (q_z f1 mo 0) 1 ∧ (tk_U B tn nl9 (tk_S B tn 0) 0 0 = tk_er (q_z f1 mo 10) (q_z f1 mo 11)) ∧ q_gr f1 sr ∧ (q_pk f1 mo pa) ∧ (q_pc f1 mo pa xc))))) ([.ref mo] : List Value).toArray s 0 0 (fun q => q ∈ L)) (F0 m 19 ls []) := by
    intro n
    induction n with
    | zero =>
      intro f19 w19_mo_8 lw19_mo_8 uw19_mo_8 w19_mo_9 lw19_mo_9 uw19_mo_9 w19_mo_2 lw19_mo_2 uw19_mo_2 w19_mo_5 lw19_mo_5 uw19_mo_5 w19_mo_36 lw19_mo_36 uw19_mo_36 w19_mo_37 lw19_mo_37 uw19_mo_37 hj_sr_3 hj_sr_4 hj_sr_0 hj_mo_8 hj_mo_9 hj_mo_2 hj_mo_3 hj_mo_5 hj_mo_36 hj_mo_37 hq_mo_13 hq_mo_18 hq_mo_1 hq_mo_29 hq_mo_30 hq_mo_31 hq_mo_32 hq_mo_33 hq_mo_34 hq_mo_24 hq_mo_25 hq_mo_15 hq_mo_17 hgr19 hpc19 hpk19 hrn19 hsc19 htr19 hub19 hrl19_0 hal hncl hmu
      exact absurd hmu (Nat.not_lt_zero _)
    | succ n ih19 =>
      intro f19 w19_mo_8 lw19_mo_8 uw19_mo_8 w19_mo_9 lw19_mo_9 uw19_mo_9 w19_mo_2 lw19_mo_2 uw19_mo_2 w19_mo_5 lw19_mo_5 uw19_mo_5 w19_mo_36 lw19_mo_36 uw19_mo_36 w19_mo_37 lw19_mo_37 uw19_mo_37 hj_sr_3 hj_sr_4 hj_sr_0 hj_mo_8 hj_mo_9 hj_mo_2 hj_mo_3 hj_mo_5 hj_mo_36 hj_mo_37 hq_mo_13 hq_mo_18 hq_mo_1 hq_mo_29 hq_mo_30 hq_mo_31 hq_mo_32 hq_mo_33 hq_mo_34 hq_mo_24 hq_mo_25 hq_mo_15 hq_mo_17 hgr19 hpc19 hpk19 hrn19 hsc19 htr19 hub19 hrl19_0 hal hncl hmu H locs hB ls hl
      refine q_ald_n cx dX12_runScript_19 rfl (lv_at hl 0 rfl) ?_
      refine q_cVi (As := []) (rest := []) cx hB (fun _ h => h) hN hmo kmo (by decide) rfl (f_misGood l g hN hB.2.1 mo hmo kmo (Eq.trans hj_mo_8 (by omega))) q_cX12_130 q_dX12_isGood (by decide) rfl rfl hl.1 rfl (Nat.le_of_ble_eq_true rfl) dX12_runScript_20 (fun y967 H locs f966 ry967 h968 hF hB => ?_)
      obtain ⟨rfl, qy967⟩ := h968
      subst qy967
      refine q_ifeq (tgt := 63) cx ⟨by decide, by decide⟩ dX12_runScript_23 (by decide) (fun c969 => ?_) (fun c969 => ?_)
      · exact absurd c969 (by omega)
      · refine q_ald_n cx dX12_runScript_26 rfl (lv_at hl 0 rfl) ?_
        obtain ⟨x970, ex970⟩ : ∃ zz, q_is (q_z f19 mo 6) zz := ⟨_, q_isr _⟩
        refine q_gX12_117 cx hB hmo kmo ex970 dX12_runScript_27 (fun lb971 ub971 => ?_)
        refine q_ifeq (tgt := 63) cx ⟨by omega, by omega⟩ dX12_runScript_30 (by decide) (fun c972 => ?_) (fun c972 => ?_)
        · refine q_ald_n cx dX12_runScript_63 rfl (lv_at hl 0 rfl) ?_
          refine q_cVi (As := []) (rest := []) cx hB (fun _ h => h) hN hmo kmo (by decide) rfl (f_misGood l g hN hB.2.1 mo hmo kmo (Eq.trans hj_mo_8 (by omega))) q_cX12_130 q_dX12_isGood (by decide) rfl rfl hl.1 rfl (Nat.le_of_ble_eq_true rfl) dX12_runScript_64 (fun y974 H locs f973 ry974 h975 hF hB => ?_)
          obtain ⟨rfl, qy974⟩ := h975
          subst qy974
          refine q_ifeq (tgt := 82) cx ⟨by decide, by decide⟩ dX12_runScript_67 (by decide) (fun c976 => ?_) (fun c976 => ?_)
          · exact absurd c976 (by omega)
          · refine q_ald_n cx dX12_runScript_70 rfl (lv_at hl 0 rfl) ?_
            refine q_gX12_488 cx hB hmo kmo hj_mo_37 dX12_runScript_71 (fun lb977 ub977 => ?_)
            refine q_ifle (tgt := 82) cx ⟨by omega, by omega⟩ dX12_runScript_74 (by decide) (fun c978 => ?_) (fun c978 => ?_)
            · refine q_ald_n cx dX12_runScript_82 rfl (lv_at hl 0 rfl) ?_
              refine q_cVi (As := []) (rest := []) cx hB (fun _ h => h) hN hmo kmo (by decide) rfl (f_mendsText0 l g hN hB.2.1 mo hmo kmo (Eq.trans hj_mo_8 (by omega)) (Eq.trans hj_mo_9 (by omega))) q_cX12_253 q_dX12_endsText (by decide) rfl rfl hl.1 rfl (Nat.le_of_ble_eq_true rfl) dX12_runScript_83 (fun y980 H locs f979 ry980 h981 hF hB => ?_)
              obtain ⟨qy980, z982, z983, z984⟩ := h981
              have z985 : q_is (q_z f979 sr 3) xt := Eq.trans (hF.z hsr (by rw [ksr]; rfl)) hj_sr_3
              have z986 : q_is (q_z f979 sr 4) xm := Eq.trans (hF.z hsr (by rw [ksr]; rfl)) hj_sr_4
              have z987 : q_is (q_z f979 sr 0) xc := Eq.trans (hF.z hsr (by rw [ksr]; rfl)) hj_sr_0
              have z988 : q_is (q_z f979 mo 8) w19_mo_8 := Eq.trans (hF.z hmo (by rw [kmo]; rfl)) hj_mo_8
              have z989 : q_is (q_z f979 mo 9) w19_mo_9 := Eq.trans (hF.z hmo (by rw [kmo]; rfl)) hj_mo_9
              have z990 : q_is (q_z f979 mo 2) w19_mo_2 := Eq.trans (hF.z hmo (by rw [kmo]; rfl)) hj_mo_2
              have z991 : q_is (q_z f979 mo 3) tn := Eq.trans (hF.z hmo (by rw [kmo]; rfl)) hj_mo_3
              have z992 : q_is (q_z f979 mo 5) w19_mo_5 := Eq.trans (hF.z hmo (by rw [kmo]; rfl)) hj_mo_5
              have z993 : q_is (q_z f979 mo 36) w19_mo_36 := Eq.trans (hF.z hmo (by rw [kmo]; rfl)) hj_mo_36
              have z994 : q_is (q_z f979 mo 37) w19_mo_37 := Eq.trans (hF.z hmo (by rw [kmo]; rfl)) hj_mo_37
              have z995 : q_is (q_z f979 mo 6) x970 := Eq.trans (hF.z hmo (by rw [kmo]; rfl)) ex970
              have z996 : q_ir (q_r f979 mo 13) sr := Eq.trans (hF.r hmo (by rw [kmo]; rfl)) hq_mo_13
              have z997 : q_ir (q_r f979 mo 18) nm := Eq.trans (hF.r hmo (by rw [kmo]; rfl)) hq_mo_18
              have z998 : q_ir (q_r f979 mo 1) bu := Eq.trans (hF.r hmo (by rw [kmo]; rfl)) hq_mo_1
              have z999 : q_ir (q_r f979 mo 29) cs := Eq.trans (hF.r hmo (by rw [kmo]; rfl)) hq_mo_29
              have z1000 : q_ir (q_r f979 mo 30) c1 := Eq.trans (hF.r hmo (by rw [kmo]; rfl)) hq_mo_30
              have z1001 : q_ir (q_r f979 mo 31) c2 := Eq.trans (hF.r hmo (by rw [kmo]; rfl)) hq_mo_31
              have z1002 : q_ir (q_r f979 mo 32) c3 := Eq.trans (hF.r hmo (by rw [kmo]; rfl)) hq_mo_32
              have z1003 : q_ir (q_r f979 mo 33) bg := Eq.trans (hF.r hmo (by rw [kmo]; rfl)) hq_mo_33
              have z1004 : q_ir (q_r f979 mo 34) lp := Eq.trans (hF.r hmo (by rw [kmo]; rfl)) hq_mo_34
              have z1005 : q_ir (q_r f979 mo 24) hp := Eq.trans (hF.r hmo (by rw [kmo]; rfl)) hq_mo_24
              have z1006 : q_ir (q_r f979 mo 25) dy := Eq.trans (hF.r hmo (by rw [kmo]; rfl)) hq_mo_25
              have z1007 : q_ir (q_r f979 mo 15) as := Eq.trans (hF.r hmo (by rw [kmo]; rfl)) hq_mo_15
              have z1008 : q_ir (q_r f979 mo 17) pa := Eq.trans (hF.r hmo (by rw [kmo]; rfl)) hq_mo_17
              have g1009 : q_gr f979 sr := q_gr_fr hgr19 (fun i9 _ => hF.z hsr (by rw [ksr]; rfl))
              have g1010 : q_pk f979 mo pa := q_pk_tr hpk19 (hF.z hmo (by rw [kmo]; rfl)) (fun i9 => hF.z hpa (by rw [kpa]; rfl))
              have g1011 : q_pc f979 mo pa xc := q_pc_tr hpc19 (hF.z hmo (by rw [kmo]; rfl)) (fun i9 => hF.z hpa (by rw [kpa]; rfl))
              have g1012 : tk_ub f979 bu B tn := tk_ub_tr hub19 (fun i9 => hF.z hbu (by rw [kbu]; rfl))
              have g1013 : tk_nq f979 nm nl9 := tk_nq_tr hrn19 (fun i9 => hF.j hnm (by rw [knm]; rfl))
              have g1014 : tk_tr f979 mo B tn := tk_tr_tr htr19 (hF.z hmo (by rw [kmo]; rfl)) (hF.z hmo (by rw [kmo]; rfl)) (hF.z hmo (by rw [kmo]; rfl)) (hF.z hmo (by rw [kmo]; rfl)) (hF.j hmo (by rw [kmo]; rfl))
              have g1015 : q_sc f979 mo cs c1 c2 := q_sc_tr hsc19 (hF.z hmo (by rw [kmo]; rfl)) (hF.z hmo (by rw [kmo]; rfl)) (hF.z hmo (by rw [kmo]; rfl)) (fun i9 => hF.z hcs (by rw [kcs]; rfl)) (fun i9 => hF.z hc1 (by rw [kc1]; rfl)) (fun i9 => hF.z hc2 (by rw [kc2]; rfl))
              subst qy980
              refine q_ifne (tgt := 91) cx ⟨by decide, by decide⟩ dX12_runScript_86 (by decide) (fun c1016 => ?_) (fun c1016 => ?_)
              · refine q_ald_n cx dX12_runScript_91 rfl (lv_at hl 0 rfl) ?_
                refine q_cVv (As := []) (rest := []) cx hB (fun _ h => h) hN hmo kmo (by decide) rfl (r_laysAside l g hN hB.2.1 mo hmo kmo sr hsr ksr as has kas xt (by omega) (by omega) xm (by omega) (by omega) xc (by omega) (by omega) z985 z986 z987 z996 z1007 g1009) q_cX12_247 q_dX12_laysAside (by decide) rfl rfl hl.1 rfl (Nat.le_of_ble_eq_true rfl) dX12_runScript_92 (fun H locs f1017 h1019 hF hB => ?_)
                obtain ⟨lz1020, uz1020, z1021⟩ := h1019
                have z1022 : q_is (q_z f1017 sr 3) xt := Eq.trans (hF.z hsr (by rw [ksr]; rfl)) z985
                have z1023 : q_is (q_z f1017 sr 4) xm := Eq.trans (hF.z hsr (by rw [ksr]; rfl)) z986
                have z1024 : q_is (q_z f1017 sr 0) xc := Eq.trans (hF.z hsr (by rw [ksr]; rfl)) z987
                have z1025 : q_is (q_z f1017 mo 8) w19_mo_8 := Eq.trans (hF.z hmo (by rw [kmo]; rfl)) z988
                have z1026 : q_is (q_z f1017 mo 9) w19_mo_9 := Eq.trans (hF.z hmo (by rw [kmo]; rfl)) z989
                have z1027 : q_is (q_z f1017 mo 2) w19_mo_2 := Eq.trans (hF.z hmo (by rw [kmo]; rfl)) z990
                have z1028 : q_is (q_z f1017 mo 3) tn := Eq.trans (hF.z hmo (by rw [kmo]; rfl)) z991
                have z1029 : q_is (q_z f1017 mo 5) w19_mo_5 := Eq.trans (hF.z hmo (by rw [kmo]; rfl)) z992
                have z1030 : q_is (q_z f1017 mo 36) w19_mo_36 := Eq.trans (hF.z hmo (by rw [kmo]; rfl)) z993
                have z1031 : q_is (q_z f1017 mo 37) w19_mo_37 := Eq.trans (hF.z hmo (by rw [kmo]; rfl)) z994
                have z1032 : q_is (q_z f1017 mo 6) x970 := Eq.trans (hF.z hmo (by rw [kmo]; rfl)) z995
                have z1033 : q_is (q_z f1017 mo 0) 0 := Eq.trans (hF.z hmo (by rw [kmo]; rfl)) z982
                have z1034 : q_is (q_z f1017 mo 10) 0 := Eq.trans (hF.z hmo (by rw [kmo]; rfl)) z983
                have z1035 : q_is (q_z f1017 mo 11) (-1) := Eq.trans (hF.z hmo (by rw [kmo]; rfl)) z984
                have z1036 : q_ir (q_r f1017 mo 13) sr := Eq.trans (hF.r hmo (by rw [kmo]; rfl)) z996
                have z1037 : q_ir (q_r f1017 mo 18) nm := Eq.trans (hF.r hmo (by rw [kmo]; rfl)) z997
                have z1038 : q_ir (q_r f1017 mo 1) bu := Eq.trans (hF.r hmo (by rw [kmo]; rfl)) z998
                have z1039 : q_ir (q_r f1017 mo 29) cs := Eq.trans (hF.r hmo (by rw [kmo]; rfl)) z999
                have z1040 : q_ir (q_r f1017 mo 30) c1 := Eq.trans (hF.r hmo (by rw [kmo]; rfl)) z1000
                have z1041 : q_ir (q_r f1017 mo 31) c2 := Eq.trans (hF.r hmo (by rw [kmo]; rfl)) z1001
                have z1042 : q_ir (q_r f1017 mo 32) c3 := Eq.trans (hF.r hmo (by rw [kmo]; rfl)) z1002
                have z1043 : q_ir (q_r f1017 mo 33) bg := Eq.trans (hF.r hmo (by rw [kmo]; rfl)) z1003
                have z1044 : q_ir (q_r f1017 mo 34) lp := Eq.trans (hF.r hmo (by rw [kmo]; rfl)) z1004
                have z1045 : q_ir (q_r f1017 mo 24) hp := Eq.trans (hF.r hmo (by rw [kmo]; rfl)) z1005
                have z1046 : q_ir (q_r f1017 mo 25) dy := Eq.trans (hF.r hmo (by rw [kmo]; rfl)) z1006
                have z1047 : q_ir (q_r f1017 mo 15) as := Eq.trans (hF.r hmo (by rw [kmo]; rfl)) z1007
                have z1048 : q_ir (q_r f1017 mo 17) pa := Eq.trans (hF.r hmo (by rw [kmo]; rfl)) z1008
                have g1049 : q_gr f1017 sr := q_gr_fr g1009 (fun i9 _ => hF.z hsr (by rw [ksr]; rfl))
                have g1050 : q_pk f1017 mo pa := q_pk_tr g1010 (hF.z hmo (by rw [kmo]; rfl)) (fun i9 => hF.z hpa (by rw [kpa]; rfl))
                have g1051 : q_pc f1017 mo pa xc := q_pc_tr g1011 (hF.z hmo (by rw [kmo]; rfl)) (fun i9 => hF.z hpa (by rw [kpa]; rfl))
                have g1052 : tk_ub f1017 bu B tn := tk_ub_tr g1012 (fun i9 => hF.z hbu (by rw [kbu]; rfl))
                have g1053 : tk_nq f1017 nm nl9 := tk_nq_tr g1013 (fun i9 => hF.j hnm (by rw [knm]; rfl))
                have g1054 : tk_tr f1017 mo B tn := tk_tr_tr g1014 (hF.z hmo (by rw [kmo]; rfl)) (hF.z hmo (by rw [kmo]; rfl)) (hF.z hmo (by rw [kmo]; rfl)) (hF.z hmo (by rw [kmo]; rfl)) (hF.j hmo (by rw [kmo]; rfl))
                have g1055 : q_sc f1017 mo cs c1 c2 := q_sc_tr g1015 (hF.z hmo (by rw [kmo]; rfl)) (hF.z hmo (by rw [kmo]; rfl)) (hF.z hmo (by rw [kmo]; rfl)) (fun i9 => hF.z hcs (by rw [kcs]; rfl)) (fun i9 => hF.z hc1 (by rw [kc1]; rfl)) (fun i9 => hF.z hc2 (by rw [kc2]; rfl))
                obtain ⟨x1056, ex1056⟩ : ∃ zz, q_is (q_z f1017 as 2) zz := ⟨_, q_isr _⟩
                obtain ⟨lx1056, ux1056⟩ := q_isb ex1056 ⟨lz1020, uz1020⟩
                refine q_ald_n cx dX12_runScript_95 rfl (lv_at hl 0 rfl) ?_
                obtain ⟨x1057, ex1057⟩ : ∃ zz, q_is (q_z f1017 mo 35) zz := ⟨_, q_isr _⟩
                obtain ⟨lx1057, ux1057⟩ := q_isb ex1057 (q_fib hB.2.1 hmo kmo (by decide) rfl)
                refine q_cVi (As := []) (rest := []) cx hB (fun _ h => h) hN hmo kmo (by decide) rfl (r_runs l g hN hB.2.1 mo hmo kmo sr hsr ksr hp hhp khp dy hdy kdy cs hcs kcs c1 hc1 kc1 c2 hc2 kc2 c3 hc3 kc3 bg hbg kbg lp hlp klp xt (by omega) (by omega) xm (by omega) (by omega) xc (by omega) (by omega) x1057 (by omega) (by omega) z1022 z1023 z1024 ex1057 z1036 z1045 z1046 z1039 z1040 z1041 z1042 z1043 z1044 g1049 g1055) q_cX12_506 q_dX12_runs (by decide) rfl rfl hl.1 rfl (Nat.le_of_ble_eq_true rfl) dX12_runScript_96 (fun y1059 H locs f1058 ry1059 h1060 hF hB => ?_)
                obtain ⟨ly1059, uy1059, lz1061, uz1061, lz1062, uz1062, z1063, g1064⟩ := h1060
                have z1065 : q_is (q_z f1058 sr 0) xc := Eq.trans (hF.z hsr (by rw [ksr]; rfl)) z1024
                have z1066 : q_is (q_z f1058 mo 8) w19_mo_8 := Eq.trans (hF.z hmo (by rw [kmo]; rfl)) z1025
                have z1067 : q_is (q_z f1058 mo 9) w19_mo_9 := Eq.trans (hF.z hmo (by rw [kmo]; rfl)) z1026
                have z1068 : q_is (q_z f1058 mo 2) w19_mo_2 := Eq.trans (hF.z hmo (by rw [kmo]; rfl)) z1027
                have z1069 : q_is (q_z f1058 mo 3) tn := Eq.trans (hF.z hmo (by rw [kmo]; rfl)) z1028
                have z1070 : q_is (q_z f1058 mo 5) w19_mo_5 := Eq.trans (hF.z hmo (by rw [kmo]; rfl)) z1029
                have z1071 : q_is (q_z f1058 mo 36) w19_mo_36 := Eq.trans (hF.z hmo (by rw [kmo]; rfl)) z1030
                have z1072 : q_is (q_z f1058 mo 37) w19_mo_37 := Eq.trans (hF.z hmo (by rw [kmo]; rfl)) z1031
                have z1073 : q_is (q_z f1058 mo 6) x970 := Eq.trans (hF.z hmo (by rw [kmo]; rfl)) z1032
                have z1074 : q_is (q_z f1058 mo 0) 0 := Eq.trans (hF.z hmo (by rw [kmo]; rfl)) z1033
                have z1075 : q_is (q_z f1058 mo 10) 0 := Eq.trans (hF.z hmo (by rw [kmo]; rfl)) z1034
                have z1076 : q_is (q_z f1058 mo 11) (-1) := Eq.trans (hF.z hmo (by rw [kmo]; rfl)) z1035
                have z1077 : q_is (q_z f1058 as 2) x1056 := Eq.trans (hF.z has (by rw [kas]; rfl)) ex1056
                have z1078 : q_is (q_z f1058 as 0) xc := Eq.trans (hF.z has (by rw [kas]; rfl)) z1021
                have z1079 : q_is (q_z f1058 mo 35) x1057 := Eq.trans (hF.z hmo (by rw [kmo]; rfl)) ex1057
                have z1080 : q_ir (q_r f1058 mo 13) sr := Eq.trans (hF.r hmo (by rw [kmo]; rfl)) z1036
                have z1081 : q_ir (q_r f1058 mo 18) nm := Eq.trans (hF.r hmo (by rw [kmo]; rfl)) z1037
                have z1082 : q_ir (q_r f1058 mo 1) bu := Eq.trans (hF.r hmo (by rw [kmo]; rfl)) z1038
                have z1083 : q_ir (q_r f1058 mo 29) cs := Eq.trans (hF.r hmo (by rw [kmo]; rfl)) z1039
                have z1084 : q_ir (q_r f1058 mo 30) c1 := Eq.trans (hF.r hmo (by rw [kmo]; rfl)) z1040
                have z1085 : q_ir (q_r f1058 mo 31) c2 := Eq.trans (hF.r hmo (by rw [kmo]; rfl)) z1041
                have z1086 : q_ir (q_r f1058 mo 32) c3 := Eq.trans (hF.r hmo (by rw [kmo]; rfl)) z1042
                have z1087 : q_ir (q_r f1058 mo 33) bg := Eq.trans (hF.r hmo (by rw [kmo]; rfl)) z1043
                have z1088 : q_ir (q_r f1058 mo 34) lp := Eq.trans (hF.r hmo (by rw [kmo]; rfl)) z1044
                have z1089 : q_ir (q_r f1058 mo 24) hp := Eq.trans (hF.r hmo (by rw [kmo]; rfl)) z1045
                have z1090 : q_ir (q_r f1058 mo 25) dy := Eq.trans (hF.r hmo (by rw [kmo]; rfl)) z1046
                have z1091 : q_ir (q_r f1058 mo 15) as := Eq.trans (hF.r hmo (by rw [kmo]; rfl)) z1047
                have z1092 : q_ir (q_r f1058 mo 17) pa := Eq.trans (hF.r hmo (by rw [kmo]; rfl)) z1048
                have g1093 : q_pk f1058 mo pa := q_pk_tr g1050 (hF.z hmo (by rw [kmo]; rfl)) (fun i9 => hF.z hpa (by rw [kpa]; rfl))
                have g1094 : q_pc f1058 mo pa xc := q_pc_tr g1051 (hF.z hmo (by rw [kmo]; rfl)) (fun i9 => hF.z hpa (by rw [kpa]; rfl))
                have g1095 : tk_ub f1058 bu B tn := tk_ub_tr g1052 (fun i9 => hF.z hbu (by rw [kbu]; rfl))
                have g1096 : tk_nq f1058 nm nl9 := tk_nq_tr g1053 (fun i9 => hF.j hnm (by rw [knm]; rfl))
                have g1097 : tk_tr f1058 mo B tn := tk_tr_tr g1054 (hF.z hmo (by rw [kmo]; rfl)) (hF.z hmo (by rw [kmo]; rfl)) (hF.z hmo (by rw [kmo]; rfl)) (hF.z hmo (by rw [kmo]; rfl)) (hF.j hmo (by rw [kmo]; rfl))
                have g1098 : q_sc f1058 mo cs c1 c2 := q_sc_tr g1055 (hF.z hmo (by rw [kmo]; rfl)) (hF.z hmo (by rw [kmo]; rfl)) (hF.z hmo (by rw [kmo]; rfl)) (fun i9 => hF.z hcs (by rw [kcs]; rfl)) (fun i9 => hF.z hc1 (by rw [kc1]; rfl)) (fun i9 => hF.z hc2 (by rw [kc2]; rfl))
                obtain ⟨x1099, ex1099⟩ : ∃ zz, q_is (q_z f1058 sr 3) zz := ⟨_, q_isr _⟩
                obtain ⟨lx1099, ux1099⟩ := q_isb ex1099 ⟨lz1061, uz1061⟩
                obtain ⟨x1100, ex1100⟩ : ∃ zz, q_is (q_z f1058 sr 4) zz := ⟨_, q_isr _⟩
                obtain ⟨lx1100, ux1100⟩ := q_isb ex1100 ⟨lz1062, uz1062⟩
                refine lv_istore_n (lv' := [(1, .int (q_i y1059)), (0, .ref mo)]) cx.1 cx.2.1 dX12_runScript_99 rfl hl (by decide) rfl (fun ls hl => ?_)
                refine q_ald_n cx dX12_runScript_100 rfl (lv_at hl 1 rfl) ?_
                obtain ⟨x1101, ex1101⟩ : ∃ zz, q_is (q_z f1058 mo 21) zz := ⟨_, q_isr _⟩
                obtain ⟨lx1101, ux1101⟩ := q_isb ex1101 (q_fib hB.2.1 hmo kmo (by decide) rfl)
                by_cases c1102 : x1101 ≤ 5
                · refine q_cVv (As := []) (rest := []) cx hB (fun _ h => h) hN hmo kmo (by decide) rfl (r_keeps0 l g hN hB.2.1 mo hmo kmo as has kas pa hpa kpa x1056 (by omega) (by omega) x1101 (by omega) (by omega) xc (by omega) (by omega) z1077 ex1101 z1078 z1091 z1092 g1093 g1094) q_cX12_161 q_dX12_keeps (by decide) rfl rfl hl.1 rfl (Nat.le_of_ble_eq_true rfl) dX12_runScript_101 (fun H locs f1103 h1105 hF hB => ?_)
                  obtain ⟨g1106, g1107⟩ := h1105
                  have z1108 : q_is (q_z f1103 sr 0) xc := Eq.trans (hF.z hsr (by rw [ksr]; rfl)) z1063
                  have z1109 : q_is (q_z f1103 mo 8) w19_mo_8 := Eq.trans (hF.z hmo (by rw [kmo]; rfl)) z1066
                  have z1110 : q_is (q_z f1103 mo 9) w19_mo_9 := Eq.trans (hF.z hmo (by rw [kmo]; rfl)) z1067
                  have z1111 : q_is (q_z f1103 mo 2) w19_mo_2 := Eq.trans (hF.z hmo (by rw [kmo]; rfl)) z1068
                  have z1112 : q_is (q_z f1103 mo 3) tn := Eq.trans (hF.z hmo (by rw [kmo]; rfl)) z1069
                  have z1113 : q_is (q_z f1103 mo 5) w19_mo_5 := Eq.trans (hF.z hmo (by rw [kmo]; rfl)) z1070
                  have z1114 : q_is (q_z f1103 mo 36) w19_mo_36 := Eq.trans (hF.z hmo (by rw [kmo]; rfl)) z1071
                  have z1115 : q_is (q_z f1103 mo 37) w19_mo_37 := Eq.trans (hF.z hmo (by rw [kmo]; rfl)) z1072
                  have z1116 : q_is (q_z f1103 mo 6) x970 := Eq.trans (hF.z hmo (by rw [kmo]; rfl)) z1073
                  have z1117 : q_is (q_z f1103 mo 0) 0 := Eq.trans (hF.z hmo (by rw [kmo]; rfl)) z1074
                  have z1118 : q_is (q_z f1103 mo 10) 0 := Eq.trans (hF.z hmo (by rw [kmo]; rfl)) z1075
                  have z1119 : q_is (q_z f1103 mo 11) (-1) := Eq.trans (hF.z hmo (by rw [kmo]; rfl)) z1076
                  have z1120 : q_is (q_z f1103 as 2) x1056 := Eq.trans (hF.z has (by rw [kas]; rfl)) z1077
                  have z1121 : q_is (q_z f1103 as 0) xc := Eq.trans (hF.z has (by rw [kas]; rfl)) z1078
                  have z1122 : q_is (q_z f1103 mo 35) x1057 := Eq.trans (hF.z hmo (by rw [kmo]; rfl)) z1079
                  have z1123 : q_is (q_z f1103 sr 3) x1099 := Eq.trans (hF.z hsr (by rw [ksr]; rfl)) ex1099
                  have z1124 : q_is (q_z f1103 sr 4) x1100 := Eq.trans (hF.z hsr (by rw [ksr]; rfl)) ex1100
                  have z1125 : q_ir (q_r f1103 mo 13) sr := Eq.trans (hF.r hmo (by rw [kmo]; rfl)) z1080
                  have z1126 : q_ir (q_r f1103 mo 18) nm := Eq.trans (hF.r hmo (by rw [kmo]; rfl)) z1081
                  have z1127 : q_ir (q_r f1103 mo 1) bu := Eq.trans (hF.r hmo (by rw [kmo]; rfl)) z1082
                  have z1128 : q_ir (q_r f1103 mo 29) cs := Eq.trans (hF.r hmo (by rw [kmo]; rfl)) z1083
                  have z1129 : q_ir (q_r f1103 mo 30) c1 := Eq.trans (hF.r hmo (by rw [kmo]; rfl)) z1084
                  have z1130 : q_ir (q_r f1103 mo 31) c2 := Eq.trans (hF.r hmo (by rw [kmo]; rfl)) z1085
                  have z1131 : q_ir (q_r f1103 mo 32) c3 := Eq.trans (hF.r hmo (by rw [kmo]; rfl)) z1086
                  have z1132 : q_ir (q_r f1103 mo 33) bg := Eq.trans (hF.r hmo (by rw [kmo]; rfl)) z1087
                  have z1133 : q_ir (q_r f1103 mo 34) lp := Eq.trans (hF.r hmo (by rw [kmo]; rfl)) z1088
                  have z1134 : q_ir (q_r f1103 mo 24) hp := Eq.trans (hF.r hmo (by rw [kmo]; rfl)) z1089
                  have z1135 : q_ir (q_r f1103 mo 25) dy := Eq.trans (hF.r hmo (by rw [kmo]; rfl)) z1090
                  have z1136 : q_ir (q_r f1103 mo 15) as := Eq.trans (hF.r hmo (by rw [kmo]; rfl)) z1091
                  have z1137 : q_ir (q_r f1103 mo 17) pa := Eq.trans (hF.r hmo (by rw [kmo]; rfl)) z1092
                  have g1138 : q_gr f1103 sr := q_gr_fr g1064 (fun i9 _ => hF.z hsr (by rw [ksr]; rfl))
                  have g1139 : tk_ub f1103 bu B tn := tk_ub_tr g1095 (fun i9 => hF.z hbu (by rw [kbu]; rfl))
                  have g1140 : tk_nq f1103 nm nl9 := tk_nq_tr g1096 (fun i9 => hF.j hnm (by rw [knm]; rfl))
                  have g1141 : tk_tr f1103 mo B tn := tk_tr_tr g1097 (hF.z hmo (by rw [kmo]; rfl)) (hF.z hmo (by rw [kmo]; rfl)) (hF.z hmo (by rw [kmo]; rfl)) (hF.z hmo (by rw [kmo]; rfl)) (hF.j hmo (by rw [kmo]; rfl))
                  have g1142 : q_sc f1103 mo cs c1 c2 := q_sc_tr g1098 (hF.z hmo (by rw [kmo]; rfl)) (hF.z hmo (by rw [kmo]; rfl)) (hF.z hmo (by rw [kmo]; rfl)) (fun i9 => hF.z hcs (by rw [kcs]; rfl)) (fun i9 => hF.z hc1 (by rw [kc1]; rfl)) (fun i9 => hF.z hc2 (by rw [kc2]; rfl))
                  refine q_ild_n cx dX12_runScript_104 rfl (lv_at hl 0 rfl) ?_
                  refine q_iret cx hr hlk hB dX12_runScript_105 ⟨by omega, by omega⟩ ?_
                  exact (Or.inl ⟨(q_isl z1123 (by omega)), (q_isu z1123 (by omega)), (q_isl z1124 (by omega)), (q_isu z1124 (by omega)), z1108, (Eq.trans z1111 (by omega)), z1117, z1118, z1119, (hal.trans (tk_U_end (tk_so_0 (tk_tr_s htr19 hj_mo_5 ex970) (by omega)) (by omega))), g1138, g1106, g1107⟩)
                · refine q_cVv (As := []) (rest := []) cx hB (fun _ h => h) hN hmo kmo (by decide) rfl (r_keeps6 l g hN hB.2.1 mo hmo kmo as has kas pa hpa kpa x1056 (by omega) (by omega) xc (by omega) (by omega) z1077 (Eq.trans ex1101 (by omega)) z1078 z1091 z1092 g1093 g1094) q_cX12_161 q_dX12_keeps (by decide) rfl rfl hl.1 rfl (Nat.le_of_ble_eq_true rfl) dX12_runScript_101 (fun H locs f1143 h1145 hF hB => ?_)
                  obtain ⟨g1146, g1147⟩ := h1145
                  have z1148 : q_is (q_z f1143 sr 0) xc := Eq.trans (hF.z hsr (by rw [ksr]; rfl)) z1063
                  have z1149 : q_is (q_z f1143 mo 8) w19_mo_8 := Eq.trans (hF.z hmo (by rw [kmo]; rfl)) z1066
                  have z1150 : q_is (q_z f1143 mo 9) w19_mo_9 := Eq.trans (hF.z hmo (by rw [kmo]; rfl)) z1067
                  have z1151 : q_is (q_z f1143 mo 2) w19_mo_2 := Eq.trans (hF.z hmo (by rw [kmo]; rfl)) z1068
                  have z1152 : q_is (q_z f1143 mo 3) tn := Eq.trans (hF.z hmo (by rw [kmo]; rfl)) z1069
                  have z1153 : q_is (q_z f1143 mo 5) w19_mo_5 := Eq.trans (hF.z hmo (by rw [kmo]; rfl)) z1070
                  have z1154 : q_is (q_z f1143 mo 36) w19_mo_36 := Eq.trans (hF.z hmo (by rw [kmo]; rfl)) z1071
                  have z1155 : q_is (q_z f1143 mo 37) w19_mo_37 := Eq.trans (hF.z hmo (by rw [kmo]; rfl)) z1072
                  have z1156 : q_is (q_z f1143 mo 6) x970 := Eq.trans (hF.z hmo (by rw [kmo]; rfl)) z1073
                  have z1157 : q_is (q_z f1143 mo 0) 0 := Eq.trans (hF.z hmo (by rw [kmo]; rfl)) z1074
                  have z1158 : q_is (q_z f1143 mo 10) 0 := Eq.trans (hF.z hmo (by rw [kmo]; rfl)) z1075
                  have z1159 : q_is (q_z f1143 mo 11) (-1) := Eq.trans (hF.z hmo (by rw [kmo]; rfl)) z1076
                  have z1160 : q_is (q_z f1143 as 2) x1056 := Eq.trans (hF.z has (by rw [kas]; rfl)) z1077
                  have z1161 : q_is (q_z f1143 as 0) xc := Eq.trans (hF.z has (by rw [kas]; rfl)) z1078
                  have z1162 : q_is (q_z f1143 mo 35) x1057 := Eq.trans (hF.z hmo (by rw [kmo]; rfl)) z1079
                  have z1163 : q_is (q_z f1143 sr 3) x1099 := Eq.trans (hF.z hsr (by rw [ksr]; rfl)) ex1099
                  have z1164 : q_is (q_z f1143 sr 4) x1100 := Eq.trans (hF.z hsr (by rw [ksr]; rfl)) ex1100
                  have z1165 : q_ir (q_r f1143 mo 13) sr := Eq.trans (hF.r hmo (by rw [kmo]; rfl)) z1080
                  have z1166 : q_ir (q_r f1143 mo 18) nm := Eq.trans (hF.r hmo (by rw [kmo]; rfl)) z1081
                  have z1167 : q_ir (q_r f1143 mo 1) bu := Eq.trans (hF.r hmo (by rw [kmo]; rfl)) z1082
                  have z1168 : q_ir (q_r f1143 mo 29) cs := Eq.trans (hF.r hmo (by rw [kmo]; rfl)) z1083
                  have z1169 : q_ir (q_r f1143 mo 30) c1 := Eq.trans (hF.r hmo (by rw [kmo]; rfl)) z1084
                  have z1170 : q_ir (q_r f1143 mo 31) c2 := Eq.trans (hF.r hmo (by rw [kmo]; rfl)) z1085
                  have z1171 : q_ir (q_r f1143 mo 32) c3 := Eq.trans (hF.r hmo (by rw [kmo]; rfl)) z1086
                  have z1172 : q_ir (q_r f1143 mo 33) bg := Eq.trans (hF.r hmo (by rw [kmo]; rfl)) z1087
                  have z1173 : q_ir (q_r f1143 mo 34) lp := Eq.trans (hF.r hmo (by rw [kmo]; rfl)) z1088
                  have z1174 : q_ir (q_r f1143 mo 24) hp := Eq.trans (hF.r hmo (by rw [kmo]; rfl)) z1089
                  have z1175 : q_ir (q_r f1143 mo 25) dy := Eq.trans (hF.r hmo (by rw [kmo]; rfl)) z1090
                  have z1176 : q_ir (q_r f1143 mo 15) as := Eq.trans (hF.r hmo (by rw [kmo]; rfl)) z1091
                  have z1177 : q_ir (q_r f1143 mo 17) pa := Eq.trans (hF.r hmo (by rw [kmo]; rfl)) z1092
                  have g1178 : q_gr f1143 sr := q_gr_fr g1064 (fun i9 _ => hF.z hsr (by rw [ksr]; rfl))
                  have g1179 : tk_ub f1143 bu B tn := tk_ub_tr g1095 (fun i9 => hF.z hbu (by rw [kbu]; rfl))
                  have g1180 : tk_nq f1143 nm nl9 := tk_nq_tr g1096 (fun i9 => hF.j hnm (by rw [knm]; rfl))
                  have g1181 : tk_tr f1143 mo B tn := tk_tr_tr g1097 (hF.z hmo (by rw [kmo]; rfl)) (hF.z hmo (by rw [kmo]; rfl)) (hF.z hmo (by rw [kmo]; rfl)) (hF.z hmo (by rw [kmo]; rfl)) (hF.j hmo (by rw [kmo]; rfl))
                  have g1182 : q_sc f1143 mo cs c1 c2 := q_sc_tr g1098 (hF.z hmo (by rw [kmo]; rfl)) (hF.z hmo (by rw [kmo]; rfl)) (hF.z hmo (by rw [kmo]; rfl)) (fun i9 => hF.z hcs (by rw [kcs]; rfl)) (fun i9 => hF.z hc1 (by rw [kc1]; rfl)) (fun i9 => hF.z hc2 (by rw [kc2]; rfl))
                  refine q_ild_n cx dX12_runScript_104 rfl (lv_at hl 0 rfl) ?_
                  refine q_iret cx hr hlk hB dX12_runScript_105 ⟨by omega, by omega⟩ ?_
                  exact (Or.inl ⟨(q_isl z1163 (by omega)), (q_isu z1163 (by omega)), (q_isl z1164 (by omega)), (q_isu z1164 (by omega)), z1148, (Eq.trans z1151 (by omega)), z1157, z1158, z1159, (hal.trans (tk_U_end (tk_so_0 (tk_tr_s htr19 hj_mo_5 ex970) (by omega)) (by omega))), g1178, g1146, g1147⟩)
              · exact absurd c1016 (by omega)
            · refine q_ald_n cx dX12_runScript_77 rfl (lv_at hl 0 rfl) ?_
              refine q_iconst cx dX12_runScript_78 ?_
              refine q_cVv (As := [.int (q_i 1)]) (rest := []) cx hB (fun _ h => h) hN hmo kmo (by decide) rfl (f_mwrong1 l g hN hB.2.1 mo hmo kmo 1 (by decide) (by decide) w19_mo_5 (by omega) (by omega) hj_mo_5 (Eq.trans hj_mo_8 (by omega)) (Eq.trans hj_mo_9 (by omega))) q_cX12_137 q_dX12_wrong (by decide) rfl rfl hl.1 rfl (Nat.le_of_ble_eq_true rfl) dX12_runScript_79 (fun H locs f1183 h1185 hF hB => ?_)
              obtain ⟨z1186, z1187⟩ := h1185
              have z1188 : q_is (q_z f1183 sr 3) xt := Eq.trans (hF.z hsr (by rw [ksr]; rfl)) hj_sr_3
              have z1189 : q_is (q_z f1183 sr 4) xm := Eq.trans (hF.z hsr (by rw [ksr]; rfl)) hj_sr_4
              have z1190 : q_is (q_z f1183 sr 0) xc := Eq.trans (hF.z hsr (by rw [ksr]; rfl)) hj_sr_0
              have z1191 : q_is (q_z f1183 mo 2) w19_mo_2 := Eq.trans (hF.z hmo (by rw [kmo]; rfl)) hj_mo_2
              have z1192 : q_is (q_z f1183 mo 3) tn := Eq.trans (hF.z hmo (by rw [kmo]; rfl)) hj_mo_3
              have z1193 : q_is (q_z f1183 mo 5) w19_mo_5 := Eq.trans (hF.z hmo (by rw [kmo]; rfl)) hj_mo_5
              have z1194 : q_is (q_z f1183 mo 36) w19_mo_36 := Eq.trans (hF.z hmo (by rw [kmo]; rfl)) hj_mo_36
              have z1195 : q_is (q_z f1183 mo 37) w19_mo_37 := Eq.trans (hF.z hmo (by rw [kmo]; rfl)) hj_mo_37
              have z1196 : q_is (q_z f1183 mo 6) x970 := Eq.trans (hF.z hmo (by rw [kmo]; rfl)) ex970
              have z1197 : q_ir (q_r f1183 mo 13) sr := Eq.trans (hF.r hmo (by rw [kmo]; rfl)) hq_mo_13
              have z1198 : q_ir (q_r f1183 mo 18) nm := Eq.trans (hF.r hmo (by rw [kmo]; rfl)) hq_mo_18
              have z1199 : q_ir (q_r f1183 mo 1) bu := Eq.trans (hF.r hmo (by rw [kmo]; rfl)) hq_mo_1
              have z1200 : q_ir (q_r f1183 mo 29) cs := Eq.trans (hF.r hmo (by rw [kmo]; rfl)) hq_mo_29
              have z1201 : q_ir (q_r f1183 mo 30) c1 := Eq.trans (hF.r hmo (by rw [kmo]; rfl)) hq_mo_30
              have z1202 : q_ir (q_r f1183 mo 31) c2 := Eq.trans (hF.r hmo (by rw [kmo]; rfl)) hq_mo_31
              have z1203 : q_ir (q_r f1183 mo 32) c3 := Eq.trans (hF.r hmo (by rw [kmo]; rfl)) hq_mo_32
              have z1204 : q_ir (q_r f1183 mo 33) bg := Eq.trans (hF.r hmo (by rw [kmo]; rfl)) hq_mo_33
              have z1205 : q_ir (q_r f1183 mo 34) lp := Eq.trans (hF.r hmo (by rw [kmo]; rfl)) hq_mo_34
              have z1206 : q_ir (q_r f1183 mo 24) hp := Eq.trans (hF.r hmo (by rw [kmo]; rfl)) hq_mo_24
              have z1207 : q_ir (q_r f1183 mo 25) dy := Eq.trans (hF.r hmo (by rw [kmo]; rfl)) hq_mo_25
              have z1208 : q_ir (q_r f1183 mo 15) as := Eq.trans (hF.r hmo (by rw [kmo]; rfl)) hq_mo_15
              have z1209 : q_ir (q_r f1183 mo 17) pa := Eq.trans (hF.r hmo (by rw [kmo]; rfl)) hq_mo_17
              have g1210 : q_gr f1183 sr := q_gr_fr hgr19 (fun i9 _ => hF.z hsr (by rw [ksr]; rfl))
              have g1211 : q_pk f1183 mo pa := q_pk_tr hpk19 (hF.z hmo (by rw [kmo]; rfl)) (fun i9 => hF.z hpa (by rw [kpa]; rfl))
              have g1212 : q_pc f1183 mo pa xc := q_pc_tr hpc19 (hF.z hmo (by rw [kmo]; rfl)) (fun i9 => hF.z hpa (by rw [kpa]; rfl))
              have g1213 : tk_ub f1183 bu B tn := tk_ub_tr hub19 (fun i9 => hF.z hbu (by rw [kbu]; rfl))
              have g1214 : tk_nq f1183 nm nl9 := tk_nq_tr hrn19 (fun i9 => hF.j hnm (by rw [knm]; rfl))
              have g1215 : tk_tr f1183 mo B tn := tk_tr_tr htr19 (hF.z hmo (by rw [kmo]; rfl)) (hF.z hmo (by rw [kmo]; rfl)) (hF.z hmo (by rw [kmo]; rfl)) (hF.z hmo (by rw [kmo]; rfl)) (hF.j hmo (by rw [kmo]; rfl))
              have g1216 : q_sc f1183 mo cs c1 c2 := q_sc_tr hsc19 (hF.z hmo (by rw [kmo]; rfl)) (hF.z hmo (by rw [kmo]; rfl)) (hF.z hmo (by rw [kmo]; rfl)) (fun i9 => hF.z hcs (by rw [kcs]; rfl)) (fun i9 => hF.z hc1 (by rw [kc1]; rfl)) (fun i9 => hF.z hc2 (by rw [kc2]; rfl))
              refine q_ald_n cx dX12_runScript_82 rfl (lv_at hl 0 rfl) ?_
              refine q_cVi (As := []) (rest := []) cx hB (fun _ h => h) hN hmo kmo (by decide) rfl (f_mendsText1 l g hN hB.2.1 mo hmo kmo 1 (by decide) (by decide) w19_mo_5 (by omega) (by omega) z1186 z1187) q_cX12_253 q_dX12_endsText (by decide) rfl rfl hl.1 rfl (Nat.le_of_ble_eq_true rfl) dX12_runScript_83 (fun y1218 H locs f1217 ry1218 h1219 hF hB => ?_)
              obtain ⟨qy1218, z1220, z1221, z1222⟩ := h1219
              have z1223 : q_is (q_z f1217 sr 3) xt := Eq.trans (hF.z hsr (by rw [ksr]; rfl)) z1188
              have z1224 : q_is (q_z f1217 sr 4) xm := Eq.trans (hF.z hsr (by rw [ksr]; rfl)) z1189
              have z1225 : q_is (q_z f1217 sr 0) xc := Eq.trans (hF.z hsr (by rw [ksr]; rfl)) z1190
              have z1226 : q_is (q_z f1217 mo 2) w19_mo_2 := Eq.trans (hF.z hmo (by rw [kmo]; rfl)) z1191
              have z1227 : q_is (q_z f1217 mo 3) tn := Eq.trans (hF.z hmo (by rw [kmo]; rfl)) z1192
              have z1228 : q_is (q_z f1217 mo 5) w19_mo_5 := Eq.trans (hF.z hmo (by rw [kmo]; rfl)) z1193
              have z1229 : q_is (q_z f1217 mo 36) w19_mo_36 := Eq.trans (hF.z hmo (by rw [kmo]; rfl)) z1194
              have z1230 : q_is (q_z f1217 mo 37) w19_mo_37 := Eq.trans (hF.z hmo (by rw [kmo]; rfl)) z1195
              have z1231 : q_is (q_z f1217 mo 6) x970 := Eq.trans (hF.z hmo (by rw [kmo]; rfl)) z1196
              have z1232 : q_is (q_z f1217 mo 8) 1 := Eq.trans (hF.z hmo (by rw [kmo]; rfl)) z1186
              have z1233 : q_is (q_z f1217 mo 9) w19_mo_5 := Eq.trans (hF.z hmo (by rw [kmo]; rfl)) z1187
              have z1234 : q_ir (q_r f1217 mo 13) sr := Eq.trans (hF.r hmo (by rw [kmo]; rfl)) z1197
              have z1235 : q_ir (q_r f1217 mo 18) nm := Eq.trans (hF.r hmo (by rw [kmo]; rfl)) z1198
              have z1236 : q_ir (q_r f1217 mo 1) bu := Eq.trans (hF.r hmo (by rw [kmo]; rfl)) z1199
              have z1237 : q_ir (q_r f1217 mo 29) cs := Eq.trans (hF.r hmo (by rw [kmo]; rfl)) z1200
              have z1238 : q_ir (q_r f1217 mo 30) c1 := Eq.trans (hF.r hmo (by rw [kmo]; rfl)) z1201
              have z1239 : q_ir (q_r f1217 mo 31) c2 := Eq.trans (hF.r hmo (by rw [kmo]; rfl)) z1202
              have z1240 : q_ir (q_r f1217 mo 32) c3 := Eq.trans (hF.r hmo (by rw [kmo]; rfl)) z1203
              have z1241 : q_ir (q_r f1217 mo 33) bg := Eq.trans (hF.r hmo (by rw [kmo]; rfl)) z1204
              have z1242 : q_ir (q_r f1217 mo 34) lp := Eq.trans (hF.r hmo (by rw [kmo]; rfl)) z1205
              have z1243 : q_ir (q_r f1217 mo 24) hp := Eq.trans (hF.r hmo (by rw [kmo]; rfl)) z1206
              have z1244 : q_ir (q_r f1217 mo 25) dy := Eq.trans (hF.r hmo (by rw [kmo]; rfl)) z1207
              have z1245 : q_ir (q_r f1217 mo 15) as := Eq.trans (hF.r hmo (by rw [kmo]; rfl)) z1208
              have z1246 : q_ir (q_r f1217 mo 17) pa := Eq.trans (hF.r hmo (by rw [kmo]; rfl)) z1209
              have g1247 : q_gr f1217 sr := q_gr_fr g1210 (fun i9 _ => hF.z hsr (by rw [ksr]; rfl))
              have g1248 : q_pk f1217 mo pa := q_pk_tr g1211 (hF.z hmo (by rw [kmo]; rfl)) (fun i9 => hF.z hpa (by rw [kpa]; rfl))
              have g1249 : q_pc f1217 mo pa xc := q_pc_tr g1212 (hF.z hmo (by rw [kmo]; rfl)) (fun i9 => hF.z hpa (by rw [kpa]; rfl))
              have g1250 : tk_ub f1217 bu B tn := tk_ub_tr g1213 (fun i9 => hF.z hbu (by rw [kbu]; rfl))
              have g1251 : tk_nq f1217 nm nl9 := tk_nq_tr g1214 (fun i9 => hF.j hnm (by rw [knm]; rfl))
              have g1252 : tk_tr f1217 mo B tn := tk_tr_tr g1215 (hF.z hmo (by rw [kmo]; rfl)) (hF.z hmo (by rw [kmo]; rfl)) (hF.z hmo (by rw [kmo]; rfl)) (hF.z hmo (by rw [kmo]; rfl)) (hF.j hmo (by rw [kmo]; rfl))
              have g1253 : q_sc f1217 mo cs c1 c2 := q_sc_tr g1216 (hF.z hmo (by rw [kmo]; rfl)) (hF.z hmo (by rw [kmo]; rfl)) (hF.z hmo (by rw [kmo]; rfl)) (fun i9 => hF.z hcs (by rw [kcs]; rfl)) (fun i9 => hF.z hc1 (by rw [kc1]; rfl)) (fun i9 => hF.z hc2 (by rw [kc2]; rfl))
              subst qy1218
              refine q_ifne (tgt := 91) cx ⟨by decide, by decide⟩ dX12_runScript_86 (by decide) (fun c1254 => ?_) (fun c1254 => ?_)
              · exact absurd c1254 (by omega)
              · refine q_iconst cx dX12_runScript_89 ?_
                refine q_iret cx hr hlk hB dX12_runScript_90 ⟨by decide, by decide⟩ ?_
                exact (Or.inr ⟨rfl, (q_isl z1223 (by omega)), (q_isu z1223 (by omega)), (q_isl z1224 (by omega)), (q_isu z1224 (by omega)), z1225, (Eq.trans z1226 (by omega)), z1220, (tk_erp (hal.trans (tk_U_open (tk_so_0 (tk_tr_s htr19 hj_mo_5 ex970) (by omega)) (by omega) z1186 z1187)) z1221 z1222), g1247, g1248, g1249⟩)
        · refine q_ald_n cx dX12_runScript_33 rfl (lv_at hl 0 rfl) ?_
          refine q_gX12_488 cx hB hmo kmo hj_mo_37 dX12_runScript_34 (fun lb1255 ub1255 => ?_)
          refine lv_istore_n (lv' := [(1, .int (q_i w19_mo_37)), (0, .ref mo)]) cx.1 cx.2.1 dX12_runScript_37 rfl hl (by decide) rfl (fun ls hl => ?_)
          refine q_ald_n cx dX12_runScript_38 rfl (lv_at hl 1 rfl) ?_
          refine q_cVv (As := []) (rest := []) cx hB (fun _ h => h) hN hmo kmo (by decide) rfl (f_mcommand l g hN hB.2.1 B nl9 mo hmo kmo sr hsr ksr nm hnm knm bu hbu kbu cs hcs kcs c1 hc1 kc1 c2 hc2 kc2 c3 hc3 kc3 tn (by omega) (by omega) w19_mo_5 (by omega) (by omega) xc (by omega) (by omega) w19_mo_37 (by omega) (by omega) w19_mo_36 (by omega) (by omega) hj_mo_3 hj_mo_5 (Eq.trans hj_mo_8 (by omega)) (Eq.trans hj_mo_9 (by omega)) hj_sr_0 hj_mo_37 hj_mo_36 hq_mo_13 hq_mo_18 hq_mo_1 hq_mo_29 hq_mo_30 hq_mo_31 hq_mo_32 hp0 htr19 hub19 hrn19 hsc19) q_cX12_500 q_dX12_command (by decide) rfl rfl hl.1 rfl (Nat.le_of_ble_eq_true rfl) dX12_runScript_39 (fun H locs f1256 h1258 hF hB => ?_)
          rcases h1258 with h1259 | h1260 | h1261
          · obtain ⟨z1262, z1263, z1264, z1265, t1266, t1267, t1268, g1269⟩ := h1259
            have z1270 : q_is (q_z f1256 sr 3) xt := Eq.trans (hF.z hsr (by rw [ksr]; rfl)) hj_sr_3
            have z1271 : q_is (q_z f1256 sr 4) xm := Eq.trans (hF.z hsr (by rw [ksr]; rfl)) hj_sr_4
            have z1272 : q_is (q_z f1256 sr 0) xc := Eq.trans (hF.z hsr (by rw [ksr]; rfl)) hj_sr_0
            have z1273 : q_is (q_z f1256 mo 2) w19_mo_2 := Eq.trans (hF.z hmo (by rw [kmo]; rfl)) hj_mo_2
            have z1274 : q_is (q_z f1256 mo 3) tn := Eq.trans (hF.z hmo (by rw [kmo]; rfl)) hj_mo_3
            have z1275 : q_ir (q_r f1256 mo 13) sr := Eq.trans (hF.r hmo (by rw [kmo]; rfl)) hq_mo_13
            have z1276 : q_ir (q_r f1256 mo 18) nm := Eq.trans (hF.r hmo (by rw [kmo]; rfl)) hq_mo_18
            have z1277 : q_ir (q_r f1256 mo 1) bu := Eq.trans (hF.r hmo (by rw [kmo]; rfl)) hq_mo_1
            have z1278 : q_ir (q_r f1256 mo 29) cs := Eq.trans (hF.r hmo (by rw [kmo]; rfl)) hq_mo_29
            have z1279 : q_ir (q_r f1256 mo 30) c1 := Eq.trans (hF.r hmo (by rw [kmo]; rfl)) hq_mo_30
            have z1280 : q_ir (q_r f1256 mo 31) c2 := Eq.trans (hF.r hmo (by rw [kmo]; rfl)) hq_mo_31
            have z1281 : q_ir (q_r f1256 mo 32) c3 := Eq.trans (hF.r hmo (by rw [kmo]; rfl)) hq_mo_32
            have z1282 : q_ir (q_r f1256 mo 33) bg := Eq.trans (hF.r hmo (by rw [kmo]; rfl)) hq_mo_33
            have z1283 : q_ir (q_r f1256 mo 34) lp := Eq.trans (hF.r hmo (by rw [kmo]; rfl)) hq_mo_34
            have z1284 : q_ir (q_r f1256 mo 24) hp := Eq.trans (hF.r hmo (by rw [kmo]; rfl)) hq_mo_24
            have z1285 : q_ir (q_r f1256 mo 25) dy := Eq.trans (hF.r hmo (by rw [kmo]; rfl)) hq_mo_25
            have z1286 : q_ir (q_r f1256 mo 15) as := Eq.trans (hF.r hmo (by rw [kmo]; rfl)) hq_mo_15
            have z1287 : q_ir (q_r f1256 mo 17) pa := Eq.trans (hF.r hmo (by rw [kmo]; rfl)) hq_mo_17
            have g1288 : q_gr f1256 sr := q_gr_fr hgr19 (fun i9 _ => hF.z hsr (by rw [ksr]; rfl))
            have g1289 : q_pk f1256 mo pa := q_pk_tr hpk19 (hF.z hmo (by rw [kmo]; rfl)) (fun i9 => hF.z hpa (by rw [kpa]; rfl))
            have g1290 : q_pc f1256 mo pa xc := q_pc_tr hpc19 (hF.z hmo (by rw [kmo]; rfl)) (fun i9 => hF.z hpa (by rw [kpa]; rfl))
            have g1291 : tk_ub f1256 bu B tn := tk_ub_tr hub19 (fun i9 => hF.z hbu (by rw [kbu]; rfl))
            have g1292 : tk_nq f1256 nm nl9 := tk_nq_tr hrn19 (fun i9 => hF.j hnm (by rw [knm]; rfl))
            obtain ⟨x1293, ex1293⟩ : ∃ zz, q_is (q_z f1256 mo 5) zz := ⟨_, q_isr _⟩
            obtain ⟨lx1293, ux1293⟩ := q_isb ex1293 (q_fib hB.2.1 hmo kmo (by decide) rfl)
            obtain ⟨-, l0x1293, u0x1293, -, -⟩ := tk_tr_n g1269 ex1293
            have hcm9 : tk_cm B tn nl9 w19_mo_5 w19_mo_37 w19_mo_36 = tk_ok (x1293, w19_mo_37, (w19_mo_36 + 1)) := tk_xof t1266 ex1293 z1264 z1265
            refine q_ald_n cx dX12_runScript_42 rfl (lv_at hl 1 rfl) ?_
            refine q_gX12_488 cx hB hmo kmo z1264 dX12_runScript_43 (fun lb1294 ub1294 => ?_)
            refine q_ild_n cx dX12_runScript_46 rfl (lv_at hl 0 rfl) ?_
            refine q_icne (tgt := 56) cx ⟨by omega, by omega⟩ ⟨by omega, by omega⟩ dX12_runScript_47 (by decide) (fun c1295 => ?_) (fun c1295 => ?_)
            · exact absurd c1295 (by omega)
            · refine q_ald_n cx dX12_runScript_50 rfl (lv_at hl 1 rfl) ?_
              refine q_bipush cx dX12_runScript_51 rfl ?_
              refine q_cVv (As := [.int (q_i 59)]) (rest := []) cx hB (fun _ h => h) hN hmo kmo (by decide) rfl (f_mmustSign l g hN hB.2.1 B mo hmo kmo 59 (by decide) (by decide) bu hbu kbu tn (by omega) (by omega) x1293 (by omega) (by omega) z1274 ex1293 z1262 z1263 z1277 (by omega) g1269 g1291) q_cX12_241 q_dX12_mustSign (by decide) rfl rfl hl.1 rfl (Nat.le_of_ble_eq_true rfl) dX12_runScript_53 (fun H locs f1296 h1298 hF hB => ?_)
              rcases h1298 with h1299 | h1300
              · obtain ⟨z1301, z1302, t1303, g1304⟩ := h1299
                have z1305 : q_is (q_z f1296 sr 3) xt := Eq.trans (hF.z hsr (by rw [ksr]; rfl)) z1270
                have z1306 : q_is (q_z f1296 sr 4) xm := Eq.trans (hF.z hsr (by rw [ksr]; rfl)) z1271
                have z1307 : q_is (q_z f1296 sr 0) xc := Eq.trans (hF.z hsr (by rw [ksr]; rfl)) z1272
                have z1308 : q_is (q_z f1296 mo 2) w19_mo_2 := Eq.trans (hF.z hmo (by rw [kmo]; rfl)) z1273
                have z1309 : q_is (q_z f1296 mo 3) tn := Eq.trans (hF.z hmo (by rw [kmo]; rfl)) z1274
                have z1310 : q_is (q_z f1296 mo 37) w19_mo_37 := Eq.trans (hF.z hmo (by rw [kmo]; rfl)) z1264
                have z1311 : q_is (q_z f1296 mo 36) (w19_mo_36 + 1) := Eq.trans (hF.z hmo (by rw [kmo]; rfl)) z1265
                have z1312 : q_ir (q_r f1296 mo 13) sr := Eq.trans (hF.r hmo (by rw [kmo]; rfl)) z1275
                have z1313 : q_ir (q_r f1296 mo 18) nm := Eq.trans (hF.r hmo (by rw [kmo]; rfl)) z1276
                have z1314 : q_ir (q_r f1296 mo 1) bu := Eq.trans (hF.r hmo (by rw [kmo]; rfl)) z1277
                have z1315 : q_ir (q_r f1296 mo 29) cs := Eq.trans (hF.r hmo (by rw [kmo]; rfl)) z1278
                have z1316 : q_ir (q_r f1296 mo 30) c1 := Eq.trans (hF.r hmo (by rw [kmo]; rfl)) z1279
                have z1317 : q_ir (q_r f1296 mo 31) c2 := Eq.trans (hF.r hmo (by rw [kmo]; rfl)) z1280
                have z1318 : q_ir (q_r f1296 mo 32) c3 := Eq.trans (hF.r hmo (by rw [kmo]; rfl)) z1281
                have z1319 : q_ir (q_r f1296 mo 33) bg := Eq.trans (hF.r hmo (by rw [kmo]; rfl)) z1282
                have z1320 : q_ir (q_r f1296 mo 34) lp := Eq.trans (hF.r hmo (by rw [kmo]; rfl)) z1283
                have z1321 : q_ir (q_r f1296 mo 24) hp := Eq.trans (hF.r hmo (by rw [kmo]; rfl)) z1284
                have z1322 : q_ir (q_r f1296 mo 25) dy := Eq.trans (hF.r hmo (by rw [kmo]; rfl)) z1285
                have z1323 : q_ir (q_r f1296 mo 15) as := Eq.trans (hF.r hmo (by rw [kmo]; rfl)) z1286
                have z1324 : q_ir (q_r f1296 mo 17) pa := Eq.trans (hF.r hmo (by rw [kmo]; rfl)) z1287
                have g1325 : q_gr f1296 sr := q_gr_fr g1288 (fun i9 _ => hF.z hsr (by rw [ksr]; rfl))
                have g1326 : q_pk f1296 mo pa := q_pk_tr g1289 (hF.z hmo (by rw [kmo]; rfl)) (fun i9 => hF.z hpa (by rw [kpa]; rfl))
                have g1327 : q_pc f1296 mo pa xc := q_pc_tr g1290 (hF.z hmo (by rw [kmo]; rfl)) (fun i9 => hF.z hpa (by rw [kpa]; rfl))
                have g1328 : tk_ub f1296 bu B tn := tk_ub_tr g1291 (fun i9 => hF.z hbu (by rw [kbu]; rfl))
                have g1329 : tk_nq f1296 nm nl9 := tk_nq_tr g1292 (fun i9 => hF.j hnm (by rw [knm]; rfl))
                have g1330 : q_sc f1296 mo cs c1 c2 := q_sc_tr t1268 (hF.z hmo (by rw [kmo]; rfl)) (hF.z hmo (by rw [kmo]; rfl)) (hF.z hmo (by rw [kmo]; rfl)) (fun i9 => hF.z hcs (by rw [kcs]; rfl)) (fun i9 => hF.z hc1 (by rw [kc1]; rfl)) (fun i9 => hF.z hc2 (by rw [kc2]; rfl))
                obtain ⟨x1331, ex1331⟩ : ∃ zz, q_is (q_z f1296 mo 5) zz := ⟨_, q_isr _⟩
                obtain ⟨lx1331, ux1331⟩ := q_isb ex1331 (q_fib hB.2.1 hmo kmo (by decide) rfl)
                obtain ⟨-, l0x1331, u0x1331, -, -⟩ := tk_tr_n g1304 ex1331
                have hsx9 : tk_sx B tn nl9 w19_mo_5 w19_mo_37 w19_mo_36 = tk_ok (x1331, w19_mo_37, (w19_mo_36 + 1)) := Eq.trans (tk_sx_cd hncl) (tk_cd_n hcm9 (by omega) (tk_okx t1303 ex1331))
                have hlt9 := tk_sx_in hsx9 (by omega) (by omega)
                have hlt8 : w19_mo_5 < x1331 := hlt9.1
                refine q_ald_n cx dX12_runScript_56 rfl (lv_at hl 1 rfl) ?_
                refine q_cVv (As := []) (rest := []) cx hB (fun _ h => h) hN hmo kmo (by decide) rfl (f_mcloses0 l g hN hB.2.1 B nl9 mo hmo kmo bu hbu kbu cs hcs kcs c1 hc1 kc1 c2 hc2 kc2 tn (by omega) (by omega) x1331 (by omega) (by omega) w19_mo_37 (by omega) (by omega) (w19_mo_36 + 1) (by omega) (by omega) z1309 ex1331 z1301 z1302 z1310 z1311 z1314 z1315 z1316 z1317 g1304 g1328 g1330) q_cX12_503 q_dX12_closes (by decide) rfl rfl hl.1 rfl (Nat.le_of_ble_eq_true rfl) dX12_runScript_57 (fun H locs f1332 h1334 hF hB => ?_)
                rcases h1334 with h1335 | h1336
                · obtain ⟨z1337, z1338, z1339, lz1340, uz1340, t1341, t1342, t1343, t1344, g1345⟩ := h1335
                  have z1346 : q_is (q_z f1332 sr 3) xt := Eq.trans (hF.z hsr (by rw [ksr]; rfl)) z1305
                  have z1347 : q_is (q_z f1332 sr 4) xm := Eq.trans (hF.z hsr (by rw [ksr]; rfl)) z1306
                  have z1348 : q_is (q_z f1332 sr 0) xc := Eq.trans (hF.z hsr (by rw [ksr]; rfl)) z1307
                  have z1349 : q_is (q_z f1332 mo 2) w19_mo_2 := Eq.trans (hF.z hmo (by rw [kmo]; rfl)) z1308
                  have z1350 : q_is (q_z f1332 mo 3) tn := Eq.trans (hF.z hmo (by rw [kmo]; rfl)) z1309
                  have z1351 : q_is (q_z f1332 mo 36) (w19_mo_36 + 1) := Eq.trans (hF.z hmo (by rw [kmo]; rfl)) z1311
                  have z1352 : q_ir (q_r f1332 mo 13) sr := Eq.trans (hF.r hmo (by rw [kmo]; rfl)) z1312
                  have z1353 : q_ir (q_r f1332 mo 18) nm := Eq.trans (hF.r hmo (by rw [kmo]; rfl)) z1313
                  have z1354 : q_ir (q_r f1332 mo 1) bu := Eq.trans (hF.r hmo (by rw [kmo]; rfl)) z1314
                  have z1355 : q_ir (q_r f1332 mo 29) cs := Eq.trans (hF.r hmo (by rw [kmo]; rfl)) z1315
                  have z1356 : q_ir (q_r f1332 mo 30) c1 := Eq.trans (hF.r hmo (by rw [kmo]; rfl)) z1316
                  have z1357 : q_ir (q_r f1332 mo 31) c2 := Eq.trans (hF.r hmo (by rw [kmo]; rfl)) z1317
                  have z1358 : q_ir (q_r f1332 mo 32) c3 := Eq.trans (hF.r hmo (by rw [kmo]; rfl)) z1318
                  have z1359 : q_ir (q_r f1332 mo 33) bg := Eq.trans (hF.r hmo (by rw [kmo]; rfl)) z1319
                  have z1360 : q_ir (q_r f1332 mo 34) lp := Eq.trans (hF.r hmo (by rw [kmo]; rfl)) z1320
                  have z1361 : q_ir (q_r f1332 mo 24) hp := Eq.trans (hF.r hmo (by rw [kmo]; rfl)) z1321
                  have z1362 : q_ir (q_r f1332 mo 25) dy := Eq.trans (hF.r hmo (by rw [kmo]; rfl)) z1322
                  have z1363 : q_ir (q_r f1332 mo 15) as := Eq.trans (hF.r hmo (by rw [kmo]; rfl)) z1323
                  have z1364 : q_ir (q_r f1332 mo 17) pa := Eq.trans (hF.r hmo (by rw [kmo]; rfl)) z1324
                  have g1365 : q_gr f1332 sr := q_gr_fr g1325 (fun i9 _ => hF.z hsr (by rw [ksr]; rfl))
                  have g1366 : q_pk f1332 mo pa := q_pk_tr g1326 (hF.z hmo (by rw [kmo]; rfl)) (fun i9 => hF.z hpa (by rw [kpa]; rfl))
                  have g1367 : q_pc f1332 mo pa xc := q_pc_tr g1327 (hF.z hmo (by rw [kmo]; rfl)) (fun i9 => hF.z hpa (by rw [kpa]; rfl))
                  have g1368 : tk_ub f1332 bu B tn := tk_ub_tr g1328 (fun i9 => hF.z hbu (by rw [kbu]; rfl))
                  have g1369 : tk_nq f1332 nm nl9 := tk_nq_tr g1329 (fun i9 => hF.j hnm (by rw [knm]; rfl))
                  obtain ⟨x1370, ex1370⟩ : ∃ zz, q_is (q_z f1332 mo 37) zz := ⟨_, q_isr _⟩
                  obtain ⟨lx1370, ux1370⟩ := q_isb ex1370 ⟨lz1340, uz1340⟩
                  obtain ⟨x1371, ex1371⟩ : ∃ zz, q_is (q_z f1332 mo 5) zz := ⟨_, q_isr _⟩
                  obtain ⟨lx1371, ux1371⟩ := q_isb ex1371 (q_fib hB.2.1 hmo kmo (by decide) rfl)
                  obtain ⟨-, l0x1371, u0x1371, -, -⟩ := tk_tr_n g1345 ex1371
                  have g1372 : _ ≤ _ := t1343
                  have g1373 : w19_mo_5 < x1371 := by have h7 : _ = _ := ex1371; omega
                  refine lv_goto (tgt := 19) cx.1 cx.2.1 dX12_runScript_60 (by decide) ?_
                  exact ih19 f1332 0 (by decide) (by decide) (-1) (by decide) (by decide) w19_mo_2 (by omega) (by omega) x1371 (by omega) (by omega) (w19_mo_36 + 1) (by omega) (by omega) x1370 (by omega) (by omega) z1346 z1347 z1348 z1337 z1338 z1349 z1350 ex1371 z1339 ex1370 z1352 z1353 z1354 z1355 z1356 z1357 z1358 z1359 z1360 z1361 z1362 z1363 z1364 g1365 g1367 g1366 g1369 t1344 g1345 g1368 (by omega) (hal.trans ((tk_U_ok (by omega) (by omega) (tk_so_0n (tk_tr_s htr19 hj_mo_5 ex970) (by omega)) hsx9).trans (tk_U_r t1341 ex1371 ex1370))) (tk_ncl_r t1342 ex1371 ex1370) (by omega) H locs hB ls (lv_sub hl [1] rfl)
                · obtain ⟨lz1374, uz1374, t1375, g1376⟩ := h1336
                  have z1377 : q_is (q_z f1332 sr 3) xt := Eq.trans (hF.z hsr (by rw [ksr]; rfl)) z1305
                  have z1378 : q_is (q_z f1332 sr 4) xm := Eq.trans (hF.z hsr (by rw [ksr]; rfl)) z1306
                  have z1379 : q_is (q_z f1332 sr 0) xc := Eq.trans (hF.z hsr (by rw [ksr]; rfl)) z1307
                  have z1380 : q_is (q_z f1332 mo 2) w19_mo_2 := Eq.trans (hF.z hmo (by rw [kmo]; rfl)) z1308
                  have z1381 : q_is (q_z f1332 mo 3) tn := Eq.trans (hF.z hmo (by rw [kmo]; rfl)) z1309
                  have z1382 : q_is (q_z f1332 mo 36) (w19_mo_36 + 1) := Eq.trans (hF.z hmo (by rw [kmo]; rfl)) z1311
                  have z1383 : q_ir (q_r f1332 mo 13) sr := Eq.trans (hF.r hmo (by rw [kmo]; rfl)) z1312
                  have z1384 : q_ir (q_r f1332 mo 18) nm := Eq.trans (hF.r hmo (by rw [kmo]; rfl)) z1313
                  have z1385 : q_ir (q_r f1332 mo 1) bu := Eq.trans (hF.r hmo (by rw [kmo]; rfl)) z1314
                  have z1386 : q_ir (q_r f1332 mo 29) cs := Eq.trans (hF.r hmo (by rw [kmo]; rfl)) z1315
                  have z1387 : q_ir (q_r f1332 mo 30) c1 := Eq.trans (hF.r hmo (by rw [kmo]; rfl)) z1316
                  have z1388 : q_ir (q_r f1332 mo 31) c2 := Eq.trans (hF.r hmo (by rw [kmo]; rfl)) z1317
                  have z1389 : q_ir (q_r f1332 mo 32) c3 := Eq.trans (hF.r hmo (by rw [kmo]; rfl)) z1318
                  have z1390 : q_ir (q_r f1332 mo 33) bg := Eq.trans (hF.r hmo (by rw [kmo]; rfl)) z1319
                  have z1391 : q_ir (q_r f1332 mo 34) lp := Eq.trans (hF.r hmo (by rw [kmo]; rfl)) z1320
                  have z1392 : q_ir (q_r f1332 mo 24) hp := Eq.trans (hF.r hmo (by rw [kmo]; rfl)) z1321
                  have z1393 : q_ir (q_r f1332 mo 25) dy := Eq.trans (hF.r hmo (by rw [kmo]; rfl)) z1322
                  have z1394 : q_ir (q_r f1332 mo 15) as := Eq.trans (hF.r hmo (by rw [kmo]; rfl)) z1323
                  have z1395 : q_ir (q_r f1332 mo 17) pa := Eq.trans (hF.r hmo (by rw [kmo]; rfl)) z1324
                  have g1396 : q_gr f1332 sr := q_gr_fr g1325 (fun i9 _ => hF.z hsr (by rw [ksr]; rfl))
                  have g1397 : q_pk f1332 mo pa := q_pk_tr g1326 (hF.z hmo (by rw [kmo]; rfl)) (fun i9 => hF.z hpa (by rw [kpa]; rfl))
                  have g1398 : q_pc f1332 mo pa xc := q_pc_tr g1327 (hF.z hmo (by rw [kmo]; rfl)) (fun i9 => hF.z hpa (by rw [kpa]; rfl))
                  have g1399 : tk_ub f1332 bu B tn := tk_ub_tr g1328 (fun i9 => hF.z hbu (by rw [kbu]; rfl))
                  have g1400 : tk_nq f1332 nm nl9 := tk_nq_tr g1329 (fun i9 => hF.j hnm (by rw [knm]; rfl))
                  obtain ⟨x1401, ex1401⟩ : ∃ zz, q_is (q_z f1332 mo 8) zz := ⟨_, q_isr _⟩
                  obtain ⟨lx1401, ux1401⟩ := q_isb ex1401 ⟨lz1374, uz1374⟩
                  obtain ⟨x1402, ex1402⟩ : ∃ zz, q_is (q_z f1332 mo 5) zz := ⟨_, q_isr _⟩
                  obtain ⟨lx1402, ux1402⟩ := q_isb ex1402 (q_fib hB.2.1 hmo kmo (by decide) rfl)
                  obtain ⟨x1403, ex1403⟩ : ∃ zz, q_is (q_z f1332 mo 9) zz := ⟨_, q_isr _⟩
                  obtain ⟨lx1403, ux1403⟩ := q_isb ex1403 (q_fib hB.2.1 hmo kmo (by decide) rfl)
                  obtain ⟨x1404, ex1404⟩ : ∃ zz, q_is (q_z f1332 mo 37) zz := ⟨_, q_isr _⟩
                  obtain ⟨lx1404, ux1404⟩ := q_isb ex1404 (q_fib hB.2.1 hmo kmo (by decide) rfl)
                  obtain ⟨-, l0x1402, u0x1402, -, -⟩ := tk_tr_n g1376 ex1402
                  refine lv_goto (tgt := 19) cx.1 cx.2.1 dX12_runScript_60 (by decide) ?_
                  refine q_ald_n cx dX12_runScript_19 rfl (lv_at hl 1 rfl) ?_
                  refine q_cVi (As := []) (rest := []) cx hB (fun _ h => h) hN hmo kmo (by decide) rfl (r_isGood1 l g hN hB.2.1 mo hmo kmo x1401 (by omega) (by omega) ex1401) q_cX12_130 q_dX12_isGood (by decide) rfl rfl hl.1 rfl (Nat.le_of_ble_eq_true rfl) dX12_runScript_20 (fun y1406 H locs f1405 ry1406 h1407 hF hB => ?_)
                  obtain ⟨rfl, qy1406⟩ := h1407
                  subst qy1406
                  refine q_ifeq (tgt := 63) cx ⟨by decide, by decide⟩ dX12_runScript_23 (by decide) (fun c1408 => ?_) (fun c1408 => ?_)
                  · refine q_ald_n cx dX12_runScript_63 rfl (lv_at hl 1 rfl) ?_
                    refine q_cVi (As := []) (rest := []) cx hB (fun _ h => h) hN hmo kmo (by decide) rfl (r_isGood1 l g hN hB.2.1 mo hmo kmo x1401 (by omega) (by omega) ex1401) q_cX12_130 q_dX12_isGood (by decide) rfl rfl hl.1 rfl (Nat.le_of_ble_eq_true rfl) dX12_runScript_64 (fun y1410 H locs f1409 ry1410 h1411 hF hB => ?_)
                    obtain ⟨rfl, qy1410⟩ := h1411
                    subst qy1410
                    refine q_ifeq (tgt := 82) cx ⟨by decide, by decide⟩ dX12_runScript_67 (by decide) (fun c1412 => ?_) (fun c1412 => ?_)
                    · refine q_ald_n cx dX12_runScript_82 rfl (lv_at hl 1 rfl) ?_
                      refine q_cVi (As := []) (rest := []) cx hB (fun _ h => h) hN hmo kmo (by decide) rfl (f_mendsText1 l g hN hB.2.1 mo hmo kmo x1401 (by omega) (by omega) x1403 (by omega) (by omega) ex1401 ex1403) q_cX12_253 q_dX12_endsText (by decide) rfl rfl hl.1 rfl (Nat.le_of_ble_eq_true rfl) dX12_runScript_83 (fun y1414 H locs f1413 ry1414 h1415 hF hB => ?_)
                      obtain ⟨qy1414, z1416, z1417, z1418⟩ := h1415
                      have z1419 : q_is (q_z f1413 sr 3) xt := Eq.trans (hF.z hsr (by rw [ksr]; rfl)) z1377
                      have z1420 : q_is (q_z f1413 sr 4) xm := Eq.trans (hF.z hsr (by rw [ksr]; rfl)) z1378
                      have z1421 : q_is (q_z f1413 sr 0) xc := Eq.trans (hF.z hsr (by rw [ksr]; rfl)) z1379
                      have z1422 : q_is (q_z f1413 mo 2) w19_mo_2 := Eq.trans (hF.z hmo (by rw [kmo]; rfl)) z1380
                      have z1423 : q_is (q_z f1413 mo 3) tn := Eq.trans (hF.z hmo (by rw [kmo]; rfl)) z1381
                      have z1424 : q_is (q_z f1413 mo 36) (w19_mo_36 + 1) := Eq.trans (hF.z hmo (by rw [kmo]; rfl)) z1382
                      have z1425 : q_is (q_z f1413 mo 8) x1401 := Eq.trans (hF.z hmo (by rw [kmo]; rfl)) ex1401
                      have z1426 : q_is (q_z f1413 mo 5) x1402 := Eq.trans (hF.z hmo (by rw [kmo]; rfl)) ex1402
                      have z1427 : q_is (q_z f1413 mo 9) x1403 := Eq.trans (hF.z hmo (by rw [kmo]; rfl)) ex1403
                      have z1428 : q_is (q_z f1413 mo 37) x1404 := Eq.trans (hF.z hmo (by rw [kmo]; rfl)) ex1404
                      have z1429 : q_ir (q_r f1413 mo 13) sr := Eq.trans (hF.r hmo (by rw [kmo]; rfl)) z1383
                      have z1430 : q_ir (q_r f1413 mo 18) nm := Eq.trans (hF.r hmo (by rw [kmo]; rfl)) z1384
                      have z1431 : q_ir (q_r f1413 mo 1) bu := Eq.trans (hF.r hmo (by rw [kmo]; rfl)) z1385
                      have z1432 : q_ir (q_r f1413 mo 29) cs := Eq.trans (hF.r hmo (by rw [kmo]; rfl)) z1386
                      have z1433 : q_ir (q_r f1413 mo 30) c1 := Eq.trans (hF.r hmo (by rw [kmo]; rfl)) z1387
                      have z1434 : q_ir (q_r f1413 mo 31) c2 := Eq.trans (hF.r hmo (by rw [kmo]; rfl)) z1388
                      have z1435 : q_ir (q_r f1413 mo 32) c3 := Eq.trans (hF.r hmo (by rw [kmo]; rfl)) z1389
                      have z1436 : q_ir (q_r f1413 mo 33) bg := Eq.trans (hF.r hmo (by rw [kmo]; rfl)) z1390
                      have z1437 : q_ir (q_r f1413 mo 34) lp := Eq.trans (hF.r hmo (by rw [kmo]; rfl)) z1391
                      have z1438 : q_ir (q_r f1413 mo 24) hp := Eq.trans (hF.r hmo (by rw [kmo]; rfl)) z1392
                      have z1439 : q_ir (q_r f1413 mo 25) dy := Eq.trans (hF.r hmo (by rw [kmo]; rfl)) z1393
                      have z1440 : q_ir (q_r f1413 mo 15) as := Eq.trans (hF.r hmo (by rw [kmo]; rfl)) z1394
                      have z1441 : q_ir (q_r f1413 mo 17) pa := Eq.trans (hF.r hmo (by rw [kmo]; rfl)) z1395
                      have g1442 : q_gr f1413 sr := q_gr_fr g1396 (fun i9 _ => hF.z hsr (by rw [ksr]; rfl))
                      have g1443 : q_pk f1413 mo pa := q_pk_tr g1397 (hF.z hmo (by rw [kmo]; rfl)) (fun i9 => hF.z hpa (by rw [kpa]; rfl))
                      have g1444 : q_pc f1413 mo pa xc := q_pc_tr g1398 (hF.z hmo (by rw [kmo]; rfl)) (fun i9 => hF.z hpa (by rw [kpa]; rfl))
                      have g1445 : tk_ub f1413 bu B tn := tk_ub_tr g1399 (fun i9 => hF.z hbu (by rw [kbu]; rfl))
                      have g1446 : tk_nq f1413 nm nl9 := tk_nq_tr g1400 (fun i9 => hF.j hnm (by rw [knm]; rfl))
                      have g1447 : tk_tr f1413 mo B tn := tk_tr_tr g1376 (hF.z hmo (by rw [kmo]; rfl)) (hF.z hmo (by rw [kmo]; rfl)) (hF.z hmo (by rw [kmo]; rfl)) (hF.z hmo (by rw [kmo]; rfl)) (hF.j hmo (by rw [kmo]; rfl))
                      subst qy1414
                      refine q_ifne (tgt := 91) cx ⟨by decide, by decide⟩ dX12_runScript_86 (by decide) (fun c1448 => ?_) (fun c1448 => ?_)
                      · exact absurd c1448 (by omega)
                      · refine q_iconst cx dX12_runScript_89 ?_
                        refine q_iret cx hr hlk hB dX12_runScript_90 ⟨by decide, by decide⟩ ?_
                        exact (Or.inr ⟨rfl, (q_isl z1419 (by omega)), (q_isu z1419 (by omega)), (q_isl z1420 (by omega)), (q_isu z1420 (by omega)), z1421, (Eq.trans z1422 (by omega)), z1416, (tk_erp (hal.trans ((tk_U_ok (by omega) (by omega) (tk_so_0n (tk_tr_s htr19 hj_mo_5 ex970) (by omega)) hsx9).trans (tk_erx t1375 ex1401 ex1403))) z1417 z1418), g1442, g1443, g1444⟩)
                    · exact absurd c1412 (by omega)
                  · exact absurd c1408 (by omega)
              · obtain ⟨lz1449, uz1449, t1450, g1451⟩ := h1300
                have z1452 : q_is (q_z f1296 sr 3) xt := Eq.trans (hF.z hsr (by rw [ksr]; rfl)) z1270
                have z1453 : q_is (q_z f1296 sr 4) xm := Eq.trans (hF.z hsr (by rw [ksr]; rfl)) z1271
                have z1454 : q_is (q_z f1296 sr 0) xc := Eq.trans (hF.z hsr (by rw [ksr]; rfl)) z1272
                have z1455 : q_is (q_z f1296 mo 2) w19_mo_2 := Eq.trans (hF.z hmo (by rw [kmo]; rfl)) z1273
                have z1456 : q_is (q_z f1296 mo 3) tn := Eq.trans (hF.z hmo (by rw [kmo]; rfl)) z1274
                have z1457 : q_is (q_z f1296 mo 37) w19_mo_37 := Eq.trans (hF.z hmo (by rw [kmo]; rfl)) z1264
                have z1458 : q_is (q_z f1296 mo 36) (w19_mo_36 + 1) := Eq.trans (hF.z hmo (by rw [kmo]; rfl)) z1265
                have z1459 : q_ir (q_r f1296 mo 13) sr := Eq.trans (hF.r hmo (by rw [kmo]; rfl)) z1275
                have z1460 : q_ir (q_r f1296 mo 18) nm := Eq.trans (hF.r hmo (by rw [kmo]; rfl)) z1276
                have z1461 : q_ir (q_r f1296 mo 1) bu := Eq.trans (hF.r hmo (by rw [kmo]; rfl)) z1277
                have z1462 : q_ir (q_r f1296 mo 29) cs := Eq.trans (hF.r hmo (by rw [kmo]; rfl)) z1278
                have z1463 : q_ir (q_r f1296 mo 30) c1 := Eq.trans (hF.r hmo (by rw [kmo]; rfl)) z1279
                have z1464 : q_ir (q_r f1296 mo 31) c2 := Eq.trans (hF.r hmo (by rw [kmo]; rfl)) z1280
                have z1465 : q_ir (q_r f1296 mo 32) c3 := Eq.trans (hF.r hmo (by rw [kmo]; rfl)) z1281
                have z1466 : q_ir (q_r f1296 mo 33) bg := Eq.trans (hF.r hmo (by rw [kmo]; rfl)) z1282
                have z1467 : q_ir (q_r f1296 mo 34) lp := Eq.trans (hF.r hmo (by rw [kmo]; rfl)) z1283
                have z1468 : q_ir (q_r f1296 mo 24) hp := Eq.trans (hF.r hmo (by rw [kmo]; rfl)) z1284
                have z1469 : q_ir (q_r f1296 mo 25) dy := Eq.trans (hF.r hmo (by rw [kmo]; rfl)) z1285
                have z1470 : q_ir (q_r f1296 mo 15) as := Eq.trans (hF.r hmo (by rw [kmo]; rfl)) z1286
                have z1471 : q_ir (q_r f1296 mo 17) pa := Eq.trans (hF.r hmo (by rw [kmo]; rfl)) z1287
                have g1472 : q_gr f1296 sr := q_gr_fr g1288 (fun i9 _ => hF.z hsr (by rw [ksr]; rfl))
                have g1473 : q_pk f1296 mo pa := q_pk_tr g1289 (hF.z hmo (by rw [kmo]; rfl)) (fun i9 => hF.z hpa (by rw [kpa]; rfl))
                have g1474 : q_pc f1296 mo pa xc := q_pc_tr g1290 (hF.z hmo (by rw [kmo]; rfl)) (fun i9 => hF.z hpa (by rw [kpa]; rfl))
                have g1475 : tk_ub f1296 bu B tn := tk_ub_tr g1291 (fun i9 => hF.z hbu (by rw [kbu]; rfl))
                have g1476 : tk_nq f1296 nm nl9 := tk_nq_tr g1292 (fun i9 => hF.j hnm (by rw [knm]; rfl))
                have g1477 : q_sc f1296 mo cs c1 c2 := q_sc_tr t1268 (hF.z hmo (by rw [kmo]; rfl)) (hF.z hmo (by rw [kmo]; rfl)) (hF.z hmo (by rw [kmo]; rfl)) (fun i9 => hF.z hcs (by rw [kcs]; rfl)) (fun i9 => hF.z hc1 (by rw [kc1]; rfl)) (fun i9 => hF.z hc2 (by rw [kc2]; rfl))
                obtain ⟨x1478, ex1478⟩ : ∃ zz, q_is (q_z f1296 mo 8) zz := ⟨_, q_isr _⟩
                obtain ⟨lx1478, ux1478⟩ := q_isb ex1478 ⟨lz1449, uz1449⟩
                obtain ⟨x1479, ex1479⟩ : ∃ zz, q_is (q_z f1296 mo 5) zz := ⟨_, q_isr _⟩
                obtain ⟨lx1479, ux1479⟩ := q_isb ex1479 (q_fib hB.2.1 hmo kmo (by decide) rfl)
                obtain ⟨x1480, ex1480⟩ : ∃ zz, q_is (q_z f1296 mo 9) zz := ⟨_, q_isr _⟩
                obtain ⟨lx1480, ux1480⟩ := q_isb ex1480 (q_fib hB.2.1 hmo kmo (by decide) rfl)
                obtain ⟨-, l0x1479, u0x1479, -, -⟩ := tk_tr_n g1451 ex1479
                refine q_ald_n cx dX12_runScript_56 rfl (lv_at hl 1 rfl) ?_
                refine q_cVv (As := []) (rest := []) cx hB (fun _ h => h) hN hmo kmo (by decide) rfl (r_closes1 l g hN hB.2.1 mo hmo kmo x1478 (by omega) (by omega) ex1478) q_cX12_503 q_dX12_closes (by decide) rfl rfl hl.1 rfl (Nat.le_of_ble_eq_true rfl) dX12_runScript_57 (fun H locs f1481 h1483 hF hB => ?_)
                obtain rfl := h1483
                refine lv_goto (tgt := 19) cx.1 cx.2.1 dX12_runScript_60 (by decide) ?_
                refine q_ald_n cx dX12_runScript_19 rfl (lv_at hl 1 rfl) ?_
                refine q_cVi (As := []) (rest := []) cx hB (fun _ h => h) hN hmo kmo (by decide) rfl (r_isGood1 l g hN hB.2.1 mo hmo kmo x1478 (by omega) (by omega) ex1478) q_cX12_130 q_dX12_isGood (by decide) rfl rfl hl.1 rfl (Nat.le_of_ble_eq_true rfl) dX12_runScript_20 (fun y1485 H locs f1484 ry1485 h1486 hF hB => ?_)
                obtain ⟨rfl, qy1485⟩ := h1486
                subst qy1485
                refine q_ifeq (tgt := 63) cx ⟨by decide, by decide⟩ dX12_runScript_23 (by decide) (fun c1487 => ?_) (fun c1487 => ?_)
                · refine q_ald_n cx dX12_runScript_63 rfl (lv_at hl 1 rfl) ?_
                  refine q_cVi (As := []) (rest := []) cx hB (fun _ h => h) hN hmo kmo (by decide) rfl (r_isGood1 l g hN hB.2.1 mo hmo kmo x1478 (by omega) (by omega) ex1478) q_cX12_130 q_dX12_isGood (by decide) rfl rfl hl.1 rfl (Nat.le_of_ble_eq_true rfl) dX12_runScript_64 (fun y1489 H locs f1488 ry1489 h1490 hF hB => ?_)
                  obtain ⟨rfl, qy1489⟩ := h1490
                  subst qy1489
                  refine q_ifeq (tgt := 82) cx ⟨by decide, by decide⟩ dX12_runScript_67 (by decide) (fun c1491 => ?_) (fun c1491 => ?_)
                  · refine q_ald_n cx dX12_runScript_82 rfl (lv_at hl 1 rfl) ?_
                    refine q_cVi (As := []) (rest := []) cx hB (fun _ h => h) hN hmo kmo (by decide) rfl (f_mendsText1 l g hN hB.2.1 mo hmo kmo x1478 (by omega) (by omega) x1480 (by omega) (by omega) ex1478 ex1480) q_cX12_253 q_dX12_endsText (by decide) rfl rfl hl.1 rfl (Nat.le_of_ble_eq_true rfl) dX12_runScript_83 (fun y1493 H locs f1492 ry1493 h1494 hF hB => ?_)
                    obtain ⟨qy1493, z1495, z1496, z1497⟩ := h1494
                    have z1498 : q_is (q_z f1492 sr 3) xt := Eq.trans (hF.z hsr (by rw [ksr]; rfl)) z1452
                    have z1499 : q_is (q_z f1492 sr 4) xm := Eq.trans (hF.z hsr (by rw [ksr]; rfl)) z1453
                    have z1500 : q_is (q_z f1492 sr 0) xc := Eq.trans (hF.z hsr (by rw [ksr]; rfl)) z1454
                    have z1501 : q_is (q_z f1492 mo 2) w19_mo_2 := Eq.trans (hF.z hmo (by rw [kmo]; rfl)) z1455
                    have z1502 : q_is (q_z f1492 mo 3) tn := Eq.trans (hF.z hmo (by rw [kmo]; rfl)) z1456
                    have z1503 : q_is (q_z f1492 mo 37) w19_mo_37 := Eq.trans (hF.z hmo (by rw [kmo]; rfl)) z1457
                    have z1504 : q_is (q_z f1492 mo 36) (w19_mo_36 + 1) := Eq.trans (hF.z hmo (by rw [kmo]; rfl)) z1458
                    have z1505 : q_is (q_z f1492 mo 8) x1478 := Eq.trans (hF.z hmo (by rw [kmo]; rfl)) ex1478
                    have z1506 : q_is (q_z f1492 mo 5) x1479 := Eq.trans (hF.z hmo (by rw [kmo]; rfl)) ex1479
                    have z1507 : q_is (q_z f1492 mo 9) x1480 := Eq.trans (hF.z hmo (by rw [kmo]; rfl)) ex1480
                    have z1508 : q_ir (q_r f1492 mo 13) sr := Eq.trans (hF.r hmo (by rw [kmo]; rfl)) z1459
                    have z1509 : q_ir (q_r f1492 mo 18) nm := Eq.trans (hF.r hmo (by rw [kmo]; rfl)) z1460
                    have z1510 : q_ir (q_r f1492 mo 1) bu := Eq.trans (hF.r hmo (by rw [kmo]; rfl)) z1461
                    have z1511 : q_ir (q_r f1492 mo 29) cs := Eq.trans (hF.r hmo (by rw [kmo]; rfl)) z1462
                    have z1512 : q_ir (q_r f1492 mo 30) c1 := Eq.trans (hF.r hmo (by rw [kmo]; rfl)) z1463
                    have z1513 : q_ir (q_r f1492 mo 31) c2 := Eq.trans (hF.r hmo (by rw [kmo]; rfl)) z1464
                    have z1514 : q_ir (q_r f1492 mo 32) c3 := Eq.trans (hF.r hmo (by rw [kmo]; rfl)) z1465
                    have z1515 : q_ir (q_r f1492 mo 33) bg := Eq.trans (hF.r hmo (by rw [kmo]; rfl)) z1466
                    have z1516 : q_ir (q_r f1492 mo 34) lp := Eq.trans (hF.r hmo (by rw [kmo]; rfl)) z1467
                    have z1517 : q_ir (q_r f1492 mo 24) hp := Eq.trans (hF.r hmo (by rw [kmo]; rfl)) z1468
                    have z1518 : q_ir (q_r f1492 mo 25) dy := Eq.trans (hF.r hmo (by rw [kmo]; rfl)) z1469
                    have z1519 : q_ir (q_r f1492 mo 15) as := Eq.trans (hF.r hmo (by rw [kmo]; rfl)) z1470
                    have z1520 : q_ir (q_r f1492 mo 17) pa := Eq.trans (hF.r hmo (by rw [kmo]; rfl)) z1471
                    have g1521 : q_gr f1492 sr := q_gr_fr g1472 (fun i9 _ => hF.z hsr (by rw [ksr]; rfl))
                    have g1522 : q_pk f1492 mo pa := q_pk_tr g1473 (hF.z hmo (by rw [kmo]; rfl)) (fun i9 => hF.z hpa (by rw [kpa]; rfl))
                    have g1523 : q_pc f1492 mo pa xc := q_pc_tr g1474 (hF.z hmo (by rw [kmo]; rfl)) (fun i9 => hF.z hpa (by rw [kpa]; rfl))
                    have g1524 : tk_ub f1492 bu B tn := tk_ub_tr g1475 (fun i9 => hF.z hbu (by rw [kbu]; rfl))
                    have g1525 : tk_nq f1492 nm nl9 := tk_nq_tr g1476 (fun i9 => hF.j hnm (by rw [knm]; rfl))
                    have g1526 : q_sc f1492 mo cs c1 c2 := q_sc_tr g1477 (hF.z hmo (by rw [kmo]; rfl)) (hF.z hmo (by rw [kmo]; rfl)) (hF.z hmo (by rw [kmo]; rfl)) (fun i9 => hF.z hcs (by rw [kcs]; rfl)) (fun i9 => hF.z hc1 (by rw [kc1]; rfl)) (fun i9 => hF.z hc2 (by rw [kc2]; rfl))
                    have g1527 : tk_tr f1492 mo B tn := tk_tr_tr g1451 (hF.z hmo (by rw [kmo]; rfl)) (hF.z hmo (by rw [kmo]; rfl)) (hF.z hmo (by rw [kmo]; rfl)) (hF.z hmo (by rw [kmo]; rfl)) (hF.j hmo (by rw [kmo]; rfl))
                    subst qy1493
                    refine q_ifne (tgt := 91) cx ⟨by decide, by decide⟩ dX12_runScript_86 (by decide) (fun c1528 => ?_) (fun c1528 => ?_)
                    · exact absurd c1528 (by omega)
                    · refine q_iconst cx dX12_runScript_89 ?_
                      refine q_iret cx hr hlk hB dX12_runScript_90 ⟨by decide, by decide⟩ ?_
                      exact (Or.inr ⟨rfl, (q_isl z1498 (by omega)), (q_isu z1498 (by omega)), (q_isl z1499 (by omega)), (q_isu z1499 (by omega)), z1500, (Eq.trans z1501 (by omega)), z1495, (tk_erp (hal.trans (tk_U_er (tk_so_0n (tk_tr_s htr19 hj_mo_5 ex970) (by omega)) (Eq.trans (tk_sx_cd hncl) (tk_cd_ne hcm9 (by omega) (tk_erx t1450 ex1478 ex1480))))) z1496 z1497), g1521, g1522, g1523⟩)
                  · exact absurd c1491 (by omega)
                · exact absurd c1487 (by omega)
          · obtain ⟨z1529, z1530, z1531, z1532, t1533, t1534, t1535, g1536⟩ := h1260
            have z1537 : q_is (q_z f1256 sr 3) xt := Eq.trans (hF.z hsr (by rw [ksr]; rfl)) hj_sr_3
            have z1538 : q_is (q_z f1256 sr 4) xm := Eq.trans (hF.z hsr (by rw [ksr]; rfl)) hj_sr_4
            have z1539 : q_is (q_z f1256 sr 0) xc := Eq.trans (hF.z hsr (by rw [ksr]; rfl)) hj_sr_0
            have z1540 : q_is (q_z f1256 mo 2) w19_mo_2 := Eq.trans (hF.z hmo (by rw [kmo]; rfl)) hj_mo_2
            have z1541 : q_is (q_z f1256 mo 3) tn := Eq.trans (hF.z hmo (by rw [kmo]; rfl)) hj_mo_3
            have z1542 : q_ir (q_r f1256 mo 13) sr := Eq.trans (hF.r hmo (by rw [kmo]; rfl)) hq_mo_13
            have z1543 : q_ir (q_r f1256 mo 18) nm := Eq.trans (hF.r hmo (by rw [kmo]; rfl)) hq_mo_18
            have z1544 : q_ir (q_r f1256 mo 1) bu := Eq.trans (hF.r hmo (by rw [kmo]; rfl)) hq_mo_1
            have z1545 : q_ir (q_r f1256 mo 29) cs := Eq.trans (hF.r hmo (by rw [kmo]; rfl)) hq_mo_29
            have z1546 : q_ir (q_r f1256 mo 30) c1 := Eq.trans (hF.r hmo (by rw [kmo]; rfl)) hq_mo_30
            have z1547 : q_ir (q_r f1256 mo 31) c2 := Eq.trans (hF.r hmo (by rw [kmo]; rfl)) hq_mo_31
            have z1548 : q_ir (q_r f1256 mo 32) c3 := Eq.trans (hF.r hmo (by rw [kmo]; rfl)) hq_mo_32
            have z1549 : q_ir (q_r f1256 mo 33) bg := Eq.trans (hF.r hmo (by rw [kmo]; rfl)) hq_mo_33
            have z1550 : q_ir (q_r f1256 mo 34) lp := Eq.trans (hF.r hmo (by rw [kmo]; rfl)) hq_mo_34
            have z1551 : q_ir (q_r f1256 mo 24) hp := Eq.trans (hF.r hmo (by rw [kmo]; rfl)) hq_mo_24
            have z1552 : q_ir (q_r f1256 mo 25) dy := Eq.trans (hF.r hmo (by rw [kmo]; rfl)) hq_mo_25
            have z1553 : q_ir (q_r f1256 mo 15) as := Eq.trans (hF.r hmo (by rw [kmo]; rfl)) hq_mo_15
            have z1554 : q_ir (q_r f1256 mo 17) pa := Eq.trans (hF.r hmo (by rw [kmo]; rfl)) hq_mo_17
            have g1555 : q_gr f1256 sr := q_gr_fr hgr19 (fun i9 _ => hF.z hsr (by rw [ksr]; rfl))
            have g1556 : q_pk f1256 mo pa := q_pk_tr hpk19 (hF.z hmo (by rw [kmo]; rfl)) (fun i9 => hF.z hpa (by rw [kpa]; rfl))
            have g1557 : q_pc f1256 mo pa xc := q_pc_tr hpc19 (hF.z hmo (by rw [kmo]; rfl)) (fun i9 => hF.z hpa (by rw [kpa]; rfl))
            have g1558 : tk_ub f1256 bu B tn := tk_ub_tr hub19 (fun i9 => hF.z hbu (by rw [kbu]; rfl))
            have g1559 : tk_nq f1256 nm nl9 := tk_nq_tr hrn19 (fun i9 => hF.j hnm (by rw [knm]; rfl))
            obtain ⟨x1560, ex1560⟩ : ∃ zz, q_is (q_z f1256 mo 5) zz := ⟨_, q_isr _⟩
            obtain ⟨lx1560, ux1560⟩ := q_isb ex1560 (q_fib hB.2.1 hmo kmo (by decide) rfl)
            obtain ⟨-, l0x1560, u0x1560, -, -⟩ := tk_tr_n g1536 ex1560
            have hcm9 : tk_cm B tn nl9 w19_mo_5 w19_mo_37 w19_mo_36 = tk_ok (x1560, (w19_mo_37 + 1), (w19_mo_36 + 1)) := tk_xof t1533 ex1560 z1531 z1532
            refine q_ald_n cx dX12_runScript_42 rfl (lv_at hl 1 rfl) ?_
            refine q_gX12_488 cx hB hmo kmo z1531 dX12_runScript_43 (fun lb1561 ub1561 => ?_)
            refine q_ild_n cx dX12_runScript_46 rfl (lv_at hl 0 rfl) ?_
            refine q_icne (tgt := 56) cx ⟨by omega, by omega⟩ ⟨by omega, by omega⟩ dX12_runScript_47 (by decide) (fun c1562 => ?_) (fun c1562 => ?_)
            · have hsx9 : tk_sx B tn nl9 w19_mo_5 w19_mo_37 w19_mo_36 = tk_ok (x1560, (w19_mo_37 + 1), (w19_mo_36 + 1)) := Eq.trans (tk_sx_cd hncl) (tk_cd_6 hcm9 (by omega))
              have hlt9 := tk_sx_in hsx9 (by omega) (by omega)
              have hlt8 : w19_mo_5 < x1560 := hlt9.1
              refine q_ald_n cx dX12_runScript_56 rfl (lv_at hl 1 rfl) ?_
              refine q_cVv (As := []) (rest := []) cx hB (fun _ h => h) hN hmo kmo (by decide) rfl (f_mcloses0 l g hN hB.2.1 B nl9 mo hmo kmo bu hbu kbu cs hcs kcs c1 hc1 kc1 c2 hc2 kc2 tn (by omega) (by omega) x1560 (by omega) (by omega) (w19_mo_37 + 1) (by omega) (by omega) (w19_mo_36 + 1) (by omega) (by omega) z1541 ex1560 z1529 z1530 z1531 z1532 z1544 z1545 z1546 z1547 g1536 g1558 t1535) q_cX12_503 q_dX12_closes (by decide) rfl rfl hl.1 rfl (Nat.le_of_ble_eq_true rfl) dX12_runScript_57 (fun H locs f1563 h1565 hF hB => ?_)
              rcases h1565 with h1566 | h1567
              · obtain ⟨z1568, z1569, z1570, lz1571, uz1571, t1572, t1573, t1574, t1575, g1576⟩ := h1566
                have z1577 : q_is (q_z f1563 sr 3) xt := Eq.trans (hF.z hsr (by rw [ksr]; rfl)) z1537
                have z1578 : q_is (q_z f1563 sr 4) xm := Eq.trans (hF.z hsr (by rw [ksr]; rfl)) z1538
                have z1579 : q_is (q_z f1563 sr 0) xc := Eq.trans (hF.z hsr (by rw [ksr]; rfl)) z1539
                have z1580 : q_is (q_z f1563 mo 2) w19_mo_2 := Eq.trans (hF.z hmo (by rw [kmo]; rfl)) z1540
                have z1581 : q_is (q_z f1563 mo 3) tn := Eq.trans (hF.z hmo (by rw [kmo]; rfl)) z1541
                have z1582 : q_is (q_z f1563 mo 36) (w19_mo_36 + 1) := Eq.trans (hF.z hmo (by rw [kmo]; rfl)) z1532
                have z1583 : q_ir (q_r f1563 mo 13) sr := Eq.trans (hF.r hmo (by rw [kmo]; rfl)) z1542
                have z1584 : q_ir (q_r f1563 mo 18) nm := Eq.trans (hF.r hmo (by rw [kmo]; rfl)) z1543
                have z1585 : q_ir (q_r f1563 mo 1) bu := Eq.trans (hF.r hmo (by rw [kmo]; rfl)) z1544
                have z1586 : q_ir (q_r f1563 mo 29) cs := Eq.trans (hF.r hmo (by rw [kmo]; rfl)) z1545
                have z1587 : q_ir (q_r f1563 mo 30) c1 := Eq.trans (hF.r hmo (by rw [kmo]; rfl)) z1546
                have z1588 : q_ir (q_r f1563 mo 31) c2 := Eq.trans (hF.r hmo (by rw [kmo]; rfl)) z1547
                have z1589 : q_ir (q_r f1563 mo 32) c3 := Eq.trans (hF.r hmo (by rw [kmo]; rfl)) z1548
                have z1590 : q_ir (q_r f1563 mo 33) bg := Eq.trans (hF.r hmo (by rw [kmo]; rfl)) z1549
                have z1591 : q_ir (q_r f1563 mo 34) lp := Eq.trans (hF.r hmo (by rw [kmo]; rfl)) z1550
                have z1592 : q_ir (q_r f1563 mo 24) hp := Eq.trans (hF.r hmo (by rw [kmo]; rfl)) z1551
                have z1593 : q_ir (q_r f1563 mo 25) dy := Eq.trans (hF.r hmo (by rw [kmo]; rfl)) z1552
                have z1594 : q_ir (q_r f1563 mo 15) as := Eq.trans (hF.r hmo (by rw [kmo]; rfl)) z1553
                have z1595 : q_ir (q_r f1563 mo 17) pa := Eq.trans (hF.r hmo (by rw [kmo]; rfl)) z1554
                have g1596 : q_gr f1563 sr := q_gr_fr g1555 (fun i9 _ => hF.z hsr (by rw [ksr]; rfl))
                have g1597 : q_pk f1563 mo pa := q_pk_tr g1556 (hF.z hmo (by rw [kmo]; rfl)) (fun i9 => hF.z hpa (by rw [kpa]; rfl))
                have g1598 : q_pc f1563 mo pa xc := q_pc_tr g1557 (hF.z hmo (by rw [kmo]; rfl)) (fun i9 => hF.z hpa (by rw [kpa]; rfl))
                have g1599 : tk_ub f1563 bu B tn := tk_ub_tr g1558 (fun i9 => hF.z hbu (by rw [kbu]; rfl))
                have g1600 : tk_nq f1563 nm nl9 := tk_nq_tr g1559 (fun i9 => hF.j hnm (by rw [knm]; rfl))
                obtain ⟨x1601, ex1601⟩ : ∃ zz, q_is (q_z f1563 mo 37) zz := ⟨_, q_isr _⟩
                obtain ⟨lx1601, ux1601⟩ := q_isb ex1601 ⟨lz1571, uz1571⟩
                obtain ⟨x1602, ex1602⟩ : ∃ zz, q_is (q_z f1563 mo 5) zz := ⟨_, q_isr _⟩
                obtain ⟨lx1602, ux1602⟩ := q_isb ex1602 (q_fib hB.2.1 hmo kmo (by decide) rfl)
                obtain ⟨-, l0x1602, u0x1602, -, -⟩ := tk_tr_n g1576 ex1602
                have g1603 : _ ≤ _ := t1574
                have g1604 : w19_mo_5 < x1602 := by have h7 : _ = _ := ex1602; omega
                refine lv_goto (tgt := 19) cx.1 cx.2.1 dX12_runScript_60 (by decide) ?_
                exact ih19 f1563 0 (by decide) (by decide) (-1) (by decide) (by decide) w19_mo_2 (by omega) (by omega) x1602 (by omega) (by omega) (w19_mo_36 + 1) (by omega) (by omega) x1601 (by omega) (by omega) z1577 z1578 z1579 z1568 z1569 z1580 z1581 ex1602 z1570 ex1601 z1583 z1584 z1585 z1586 z1587 z1588 z1589 z1590 z1591 z1592 z1593 z1594 z1595 g1596 g1598 g1597 g1600 t1575 g1576 g1599 (by omega) (hal.trans ((tk_U_ok (by omega) (by omega) (tk_so_0n (tk_tr_s htr19 hj_mo_5 ex970) (by omega)) hsx9).trans (tk_U_r t1572 ex1602 ex1601))) (tk_ncl_r t1573 ex1602 ex1601) (by omega) H locs hB ls (lv_sub hl [1] rfl)
              · obtain ⟨lz1605, uz1605, t1606, g1607⟩ := h1567
                have z1608 : q_is (q_z f1563 sr 3) xt := Eq.trans (hF.z hsr (by rw [ksr]; rfl)) z1537
                have z1609 : q_is (q_z f1563 sr 4) xm := Eq.trans (hF.z hsr (by rw [ksr]; rfl)) z1538
                have z1610 : q_is (q_z f1563 sr 0) xc := Eq.trans (hF.z hsr (by rw [ksr]; rfl)) z1539
                have z1611 : q_is (q_z f1563 mo 2) w19_mo_2 := Eq.trans (hF.z hmo (by rw [kmo]; rfl)) z1540
                have z1612 : q_is (q_z f1563 mo 3) tn := Eq.trans (hF.z hmo (by rw [kmo]; rfl)) z1541
                have z1613 : q_is (q_z f1563 mo 36) (w19_mo_36 + 1) := Eq.trans (hF.z hmo (by rw [kmo]; rfl)) z1532
                have z1614 : q_ir (q_r f1563 mo 13) sr := Eq.trans (hF.r hmo (by rw [kmo]; rfl)) z1542
                have z1615 : q_ir (q_r f1563 mo 18) nm := Eq.trans (hF.r hmo (by rw [kmo]; rfl)) z1543
                have z1616 : q_ir (q_r f1563 mo 1) bu := Eq.trans (hF.r hmo (by rw [kmo]; rfl)) z1544
                have z1617 : q_ir (q_r f1563 mo 29) cs := Eq.trans (hF.r hmo (by rw [kmo]; rfl)) z1545
                have z1618 : q_ir (q_r f1563 mo 30) c1 := Eq.trans (hF.r hmo (by rw [kmo]; rfl)) z1546
                have z1619 : q_ir (q_r f1563 mo 31) c2 := Eq.trans (hF.r hmo (by rw [kmo]; rfl)) z1547
                have z1620 : q_ir (q_r f1563 mo 32) c3 := Eq.trans (hF.r hmo (by rw [kmo]; rfl)) z1548
                have z1621 : q_ir (q_r f1563 mo 33) bg := Eq.trans (hF.r hmo (by rw [kmo]; rfl)) z1549
                have z1622 : q_ir (q_r f1563 mo 34) lp := Eq.trans (hF.r hmo (by rw [kmo]; rfl)) z1550
                have z1623 : q_ir (q_r f1563 mo 24) hp := Eq.trans (hF.r hmo (by rw [kmo]; rfl)) z1551
                have z1624 : q_ir (q_r f1563 mo 25) dy := Eq.trans (hF.r hmo (by rw [kmo]; rfl)) z1552
                have z1625 : q_ir (q_r f1563 mo 15) as := Eq.trans (hF.r hmo (by rw [kmo]; rfl)) z1553
                have z1626 : q_ir (q_r f1563 mo 17) pa := Eq.trans (hF.r hmo (by rw [kmo]; rfl)) z1554
                have g1627 : q_gr f1563 sr := q_gr_fr g1555 (fun i9 _ => hF.z hsr (by rw [ksr]; rfl))
                have g1628 : q_pk f1563 mo pa := q_pk_tr g1556 (hF.z hmo (by rw [kmo]; rfl)) (fun i9 => hF.z hpa (by rw [kpa]; rfl))
                have g1629 : q_pc f1563 mo pa xc := q_pc_tr g1557 (hF.z hmo (by rw [kmo]; rfl)) (fun i9 => hF.z hpa (by rw [kpa]; rfl))
                have g1630 : tk_ub f1563 bu B tn := tk_ub_tr g1558 (fun i9 => hF.z hbu (by rw [kbu]; rfl))
                have g1631 : tk_nq f1563 nm nl9 := tk_nq_tr g1559 (fun i9 => hF.j hnm (by rw [knm]; rfl))
                obtain ⟨x1632, ex1632⟩ : ∃ zz, q_is (q_z f1563 mo 8) zz := ⟨_, q_isr _⟩
                obtain ⟨lx1632, ux1632⟩ := q_isb ex1632 ⟨lz1605, uz1605⟩
                obtain ⟨x1633, ex1633⟩ : ∃ zz, q_is (q_z f1563 mo 5) zz := ⟨_, q_isr _⟩
                obtain ⟨lx1633, ux1633⟩ := q_isb ex1633 (q_fib hB.2.1 hmo kmo (by decide) rfl)
                obtain ⟨x1634, ex1634⟩ : ∃ zz, q_is (q_z f1563 mo 9) zz := ⟨_, q_isr _⟩
                obtain ⟨lx1634, ux1634⟩ := q_isb ex1634 (q_fib hB.2.1 hmo kmo (by decide) rfl)
                obtain ⟨x1635, ex1635⟩ : ∃ zz, q_is (q_z f1563 mo 37) zz := ⟨_, q_isr _⟩
                obtain ⟨lx1635, ux1635⟩ := q_isb ex1635 (q_fib hB.2.1 hmo kmo (by decide) rfl)
                obtain ⟨-, l0x1633, u0x1633, -, -⟩ := tk_tr_n g1607 ex1633
                refine lv_goto (tgt := 19) cx.1 cx.2.1 dX12_runScript_60 (by decide) ?_
                refine q_ald_n cx dX12_runScript_19 rfl (lv_at hl 1 rfl) ?_
                refine q_cVi (As := []) (rest := []) cx hB (fun _ h => h) hN hmo kmo (by decide) rfl (r_isGood1 l g hN hB.2.1 mo hmo kmo x1632 (by omega) (by omega) ex1632) q_cX12_130 q_dX12_isGood (by decide) rfl rfl hl.1 rfl (Nat.le_of_ble_eq_true rfl) dX12_runScript_20 (fun y1637 H locs f1636 ry1637 h1638 hF hB => ?_)
                obtain ⟨rfl, qy1637⟩ := h1638
                subst qy1637
                refine q_ifeq (tgt := 63) cx ⟨by decide, by decide⟩ dX12_runScript_23 (by decide) (fun c1639 => ?_) (fun c1639 => ?_)
                · refine q_ald_n cx dX12_runScript_63 rfl (lv_at hl 1 rfl) ?_
                  refine q_cVi (As := []) (rest := []) cx hB (fun _ h => h) hN hmo kmo (by decide) rfl (r_isGood1 l g hN hB.2.1 mo hmo kmo x1632 (by omega) (by omega) ex1632) q_cX12_130 q_dX12_isGood (by decide) rfl rfl hl.1 rfl (Nat.le_of_ble_eq_true rfl) dX12_runScript_64 (fun y1641 H locs f1640 ry1641 h1642 hF hB => ?_)
                  obtain ⟨rfl, qy1641⟩ := h1642
                  subst qy1641
                  refine q_ifeq (tgt := 82) cx ⟨by decide, by decide⟩ dX12_runScript_67 (by decide) (fun c1643 => ?_) (fun c1643 => ?_)
                  · refine q_ald_n cx dX12_runScript_82 rfl (lv_at hl 1 rfl) ?_
                    refine q_cVi (As := []) (rest := []) cx hB (fun _ h => h) hN hmo kmo (by decide) rfl (f_mendsText1 l g hN hB.2.1 mo hmo kmo x1632 (by omega) (by omega) x1634 (by omega) (by omega) ex1632 ex1634) q_cX12_253 q_dX12_endsText (by decide) rfl rfl hl.1 rfl (Nat.le_of_ble_eq_true rfl) dX12_runScript_83 (fun y1645 H locs f1644 ry1645 h1646 hF hB => ?_)
                    obtain ⟨qy1645, z1647, z1648, z1649⟩ := h1646
                    have z1650 : q_is (q_z f1644 sr 3) xt := Eq.trans (hF.z hsr (by rw [ksr]; rfl)) z1608
                    have z1651 : q_is (q_z f1644 sr 4) xm := Eq.trans (hF.z hsr (by rw [ksr]; rfl)) z1609
                    have z1652 : q_is (q_z f1644 sr 0) xc := Eq.trans (hF.z hsr (by rw [ksr]; rfl)) z1610
                    have z1653 : q_is (q_z f1644 mo 2) w19_mo_2 := Eq.trans (hF.z hmo (by rw [kmo]; rfl)) z1611
                    have z1654 : q_is (q_z f1644 mo 3) tn := Eq.trans (hF.z hmo (by rw [kmo]; rfl)) z1612
                    have z1655 : q_is (q_z f1644 mo 36) (w19_mo_36 + 1) := Eq.trans (hF.z hmo (by rw [kmo]; rfl)) z1613
                    have z1656 : q_is (q_z f1644 mo 8) x1632 := Eq.trans (hF.z hmo (by rw [kmo]; rfl)) ex1632
                    have z1657 : q_is (q_z f1644 mo 5) x1633 := Eq.trans (hF.z hmo (by rw [kmo]; rfl)) ex1633
                    have z1658 : q_is (q_z f1644 mo 9) x1634 := Eq.trans (hF.z hmo (by rw [kmo]; rfl)) ex1634
                    have z1659 : q_is (q_z f1644 mo 37) x1635 := Eq.trans (hF.z hmo (by rw [kmo]; rfl)) ex1635
                    have z1660 : q_ir (q_r f1644 mo 13) sr := Eq.trans (hF.r hmo (by rw [kmo]; rfl)) z1614
                    have z1661 : q_ir (q_r f1644 mo 18) nm := Eq.trans (hF.r hmo (by rw [kmo]; rfl)) z1615
                    have z1662 : q_ir (q_r f1644 mo 1) bu := Eq.trans (hF.r hmo (by rw [kmo]; rfl)) z1616
                    have z1663 : q_ir (q_r f1644 mo 29) cs := Eq.trans (hF.r hmo (by rw [kmo]; rfl)) z1617
                    have z1664 : q_ir (q_r f1644 mo 30) c1 := Eq.trans (hF.r hmo (by rw [kmo]; rfl)) z1618
                    have z1665 : q_ir (q_r f1644 mo 31) c2 := Eq.trans (hF.r hmo (by rw [kmo]; rfl)) z1619
                    have z1666 : q_ir (q_r f1644 mo 32) c3 := Eq.trans (hF.r hmo (by rw [kmo]; rfl)) z1620
                    have z1667 : q_ir (q_r f1644 mo 33) bg := Eq.trans (hF.r hmo (by rw [kmo]; rfl)) z1621
                    have z1668 : q_ir (q_r f1644 mo 34) lp := Eq.trans (hF.r hmo (by rw [kmo]; rfl)) z1622
                    have z1669 : q_ir (q_r f1644 mo 24) hp := Eq.trans (hF.r hmo (by rw [kmo]; rfl)) z1623
                    have z1670 : q_ir (q_r f1644 mo 25) dy := Eq.trans (hF.r hmo (by rw [kmo]; rfl)) z1624
                    have z1671 : q_ir (q_r f1644 mo 15) as := Eq.trans (hF.r hmo (by rw [kmo]; rfl)) z1625
                    have z1672 : q_ir (q_r f1644 mo 17) pa := Eq.trans (hF.r hmo (by rw [kmo]; rfl)) z1626
                    have g1673 : q_gr f1644 sr := q_gr_fr g1627 (fun i9 _ => hF.z hsr (by rw [ksr]; rfl))
                    have g1674 : q_pk f1644 mo pa := q_pk_tr g1628 (hF.z hmo (by rw [kmo]; rfl)) (fun i9 => hF.z hpa (by rw [kpa]; rfl))
                    have g1675 : q_pc f1644 mo pa xc := q_pc_tr g1629 (hF.z hmo (by rw [kmo]; rfl)) (fun i9 => hF.z hpa (by rw [kpa]; rfl))
                    have g1676 : tk_ub f1644 bu B tn := tk_ub_tr g1630 (fun i9 => hF.z hbu (by rw [kbu]; rfl))
                    have g1677 : tk_nq f1644 nm nl9 := tk_nq_tr g1631 (fun i9 => hF.j hnm (by rw [knm]; rfl))
                    have g1678 : tk_tr f1644 mo B tn := tk_tr_tr g1607 (hF.z hmo (by rw [kmo]; rfl)) (hF.z hmo (by rw [kmo]; rfl)) (hF.z hmo (by rw [kmo]; rfl)) (hF.z hmo (by rw [kmo]; rfl)) (hF.j hmo (by rw [kmo]; rfl))
                    subst qy1645
                    refine q_ifne (tgt := 91) cx ⟨by decide, by decide⟩ dX12_runScript_86 (by decide) (fun c1679 => ?_) (fun c1679 => ?_)
                    · exact absurd c1679 (by omega)
                    · refine q_iconst cx dX12_runScript_89 ?_
                      refine q_iret cx hr hlk hB dX12_runScript_90 ⟨by decide, by decide⟩ ?_
                      exact (Or.inr ⟨rfl, (q_isl z1650 (by omega)), (q_isu z1650 (by omega)), (q_isl z1651 (by omega)), (q_isu z1651 (by omega)), z1652, (Eq.trans z1653 (by omega)), z1647, (tk_erp (hal.trans ((tk_U_ok (by omega) (by omega) (tk_so_0n (tk_tr_s htr19 hj_mo_5 ex970) (by omega)) hsx9).trans (tk_erx t1606 ex1632 ex1634))) z1648 z1649), g1673, g1674, g1675⟩)
                  · exact absurd c1643 (by omega)
                · exact absurd c1639 (by omega)
            · exact absurd c1562 (by omega)
          · obtain ⟨lz1680, uz1680, t1681, g1682⟩ := h1261
            have z1683 : q_is (q_z f1256 sr 3) xt := Eq.trans (hF.z hsr (by rw [ksr]; rfl)) hj_sr_3
            have z1684 : q_is (q_z f1256 sr 4) xm := Eq.trans (hF.z hsr (by rw [ksr]; rfl)) hj_sr_4
            have z1685 : q_is (q_z f1256 sr 0) xc := Eq.trans (hF.z hsr (by rw [ksr]; rfl)) hj_sr_0
            have z1686 : q_is (q_z f1256 mo 2) w19_mo_2 := Eq.trans (hF.z hmo (by rw [kmo]; rfl)) hj_mo_2
            have z1687 : q_is (q_z f1256 mo 3) tn := Eq.trans (hF.z hmo (by rw [kmo]; rfl)) hj_mo_3
            have z1688 : q_ir (q_r f1256 mo 13) sr := Eq.trans (hF.r hmo (by rw [kmo]; rfl)) hq_mo_13
            have z1689 : q_ir (q_r f1256 mo 18) nm := Eq.trans (hF.r hmo (by rw [kmo]; rfl)) hq_mo_18
            have z1690 : q_ir (q_r f1256 mo 1) bu := Eq.trans (hF.r hmo (by rw [kmo]; rfl)) hq_mo_1
            have z1691 : q_ir (q_r f1256 mo 29) cs := Eq.trans (hF.r hmo (by rw [kmo]; rfl)) hq_mo_29
            have z1692 : q_ir (q_r f1256 mo 30) c1 := Eq.trans (hF.r hmo (by rw [kmo]; rfl)) hq_mo_30
            have z1693 : q_ir (q_r f1256 mo 31) c2 := Eq.trans (hF.r hmo (by rw [kmo]; rfl)) hq_mo_31
            have z1694 : q_ir (q_r f1256 mo 32) c3 := Eq.trans (hF.r hmo (by rw [kmo]; rfl)) hq_mo_32
            have z1695 : q_ir (q_r f1256 mo 33) bg := Eq.trans (hF.r hmo (by rw [kmo]; rfl)) hq_mo_33
            have z1696 : q_ir (q_r f1256 mo 34) lp := Eq.trans (hF.r hmo (by rw [kmo]; rfl)) hq_mo_34
            have z1697 : q_ir (q_r f1256 mo 24) hp := Eq.trans (hF.r hmo (by rw [kmo]; rfl)) hq_mo_24
            have z1698 : q_ir (q_r f1256 mo 25) dy := Eq.trans (hF.r hmo (by rw [kmo]; rfl)) hq_mo_25
            have z1699 : q_ir (q_r f1256 mo 15) as := Eq.trans (hF.r hmo (by rw [kmo]; rfl)) hq_mo_15
            have z1700 : q_ir (q_r f1256 mo 17) pa := Eq.trans (hF.r hmo (by rw [kmo]; rfl)) hq_mo_17
            have g1701 : q_gr f1256 sr := q_gr_fr hgr19 (fun i9 _ => hF.z hsr (by rw [ksr]; rfl))
            have g1702 : q_pk f1256 mo pa := q_pk_tr hpk19 (hF.z hmo (by rw [kmo]; rfl)) (fun i9 => hF.z hpa (by rw [kpa]; rfl))
            have g1703 : q_pc f1256 mo pa xc := q_pc_tr hpc19 (hF.z hmo (by rw [kmo]; rfl)) (fun i9 => hF.z hpa (by rw [kpa]; rfl))
            have g1704 : tk_ub f1256 bu B tn := tk_ub_tr hub19 (fun i9 => hF.z hbu (by rw [kbu]; rfl))
            have g1705 : tk_nq f1256 nm nl9 := tk_nq_tr hrn19 (fun i9 => hF.j hnm (by rw [knm]; rfl))
            obtain ⟨x1706, ex1706⟩ : ∃ zz, q_is (q_z f1256 mo 8) zz := ⟨_, q_isr _⟩
            obtain ⟨lx1706, ux1706⟩ := q_isb ex1706 ⟨lz1680, uz1680⟩
            obtain ⟨x1707, ex1707⟩ : ∃ zz, q_is (q_z f1256 mo 5) zz := ⟨_, q_isr _⟩
            obtain ⟨lx1707, ux1707⟩ := q_isb ex1707 (q_fib hB.2.1 hmo kmo (by decide) rfl)
            obtain ⟨x1708, ex1708⟩ : ∃ zz, q_is (q_z f1256 mo 9) zz := ⟨_, q_isr _⟩
            obtain ⟨lx1708, ux1708⟩ := q_isb ex1708 (q_fib hB.2.1 hmo kmo (by decide) rfl)
            obtain ⟨x1709, ex1709⟩ : ∃ zz, q_is (q_z f1256 mo 37) zz := ⟨_, q_isr _⟩
            obtain ⟨lx1709, ux1709⟩ := q_isb ex1709 (q_fib hB.2.1 hmo kmo (by decide) rfl)
            obtain ⟨x1710, ex1710⟩ : ∃ zz, q_is (q_z f1256 mo 36) zz := ⟨_, q_isr _⟩
            obtain ⟨lx1710, ux1710⟩ := q_isb ex1710 (q_fib hB.2.1 hmo kmo (by decide) rfl)
            obtain ⟨-, l0x1707, u0x1707, -, -⟩ := tk_tr_n g1682 ex1707
            refine q_ald_n cx dX12_runScript_42 rfl (lv_at hl 1 rfl) ?_
            refine q_gX12_488 cx hB hmo kmo ex1709 dX12_runScript_43 (fun lb1711 ub1711 => ?_)
            refine q_ild_n cx dX12_runScript_46 rfl (lv_at hl 0 rfl) ?_
            refine q_icne (tgt := 56) cx ⟨by omega, by omega⟩ ⟨by omega, by omega⟩ dX12_runScript_47 (by decide) (fun c1712 => ?_) (fun c1712 => ?_)
            · refine q_ald_n cx dX12_runScript_56 rfl (lv_at hl 1 rfl) ?_
              refine q_cVv (As := []) (rest := []) cx hB (fun _ h => h) hN hmo kmo (by decide) rfl (r_closes1 l g hN hB.2.1 mo hmo kmo x1706 (by omega) (by omega) ex1706) q_cX12_503 q_dX12_closes (by decide) rfl rfl hl.1 rfl (Nat.le_of_ble_eq_true rfl) dX12_runScript_57 (fun H locs f1713 h1715 hF hB => ?_)
              obtain rfl := h1715
              refine lv_goto (tgt := 19) cx.1 cx.2.1 dX12_runScript_60 (by decide) ?_
              refine q_ald_n cx dX12_runScript_19 rfl (lv_at hl 1 rfl) ?_
              refine q_cVi (As := []) (rest := []) cx hB (fun _ h => h) hN hmo kmo (by decide) rfl (r_isGood1 l g hN hB.2.1 mo hmo kmo x1706 (by omega) (by omega) ex1706) q_cX12_130 q_dX12_isGood (by decide) rfl rfl hl.1 rfl (Nat.le_of_ble_eq_true rfl) dX12_runScript_20 (fun y1717 H locs f1716 ry1717 h1718 hF hB => ?_)
              obtain ⟨rfl, qy1717⟩ := h1718
              subst qy1717
              refine q_ifeq (tgt := 63) cx ⟨by decide, by decide⟩ dX12_runScript_23 (by decide) (fun c1719 => ?_) (fun c1719 => ?_)
              · refine q_ald_n cx dX12_runScript_63 rfl (lv_at hl 1 rfl) ?_
                refine q_cVi (As := []) (rest := []) cx hB (fun _ h => h) hN hmo kmo (by decide) rfl (r_isGood1 l g hN hB.2.1 mo hmo kmo x1706 (by omega) (by omega) ex1706) q_cX12_130 q_dX12_isGood (by decide) rfl rfl hl.1 rfl (Nat.le_of_ble_eq_true rfl) dX12_runScript_64 (fun y1721 H locs f1720 ry1721 h1722 hF hB => ?_)
                obtain ⟨rfl, qy1721⟩ := h1722
                subst qy1721
                refine q_ifeq (tgt := 82) cx ⟨by decide, by decide⟩ dX12_runScript_67 (by decide) (fun c1723 => ?_) (fun c1723 => ?_)
                · refine q_ald_n cx dX12_runScript_82 rfl (lv_at hl 1 rfl) ?_
                  refine q_cVi (As := []) (rest := []) cx hB (fun _ h => h) hN hmo kmo (by decide) rfl (f_mendsText1 l g hN hB.2.1 mo hmo kmo x1706 (by omega) (by omega) x1708 (by omega) (by omega) ex1706 ex1708) q_cX12_253 q_dX12_endsText (by decide) rfl rfl hl.1 rfl (Nat.le_of_ble_eq_true rfl) dX12_runScript_83 (fun y1725 H locs f1724 ry1725 h1726 hF hB => ?_)
                  obtain ⟨qy1725, z1727, z1728, z1729⟩ := h1726
                  have z1730 : q_is (q_z f1724 sr 3) xt := Eq.trans (hF.z hsr (by rw [ksr]; rfl)) z1683
                  have z1731 : q_is (q_z f1724 sr 4) xm := Eq.trans (hF.z hsr (by rw [ksr]; rfl)) z1684
                  have z1732 : q_is (q_z f1724 sr 0) xc := Eq.trans (hF.z hsr (by rw [ksr]; rfl)) z1685
                  have z1733 : q_is (q_z f1724 mo 2) w19_mo_2 := Eq.trans (hF.z hmo (by rw [kmo]; rfl)) z1686
                  have z1734 : q_is (q_z f1724 mo 3) tn := Eq.trans (hF.z hmo (by rw [kmo]; rfl)) z1687
                  have z1735 : q_is (q_z f1724 mo 8) x1706 := Eq.trans (hF.z hmo (by rw [kmo]; rfl)) ex1706
                  have z1736 : q_is (q_z f1724 mo 5) x1707 := Eq.trans (hF.z hmo (by rw [kmo]; rfl)) ex1707
                  have z1737 : q_is (q_z f1724 mo 9) x1708 := Eq.trans (hF.z hmo (by rw [kmo]; rfl)) ex1708
                  have z1738 : q_is (q_z f1724 mo 37) x1709 := Eq.trans (hF.z hmo (by rw [kmo]; rfl)) ex1709
                  have z1739 : q_is (q_z f1724 mo 36) x1710 := Eq.trans (hF.z hmo (by rw [kmo]; rfl)) ex1710
                  have z1740 : q_ir (q_r f1724 mo 13) sr := Eq.trans (hF.r hmo (by rw [kmo]; rfl)) z1688
                  have z1741 : q_ir (q_r f1724 mo 18) nm := Eq.trans (hF.r hmo (by rw [kmo]; rfl)) z1689
                  have z1742 : q_ir (q_r f1724 mo 1) bu := Eq.trans (hF.r hmo (by rw [kmo]; rfl)) z1690
                  have z1743 : q_ir (q_r f1724 mo 29) cs := Eq.trans (hF.r hmo (by rw [kmo]; rfl)) z1691
                  have z1744 : q_ir (q_r f1724 mo 30) c1 := Eq.trans (hF.r hmo (by rw [kmo]; rfl)) z1692
                  have z1745 : q_ir (q_r f1724 mo 31) c2 := Eq.trans (hF.r hmo (by rw [kmo]; rfl)) z1693
                  have z1746 : q_ir (q_r f1724 mo 32) c3 := Eq.trans (hF.r hmo (by rw [kmo]; rfl)) z1694
                  have z1747 : q_ir (q_r f1724 mo 33) bg := Eq.trans (hF.r hmo (by rw [kmo]; rfl)) z1695
                  have z1748 : q_ir (q_r f1724 mo 34) lp := Eq.trans (hF.r hmo (by rw [kmo]; rfl)) z1696
                  have z1749 : q_ir (q_r f1724 mo 24) hp := Eq.trans (hF.r hmo (by rw [kmo]; rfl)) z1697
                  have z1750 : q_ir (q_r f1724 mo 25) dy := Eq.trans (hF.r hmo (by rw [kmo]; rfl)) z1698
                  have z1751 : q_ir (q_r f1724 mo 15) as := Eq.trans (hF.r hmo (by rw [kmo]; rfl)) z1699
                  have z1752 : q_ir (q_r f1724 mo 17) pa := Eq.trans (hF.r hmo (by rw [kmo]; rfl)) z1700
                  have g1753 : q_gr f1724 sr := q_gr_fr g1701 (fun i9 _ => hF.z hsr (by rw [ksr]; rfl))
                  have g1754 : q_pk f1724 mo pa := q_pk_tr g1702 (hF.z hmo (by rw [kmo]; rfl)) (fun i9 => hF.z hpa (by rw [kpa]; rfl))
                  have g1755 : q_pc f1724 mo pa xc := q_pc_tr g1703 (hF.z hmo (by rw [kmo]; rfl)) (fun i9 => hF.z hpa (by rw [kpa]; rfl))
                  have g1756 : tk_ub f1724 bu B tn := tk_ub_tr g1704 (fun i9 => hF.z hbu (by rw [kbu]; rfl))
                  have g1757 : tk_nq f1724 nm nl9 := tk_nq_tr g1705 (fun i9 => hF.j hnm (by rw [knm]; rfl))
                  have g1758 : tk_tr f1724 mo B tn := tk_tr_tr g1682 (hF.z hmo (by rw [kmo]; rfl)) (hF.z hmo (by rw [kmo]; rfl)) (hF.z hmo (by rw [kmo]; rfl)) (hF.z hmo (by rw [kmo]; rfl)) (hF.j hmo (by rw [kmo]; rfl))
                  subst qy1725
                  refine q_ifne (tgt := 91) cx ⟨by decide, by decide⟩ dX12_runScript_86 (by decide) (fun c1759 => ?_) (fun c1759 => ?_)
                  · exact absurd c1759 (by omega)
                  · refine q_iconst cx dX12_runScript_89 ?_
                    refine q_iret cx hr hlk hB dX12_runScript_90 ⟨by decide, by decide⟩ ?_
                    exact (Or.inr ⟨rfl, (q_isl z1730 (by omega)), (q_isu z1730 (by omega)), (q_isl z1731 (by omega)), (q_isu z1731 (by omega)), z1732, (Eq.trans z1733 (by omega)), z1727, (tk_erp (hal.trans (tk_U_er (tk_so_0n (tk_tr_s htr19 hj_mo_5 ex970) (by omega)) (Eq.trans (tk_sx_cd hncl) (tk_cd_e (tk_erx t1681 ex1706 ex1708))))) z1728 z1729), g1753, g1754, g1755⟩)
                · exact absurd c1723 (by omega)
              · exact absurd c1719 (by omega)
            · refine q_ald_n cx dX12_runScript_50 rfl (lv_at hl 1 rfl) ?_
              refine q_bipush cx dX12_runScript_51 rfl ?_
              refine q_cVv (As := [.int (q_i 59)]) (rest := []) cx hB (fun _ h => h) hN hmo kmo (by decide) rfl (r_mustSign1 l g hN hB.2.1 mo hmo kmo 59 (by decide) (by decide) x1706 (by omega) (by omega) ex1706) q_cX12_241 q_dX12_mustSign (by decide) rfl rfl hl.1 rfl (Nat.le_of_ble_eq_true rfl) dX12_runScript_53 (fun H locs f1760 h1762 hF hB => ?_)
              obtain rfl := h1762
              refine q_ald_n cx dX12_runScript_56 rfl (lv_at hl 1 rfl) ?_
              refine q_cVv (As := []) (rest := []) cx hB (fun _ h => h) hN hmo kmo (by decide) rfl (r_closes1 l g hN hB.2.1 mo hmo kmo x1706 (by omega) (by omega) ex1706) q_cX12_503 q_dX12_closes (by decide) rfl rfl hl.1 rfl (Nat.le_of_ble_eq_true rfl) dX12_runScript_57 (fun H locs f1763 h1765 hF hB => ?_)
              obtain rfl := h1765
              refine lv_goto (tgt := 19) cx.1 cx.2.1 dX12_runScript_60 (by decide) ?_
              refine q_ald_n cx dX12_runScript_19 rfl (lv_at hl 1 rfl) ?_
              refine q_cVi (As := []) (rest := []) cx hB (fun _ h => h) hN hmo kmo (by decide) rfl (r_isGood1 l g hN hB.2.1 mo hmo kmo x1706 (by omega) (by omega) ex1706) q_cX12_130 q_dX12_isGood (by decide) rfl rfl hl.1 rfl (Nat.le_of_ble_eq_true rfl) dX12_runScript_20 (fun y1767 H locs f1766 ry1767 h1768 hF hB => ?_)
              obtain ⟨rfl, qy1767⟩ := h1768
              subst qy1767
              refine q_ifeq (tgt := 63) cx ⟨by decide, by decide⟩ dX12_runScript_23 (by decide) (fun c1769 => ?_) (fun c1769 => ?_)
              · refine q_ald_n cx dX12_runScript_63 rfl (lv_at hl 1 rfl) ?_
                refine q_cVi (As := []) (rest := []) cx hB (fun _ h => h) hN hmo kmo (by decide) rfl (r_isGood1 l g hN hB.2.1 mo hmo kmo x1706 (by omega) (by omega) ex1706) q_cX12_130 q_dX12_isGood (by decide) rfl rfl hl.1 rfl (Nat.le_of_ble_eq_true rfl) dX12_runScript_64 (fun y1771 H locs f1770 ry1771 h1772 hF hB => ?_)
                obtain ⟨rfl, qy1771⟩ := h1772
                subst qy1771
                refine q_ifeq (tgt := 82) cx ⟨by decide, by decide⟩ dX12_runScript_67 (by decide) (fun c1773 => ?_) (fun c1773 => ?_)
                · refine q_ald_n cx dX12_runScript_82 rfl (lv_at hl 1 rfl) ?_
                  refine q_cVi (As := []) (rest := []) cx hB (fun _ h => h) hN hmo kmo (by decide) rfl (f_mendsText1 l g hN hB.2.1 mo hmo kmo x1706 (by omega) (by omega) x1708 (by omega) (by omega) ex1706 ex1708) q_cX12_253 q_dX12_endsText (by decide) rfl rfl hl.1 rfl (Nat.le_of_ble_eq_true rfl) dX12_runScript_83 (fun y1775 H locs f1774 ry1775 h1776 hF hB => ?_)
                  obtain ⟨qy1775, z1777, z1778, z1779⟩ := h1776
                  have z1780 : q_is (q_z f1774 sr 3) xt := Eq.trans (hF.z hsr (by rw [ksr]; rfl)) z1683
                  have z1781 : q_is (q_z f1774 sr 4) xm := Eq.trans (hF.z hsr (by rw [ksr]; rfl)) z1684
                  have z1782 : q_is (q_z f1774 sr 0) xc := Eq.trans (hF.z hsr (by rw [ksr]; rfl)) z1685
                  have z1783 : q_is (q_z f1774 mo 2) w19_mo_2 := Eq.trans (hF.z hmo (by rw [kmo]; rfl)) z1686
                  have z1784 : q_is (q_z f1774 mo 3) tn := Eq.trans (hF.z hmo (by rw [kmo]; rfl)) z1687
                  have z1785 : q_is (q_z f1774 mo 8) x1706 := Eq.trans (hF.z hmo (by rw [kmo]; rfl)) ex1706
                  have z1786 : q_is (q_z f1774 mo 5) x1707 := Eq.trans (hF.z hmo (by rw [kmo]; rfl)) ex1707
                  have z1787 : q_is (q_z f1774 mo 9) x1708 := Eq.trans (hF.z hmo (by rw [kmo]; rfl)) ex1708
                  have z1788 : q_is (q_z f1774 mo 37) x1709 := Eq.trans (hF.z hmo (by rw [kmo]; rfl)) ex1709
                  have z1789 : q_is (q_z f1774 mo 36) x1710 := Eq.trans (hF.z hmo (by rw [kmo]; rfl)) ex1710
                  have z1790 : q_ir (q_r f1774 mo 13) sr := Eq.trans (hF.r hmo (by rw [kmo]; rfl)) z1688
                  have z1791 : q_ir (q_r f1774 mo 18) nm := Eq.trans (hF.r hmo (by rw [kmo]; rfl)) z1689
                  have z1792 : q_ir (q_r f1774 mo 1) bu := Eq.trans (hF.r hmo (by rw [kmo]; rfl)) z1690
                  have z1793 : q_ir (q_r f1774 mo 29) cs := Eq.trans (hF.r hmo (by rw [kmo]; rfl)) z1691
                  have z1794 : q_ir (q_r f1774 mo 30) c1 := Eq.trans (hF.r hmo (by rw [kmo]; rfl)) z1692
                  have z1795 : q_ir (q_r f1774 mo 31) c2 := Eq.trans (hF.r hmo (by rw [kmo]; rfl)) z1693
                  have z1796 : q_ir (q_r f1774 mo 32) c3 := Eq.trans (hF.r hmo (by rw [kmo]; rfl)) z1694
                  have z1797 : q_ir (q_r f1774 mo 33) bg := Eq.trans (hF.r hmo (by rw [kmo]; rfl)) z1695
                  have z1798 : q_ir (q_r f1774 mo 34) lp := Eq.trans (hF.r hmo (by rw [kmo]; rfl)) z1696
                  have z1799 : q_ir (q_r f1774 mo 24) hp := Eq.trans (hF.r hmo (by rw [kmo]; rfl)) z1697
                  have z1800 : q_ir (q_r f1774 mo 25) dy := Eq.trans (hF.r hmo (by rw [kmo]; rfl)) z1698
                  have z1801 : q_ir (q_r f1774 mo 15) as := Eq.trans (hF.r hmo (by rw [kmo]; rfl)) z1699
                  have z1802 : q_ir (q_r f1774 mo 17) pa := Eq.trans (hF.r hmo (by rw [kmo]; rfl)) z1700
                  have g1803 : q_gr f1774 sr := q_gr_fr g1701 (fun i9 _ => hF.z hsr (by rw [ksr]; rfl))
                  have g1804 : q_pk f1774 mo pa := q_pk_tr g1702 (hF.z hmo (by rw [kmo]; rfl)) (fun i9 => hF.z hpa (by rw [kpa]; rfl))
                  have g1805 : q_pc f1774 mo pa xc := q_pc_tr g1703 (hF.z hmo (by rw [kmo]; rfl)) (fun i9 => hF.z hpa (by rw [kpa]; rfl))
                  have g1806 : tk_ub f1774 bu B tn := tk_ub_tr g1704 (fun i9 => hF.z hbu (by rw [kbu]; rfl))
                  have g1807 : tk_nq f1774 nm nl9 := tk_nq_tr g1705 (fun i9 => hF.j hnm (by rw [knm]; rfl))
                  have g1808 : tk_tr f1774 mo B tn := tk_tr_tr g1682 (hF.z hmo (by rw [kmo]; rfl)) (hF.z hmo (by rw [kmo]; rfl)) (hF.z hmo (by rw [kmo]; rfl)) (hF.z hmo (by rw [kmo]; rfl)) (hF.j hmo (by rw [kmo]; rfl))
                  subst qy1775
                  refine q_ifne (tgt := 91) cx ⟨by decide, by decide⟩ dX12_runScript_86 (by decide) (fun c1809 => ?_) (fun c1809 => ?_)
                  · exact absurd c1809 (by omega)
                  · refine q_iconst cx dX12_runScript_89 ?_
                    refine q_iret cx hr hlk hB dX12_runScript_90 ⟨by decide, by decide⟩ ?_
                    exact (Or.inr ⟨rfl, (q_isl z1780 (by omega)), (q_isu z1780 (by omega)), (q_isl z1781 (by omega)), (q_isu z1781 (by omega)), z1782, (Eq.trans z1783 (by omega)), z1777, (tk_erp (hal.trans (tk_U_er (tk_so_0n (tk_tr_s htr19 hj_mo_5 ex970) (by omega)) (Eq.trans (tk_sx_cd hncl) (tk_cd_e (tk_erx t1681 ex1706 ex1708))))) z1778 z1779), g1803, g1804, g1805⟩)
                · exact absurd c1773 (by omega)
              · exact absurd c1769 (by omega)
  obtain ⟨H, hH⟩ : ∃ H : Heap, H = s.heap := ⟨_, rfl⟩
  obtain ⟨locs, hlocs⟩ : ∃ z : List Loc, z = [] := ⟨_, rfl⟩
  rw [← hH, ← hlocs] at hB
  rw [← hH, ← hlocs]
  refine q_ald_n cx dX12_runScript_0 rfl (lv_at hl 0 rfl) ?_
  refine q_cVv (As := []) (rest := []) cx hB (fun _ h => h) hN hmo kmo (by decide) rfl (f_mbeginsText l g hN hB.2.1 B mo hmo kmo bu hbu kbu tn (by omega) (by omega) hf3 hr2 hub) q_cX12_244 q_dX12_beginsText (by decide) rfl rfl hl.1 rfl (Nat.le_of_ble_eq_true rfl) dX12_runScript_1 (fun H locs f1810 h1812 hF hB => ?_)
  obtain ⟨z1813, z1814, z1815, z1816, t1817, g1818⟩ := h1812
  have z1819 : q_is (q_z f1810 sr 3) xt := Eq.trans (hF.z hsr (by rw [ksr]; rfl)) hf0
  have z1820 : q_is (q_z f1810 sr 4) xm := Eq.trans (hF.z hsr (by rw [ksr]; rfl)) hf1
  have z1821 : q_is (q_z f1810 sr 0) xc := Eq.trans (hF.z hsr (by rw [ksr]; rfl)) hf2
  have z1822 : q_ir (q_r f1810 mo 13) sr := Eq.trans (hF.r hmo (by rw [kmo]; rfl)) hr0
  have z1823 : q_ir (q_r f1810 mo 18) nm := Eq.trans (hF.r hmo (by rw [kmo]; rfl)) hr1
  have z1824 : q_ir (q_r f1810 mo 1) bu := Eq.trans (hF.r hmo (by rw [kmo]; rfl)) hr2
  have z1825 : q_ir (q_r f1810 mo 29) cs := Eq.trans (hF.r hmo (by rw [kmo]; rfl)) hr3
  have z1826 : q_ir (q_r f1810 mo 30) c1 := Eq.trans (hF.r hmo (by rw [kmo]; rfl)) hr4
  have z1827 : q_ir (q_r f1810 mo 31) c2 := Eq.trans (hF.r hmo (by rw [kmo]; rfl)) hr5
  have z1828 : q_ir (q_r f1810 mo 32) c3 := Eq.trans (hF.r hmo (by rw [kmo]; rfl)) hr6
  have z1829 : q_ir (q_r f1810 mo 33) bg := Eq.trans (hF.r hmo (by rw [kmo]; rfl)) hr7
  have z1830 : q_ir (q_r f1810 mo 34) lp := Eq.trans (hF.r hmo (by rw [kmo]; rfl)) hr8
  have z1831 : q_ir (q_r f1810 mo 24) hp := Eq.trans (hF.r hmo (by rw [kmo]; rfl)) hr9
  have z1832 : q_ir (q_r f1810 mo 25) dy := Eq.trans (hF.r hmo (by rw [kmo]; rfl)) hr10
  have z1833 : q_ir (q_r f1810 mo 15) as := Eq.trans (hF.r hmo (by rw [kmo]; rfl)) hr11
  have z1834 : q_ir (q_r f1810 mo 17) pa := Eq.trans (hF.r hmo (by rw [kmo]; rfl)) hr12
  have g1835 : q_gr f1810 sr := q_gr_fr hgr (fun i9 _ => hF.z hsr (by rw [ksr]; rfl))
  have g1836 : q_pk f1810 mo pa := q_pk_tr hpk (hF.z hmo (by rw [kmo]; rfl)) (fun i9 => hF.z hpa (by rw [kpa]; rfl))
  have g1837 : q_pc f1810 mo pa xc := q_pc_tr hpc (hF.z hmo (by rw [kmo]; rfl)) (fun i9 => hF.z hpa (by rw [kpa]; rfl))
  have g1838 : tk_ub f1810 bu B tn := tk_ub_tr hub (fun i9 => hF.z hbu (by rw [kbu]; rfl))
  have g1839 : tk_nq f1810 nm nl9 := tk_nq_tr hrn (fun i9 => hF.j hnm (by rw [knm]; rfl))
  obtain ⟨x1840, ex1840⟩ : ∃ zz, q_is (q_z f1810 mo 5) zz := ⟨_, q_isr _⟩
  obtain ⟨lx1840, ux1840⟩ := q_isb ex1840 (q_fib hB.2.1 hmo kmo (by decide) rfl)
  obtain ⟨-, l0x1840, u0x1840, -, -⟩ := tk_tr_n g1818 ex1840
  refine q_ald_n cx dX12_runScript_4 rfl (lv_at hl 0 rfl) ?_
  refine q_iconst cx dX12_runScript_5 ?_
  refine q_pX12_494 cx hB hmo kmo ⟨by decide, by decide⟩ (by decide) (by decide) rfl dX12_runScript_6 (fun H locs f1841 ef1841 z1842 hB => ?_)
  have z1843 : q_is (q_z f1841 sr 3) xt := by rw [ef1841, q_setz (Or.inr (by decide))]; exact z1819
  have z1844 : q_is (q_z f1841 sr 4) xm := by rw [ef1841, q_setz (Or.inr (by decide))]; exact z1820
  have z1845 : q_is (q_z f1841 sr 0) xc := by rw [ef1841, q_setz (Or.inr (by decide))]; exact z1821
  have z1846 : q_is (q_z f1841 mo 8) 0 := by rw [ef1841, q_setz (Or.inr (by decide))]; exact z1813
  have z1847 : q_is (q_z f1841 mo 9) (-1) := by rw [ef1841, q_setz (Or.inr (by decide))]; exact z1814
  have z1848 : q_is (q_z f1841 mo 2) 0 := by rw [ef1841, q_setz (Or.inr (by decide))]; exact z1815
  have z1849 : q_is (q_z f1841 mo 3) tn := by rw [ef1841, q_setz (Or.inr (by decide))]; exact z1816
  have z1850 : q_is (q_z f1841 mo 5) x1840 := by rw [ef1841, q_setz (Or.inr (by decide))]; exact ex1840
  have z1851 : q_ir (q_r f1841 mo 13) sr := by rw [ef1841, q_setr (Or.inr (by decide))]; exact z1822
  have z1852 : q_ir (q_r f1841 mo 18) nm := by rw [ef1841, q_setr (Or.inr (by decide))]; exact z1823
  have z1853 : q_ir (q_r f1841 mo 1) bu := by rw [ef1841, q_setr (Or.inr (by decide))]; exact z1824
  have z1854 : q_ir (q_r f1841 mo 29) cs := by rw [ef1841, q_setr (Or.inr (by decide))]; exact z1825
  have z1855 : q_ir (q_r f1841 mo 30) c1 := by rw [ef1841, q_setr (Or.inr (by decide))]; exact z1826
  have z1856 : q_ir (q_r f1841 mo 31) c2 := by rw [ef1841, q_setr (Or.inr (by decide))]; exact z1827
  have z1857 : q_ir (q_r f1841 mo 32) c3 := by rw [ef1841, q_setr (Or.inr (by decide))]; exact z1828
  have z1858 : q_ir (q_r f1841 mo 33) bg := by rw [ef1841, q_setr (Or.inr (by decide))]; exact z1829
  have z1859 : q_ir (q_r f1841 mo 34) lp := by rw [ef1841, q_setr (Or.inr (by decide))]; exact z1830
  have z1860 : q_ir (q_r f1841 mo 24) hp := by rw [ef1841, q_setr (Or.inr (by decide))]; exact z1831
  have z1861 : q_ir (q_r f1841 mo 25) dy := by rw [ef1841, q_setr (Or.inr (by decide))]; exact z1832
  have z1862 : q_ir (q_r f1841 mo 15) as := by rw [ef1841, q_setr (Or.inr (by decide))]; exact z1833
  have z1863 : q_ir (q_r f1841 mo 17) pa := by rw [ef1841, q_setr (Or.inr (by decide))]; exact z1834
  have g1864 : q_gr f1841 sr := q_gr_ne g1835 ef1841 (fun q => q_kne (k := 151) (k2 := 12) (by decide) ksr kmo q)
  have g1865 : q_pk f1841 mo pa := q_pk_tr g1836 (by rw [ef1841, q_setz (Or.inr (by decide))]) (fun i9 => by rw [ef1841, q_setz (Or.inl (fun q => by rw [q, kmo] at kpa; exact absurd kpa (by decide)))])
  have g1866 : q_pc f1841 mo pa xc := q_pc_tr g1837 (by rw [ef1841, q_setz (Or.inr (by decide))]) (fun i9 => by rw [ef1841, q_setz (Or.inl (fun q => by rw [q, kmo] at kpa; exact absurd kpa (by decide)))])
  have g1867 : tk_ub f1841 bu B tn := tk_ub_tr g1838 (fun i9 => by rw [ef1841, q_setz (Or.inl (fun q => by rw [q, kmo] at kbu; exact absurd kbu (by decide)))])
  have g1868 : tk_nq f1841 nm nl9 := tk_nq_tr g1839 (fun i9 => by rw [ef1841, q_setj (Or.inl (fun q => by rw [q, kmo] at knm; exact absurd knm (by decide)))])
  have g1869 : tk_tr f1841 mo B tn := tk_tr_tr g1818 (by rw [ef1841, q_setz (Or.inr (by decide))]) (by rw [ef1841, q_setz (Or.inr (by decide))]) (by rw [ef1841, q_setz (Or.inr (by decide))]) (by rw [ef1841, q_setz (Or.inr (by decide))]) (by rw [ef1841, q_setj (Or.inr (by decide))])
  refine q_ald_n cx dX12_runScript_9 rfl (lv_at hl 0 rfl) ?_
  refine q_iconst cx dX12_runScript_10 ?_
  refine q_pX12_491 cx hB hmo kmo ⟨by decide, by decide⟩ (by decide) (by decide) rfl dX12_runScript_11 (fun H locs f1870 ef1870 z1871 hB => ?_)
  have z1872 : q_is (q_z f1870 sr 3) xt := by rw [ef1870, q_setz (Or.inr (by decide))]; exact z1843
  have z1873 : q_is (q_z f1870 sr 4) xm := by rw [ef1870, q_setz (Or.inr (by decide))]; exact z1844
  have z1874 : q_is (q_z f1870 sr 0) xc := by rw [ef1870, q_setz (Or.inr (by decide))]; exact z1845
  have z1875 : q_is (q_z f1870 mo 8) 0 := by rw [ef1870, q_setz (Or.inr (by decide))]; exact z1846
  have z1876 : q_is (q_z f1870 mo 9) (-1) := by rw [ef1870, q_setz (Or.inr (by decide))]; exact z1847
  have z1877 : q_is (q_z f1870 mo 2) 0 := by rw [ef1870, q_setz (Or.inr (by decide))]; exact z1848
  have z1878 : q_is (q_z f1870 mo 3) tn := by rw [ef1870, q_setz (Or.inr (by decide))]; exact z1849
  have z1879 : q_is (q_z f1870 mo 5) x1840 := by rw [ef1870, q_setz (Or.inr (by decide))]; exact z1850
  have z1880 : q_is (q_z f1870 mo 35) 0 := by rw [ef1870, q_setz (Or.inr (by decide))]; exact z1842
  have z1881 : q_ir (q_r f1870 mo 13) sr := by rw [ef1870, q_setr (Or.inr (by decide))]; exact z1851
  have z1882 : q_ir (q_r f1870 mo 18) nm := by rw [ef1870, q_setr (Or.inr (by decide))]; exact z1852
  have z1883 : q_ir (q_r f1870 mo 1) bu := by rw [ef1870, q_setr (Or.inr (by decide))]; exact z1853
  have z1884 : q_ir (q_r f1870 mo 29) cs := by rw [ef1870, q_setr (Or.inr (by decide))]; exact z1854
  have z1885 : q_ir (q_r f1870 mo 30) c1 := by rw [ef1870, q_setr (Or.inr (by decide))]; exact z1855
  have z1886 : q_ir (q_r f1870 mo 31) c2 := by rw [ef1870, q_setr (Or.inr (by decide))]; exact z1856
  have z1887 : q_ir (q_r f1870 mo 32) c3 := by rw [ef1870, q_setr (Or.inr (by decide))]; exact z1857
  have z1888 : q_ir (q_r f1870 mo 33) bg := by rw [ef1870, q_setr (Or.inr (by decide))]; exact z1858
  have z1889 : q_ir (q_r f1870 mo 34) lp := by rw [ef1870, q_setr (Or.inr (by decide))]; exact z1859
  have z1890 : q_ir (q_r f1870 mo 24) hp := by rw [ef1870, q_setr (Or.inr (by decide))]; exact z1860
  have z1891 : q_ir (q_r f1870 mo 25) dy := by rw [ef1870, q_setr (Or.inr (by decide))]; exact z1861
  have z1892 : q_ir (q_r f1870 mo 15) as := by rw [ef1870, q_setr (Or.inr (by decide))]; exact z1862
  have z1893 : q_ir (q_r f1870 mo 17) pa := by rw [ef1870, q_setr (Or.inr (by decide))]; exact z1863
  have g1894 : q_gr f1870 sr := q_gr_ne g1864 ef1870 (fun q => q_kne (k := 151) (k2 := 12) (by decide) ksr kmo q)
  have g1895 : q_pk f1870 mo pa := q_pk_tr g1865 (by rw [ef1870, q_setz (Or.inr (by decide))]) (fun i9 => by rw [ef1870, q_setz (Or.inl (fun q => by rw [q, kmo] at kpa; exact absurd kpa (by decide)))])
  have g1896 : q_pc f1870 mo pa xc := q_pc_tr g1866 (by rw [ef1870, q_setz (Or.inr (by decide))]) (fun i9 => by rw [ef1870, q_setz (Or.inl (fun q => by rw [q, kmo] at kpa; exact absurd kpa (by decide)))])
  have g1897 : tk_ub f1870 bu B tn := tk_ub_tr g1867 (fun i9 => by rw [ef1870, q_setz (Or.inl (fun q => by rw [q, kmo] at kbu; exact absurd kbu (by decide)))])
  have g1898 : tk_nq f1870 nm nl9 := tk_nq_tr g1868 (fun i9 => by rw [ef1870, q_setj (Or.inl (fun q => by rw [q, kmo] at knm; exact absurd knm (by decide)))])
  have g1899 : tk_tr f1870 mo B tn := tk_tr_tr g1869 (by rw [ef1870, q_setz (Or.inr (by decide))]) (by rw [ef1870, q_setz (Or.inr (by decide))]) (by rw [ef1870, q_setz (Or.inr (by decide))]) (by rw [ef1870, q_setz (Or.inr (by decide))]) (by rw [ef1870, q_setj (Or.inr (by decide))])
  refine q_ald_n cx dX12_runScript_14 rfl (lv_at hl 0 rfl) ?_
  refine q_iconst cx dX12_runScript_15 ?_
  refine q_pX12_488 cx hB hmo kmo ⟨by decide, by decide⟩ (by decide) (by decide) rfl dX12_runScript_16 (fun H locs f1900 ef1900 z1901 hB => ?_)
  have z1902 : q_is (q_z f1900 sr 3) xt := by rw [ef1900, q_setz (Or.inr (by decide))]; exact z1872
  have z1903 : q_is (q_z f1900 sr 4) xm := by rw [ef1900, q_setz (Or.inr (by decide))]; exact z1873
  have z1904 : q_is (q_z f1900 sr 0) xc := by rw [ef1900, q_setz (Or.inr (by decide))]; exact z1874
  have z1905 : q_is (q_z f1900 mo 8) 0 := by rw [ef1900, q_setz (Or.inr (by decide))]; exact z1875
  have z1906 : q_is (q_z f1900 mo 9) (-1) := by rw [ef1900, q_setz (Or.inr (by decide))]; exact z1876
  have z1907 : q_is (q_z f1900 mo 2) 0 := by rw [ef1900, q_setz (Or.inr (by decide))]; exact z1877
  have z1908 : q_is (q_z f1900 mo 3) tn := by rw [ef1900, q_setz (Or.inr (by decide))]; exact z1878
  have z1909 : q_is (q_z f1900 mo 5) x1840 := by rw [ef1900, q_setz (Or.inr (by decide))]; exact z1879
  have z1910 : q_is (q_z f1900 mo 35) 0 := by rw [ef1900, q_setz (Or.inr (by decide))]; exact z1880
  have z1911 : q_is (q_z f1900 mo 36) 0 := by rw [ef1900, q_setz (Or.inr (by decide))]; exact z1871
  have z1912 : q_ir (q_r f1900 mo 13) sr := by rw [ef1900, q_setr (Or.inr (by decide))]; exact z1881
  have z1913 : q_ir (q_r f1900 mo 18) nm := by rw [ef1900, q_setr (Or.inr (by decide))]; exact z1882
  have z1914 : q_ir (q_r f1900 mo 1) bu := by rw [ef1900, q_setr (Or.inr (by decide))]; exact z1883
  have z1915 : q_ir (q_r f1900 mo 29) cs := by rw [ef1900, q_setr (Or.inr (by decide))]; exact z1884
  have z1916 : q_ir (q_r f1900 mo 30) c1 := by rw [ef1900, q_setr (Or.inr (by decide))]; exact z1885
  have z1917 : q_ir (q_r f1900 mo 31) c2 := by rw [ef1900, q_setr (Or.inr (by decide))]; exact z1886
  have z1918 : q_ir (q_r f1900 mo 32) c3 := by rw [ef1900, q_setr (Or.inr (by decide))]; exact z1887
  have z1919 : q_ir (q_r f1900 mo 33) bg := by rw [ef1900, q_setr (Or.inr (by decide))]; exact z1888
  have z1920 : q_ir (q_r f1900 mo 34) lp := by rw [ef1900, q_setr (Or.inr (by decide))]; exact z1889
  have z1921 : q_ir (q_r f1900 mo 24) hp := by rw [ef1900, q_setr (Or.inr (by decide))]; exact z1890
  have z1922 : q_ir (q_r f1900 mo 25) dy := by rw [ef1900, q_setr (Or.inr (by decide))]; exact z1891
  have z1923 : q_ir (q_r f1900 mo 15) as := by rw [ef1900, q_setr (Or.inr (by decide))]; exact z1892
  have z1924 : q_ir (q_r f1900 mo 17) pa := by rw [ef1900, q_setr (Or.inr (by decide))]; exact z1893
  have g1925 : q_gr f1900 sr := q_gr_ne g1894 ef1900 (fun q => q_kne (k := 151) (k2 := 12) (by decide) ksr kmo q)
  have g1926 : q_pk f1900 mo pa := q_pk_tr g1895 (by rw [ef1900, q_setz (Or.inr (by decide))]) (fun i9 => by rw [ef1900, q_setz (Or.inl (fun q => by rw [q, kmo] at kpa; exact absurd kpa (by decide)))])
  have g1927 : q_pc f1900 mo pa xc := q_pc_tr g1896 (by rw [ef1900, q_setz (Or.inr (by decide))]) (fun i9 => by rw [ef1900, q_setz (Or.inl (fun q => by rw [q, kmo] at kpa; exact absurd kpa (by decide)))])
  have g1928 : tk_ub f1900 bu B tn := tk_ub_tr g1897 (fun i9 => by rw [ef1900, q_setz (Or.inl (fun q => by rw [q, kmo] at kbu; exact absurd kbu (by decide)))])
  have g1929 : tk_nq f1900 nm nl9 := tk_nq_tr g1898 (fun i9 => by rw [ef1900, q_setj (Or.inl (fun q => by rw [q, kmo] at knm; exact absurd knm (by decide)))])
  have g1930 : tk_tr f1900 mo B tn := tk_tr_tr g1899 (by rw [ef1900, q_setz (Or.inr (by decide))]) (by rw [ef1900, q_setz (Or.inr (by decide))]) (by rw [ef1900, q_setz (Or.inr (by decide))]) (by rw [ef1900, q_setz (Or.inr (by decide))]) (by rw [ef1900, q_setj (Or.inr (by decide))])
  have hsc0 : q_sc f1900 mo cs c1 c2 := k_sc0 z1910 z1911 z1901
  exact J19 ((Int.toNat (601 - x1840)) + 1) f1900 0 (by decide) (by decide) (-1) (by decide) (by decide) 0 (by decide) (by decide) x1840 (by omega) (by omega) 0 (by decide) (by decide) 0 (by decide) (by decide) z1902 z1903 z1904 z1905 z1906 z1907 z1908 z1909 z1911 z1901 z1912 z1913 z1914 z1915 z1916 z1917 z1918 z1919 z1920 z1921 z1922 z1923 z1924 g1925 g1927 g1926 g1929 hsc0 g1930 g1928 (by omega) (congrArg (fun q9 => tk_U B tn nl9 q9 0 0) (Eq.symm (Eq.trans (Eq.symm ex1840) t1817))) (fun h9 => absurd h9.1 (by omega)) (Nat.lt_succ_self _) H locs hB ls (lv_sub hl [0] rfl)
