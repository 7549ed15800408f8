set_option maxHeartbeats 4000000 in
set_option maxRecDepth 100000 in
theorem f_mstatement (l : Launch) (g : q_G) {K : Nat → Nat} {L : List Nat} (hN : L.Nodup) {f : Nat → va_E} (hT : q_Ty g K L f) (B : Nat → Int) (tA : tk_A) (mo : Nat) (hmo : mo ∈ L) (kmo : K mo = 12) (sr : Nat) (hsr : sr ∈ L) (ksr : K sr = 151) (nm : Nat) (hnm : nm ∈ L) (knm : K nm = 156) (bu : Nat) (hbu : bu ∈ L) (kbu : K bu = 150) (tn : Int) (ltn : 0 ≤ tn) (utn : tn ≤ 600) (ss : Int) (lss : 0 ≤ ss) (uss : ss ≤ 600) (hf0 : q_is (q_z f mo 3) tn) (hf1 : q_is (q_z f mo 5) ss) (hf2 : q_is (q_z f mo 8) 0) (hf3 : q_is (q_z f mo 9) (-1)) (hr0 : q_ir (q_r f mo 13) sr) (hr1 : q_ir (q_r f mo 18) nm) (hr2 : q_ir (q_r f mo 1) bu) (hgr : q_gr f sr) (htr : tk_tr f mo B tn) (hub : tk_ub f bu B tn) (htm : tk_tm f mo sr nm tA) : q_Ct l g K L yX12_statement cX12_statement 1 none 5 116 [.ref mo] f [(12, 4, 9), (12, 12, 12), (12, 23, 23), (151, 0, 2), (151, 5, 8), (151, 10, 166), (156, 0, 9)] (q_Pv (fun (f1 : Nat → va_E) => (q_is (q_z f1 mo 8) 0 ∧ q_is (q_z f1 mo 9) (-1) ∧ (∃ A1 : tk_A, tk_stm B tn ss tA = tk_ok (q_z f1 mo 5, A1) ∧ tk_tm f1 mo sr nm A1) ∧ q_gr f1 sr ∧ (tk_tr f1 mo B tn)) ∨ (1 ≤ q_z f1 mo 8 ∧ q_z f1 mo 8 ≤ 5 ∧ (tk_stm B tn ss tA = tk_er (q_z f1 mo 8) (q_z f1 mo 9)) ∧ (tk_tr f1 mo B tn)))) := by
  refine q_ofb (by decide +kernel) hN hT (Nat.le_of_ble_eq_true rfl) ?_
  intro p e s m below meth c ls cx hr hlk hB hl
  have hl : lv_has ls 1 [(0, .ref mo)] := hl
  obtain ⟨H, hH⟩ : ∃ H : Heap, H = s.heap := ⟨_, rfl⟩
  obtain ⟨locs, hlocs⟩ : ∃ z : List Loc, z = [] := ⟨_, rfl⟩
  rw [← hH, ← hlocs] at hB
  rw [← hH, ← hlocs]
  refine q_ald_n cx dX12_statement_0 rfl (lv_at hl 0 rfl) ?_
  refine lv_ldc2 (v := q_l 824370) cx.1 cx.2.1 cx.2.2.2.1 (cx.2.2.2.2 _ q_h1757) dX12_statement_1 ?_
  refine q_cVi (As := [.long (q_l 824370)]) (rest := []) cx hB (fun _ h => h) hN hmo kmo (by decide) rfl (f_misWord l g hN hB.2.1 B tk_wYear mo hmo kmo (q_l 824370) bu hbu kbu tn (by omega) (by omega) ss (by omega) (by omega) hf0 hf1 hf2 hf3 hr2 (by decide +kernel : (q_l 824370) = tk_mw tk_wYear) tk_iYear htr hub) q_cX12_143 q_dX12_isWord (by decide) rfl rfl hl.1 rfl (Nat.le_of_ble_eq_true rfl) dX12_statement_4 (fun y833 H locs f832 ry833 h834 hF hB => ?_)
  rcases h834 with h835 | h836
  · obtain ⟨rfl, qy833, z837, t838⟩ := h835
    subst qy833
    refine q_ifeq (tgt := 31) cx ⟨by decide, by decide⟩ dX12_statement_7 (by decide) (fun c839 => ?_) (fun c839 => ?_)
    · exact absurd c839 (by omega)
    · refine q_ald_n cx dX12_statement_10 rfl (lv_at hl 0 rfl) ?_
      refine q_iconst cx dX12_statement_11 ?_
      refine q_cVv (As := [.int (q_i 0)]) (rest := []) cx hB (fun _ h => h) hN hmo kmo (by decide) rfl (f_monce0 l g hN hB.2.1 B tA mo hmo kmo 0 (by decide) (by decide) sr hsr ksr nm hnm knm bu hbu kbu tn (by omega) (by omega) ss (by omega) (by omega) 1 (by decide) (by decide) hf0 hf1 hf2 hf3 z837 hr0 hr1 hr2 htr hub htm) q_cX12_224 q_dX12_once (by decide) rfl rfl hl.1 rfl (Nat.le_of_ble_eq_true rfl) dX12_statement_12 (fun H locs f840 h842 hF hB => ?_)
      rcases h842 with h843 | h844
      · obtain ⟨z845, z846, t847, t848, t849, g850⟩ := h843
        have z851 : q_is (q_z f840 mo 3) tn := Eq.trans (hF.z hmo (by rw [kmo]; rfl)) hf0
        have z852 : q_ir (q_r f840 mo 13) sr := Eq.trans (hF.r hmo (by rw [kmo]; rfl)) hr0
        have z853 : q_ir (q_r f840 mo 18) nm := Eq.trans (hF.r hmo (by rw [kmo]; rfl)) hr1
        have z854 : q_ir (q_r f840 mo 1) bu := Eq.trans (hF.r hmo (by rw [kmo]; rfl)) hr2
        have g855 : q_gr f840 sr := q_gr_fr hgr (fun i9 _ => hF.z hsr (by rw [ksr]; rfl))
        have g856 : tk_ub f840 bu B tn := tk_ub_tr hub (fun i9 => hF.z hbu (by rw [kbu]; rfl))
        obtain ⟨x857, ex857⟩ : ∃ zz, q_is (q_z f840 mo 5) zz := ⟨_, q_isr _⟩
        obtain ⟨lx857, ux857⟩ := q_isb ex857 (q_fib hB.2.1 hmo kmo (by decide) rfl)
        obtain ⟨-, l0x857, u0x857, -, -⟩ := tk_tr_n g850 ex857
        refine q_ald_n cx dX12_statement_15 rfl (lv_at hl 0 rfl) ?_
        refine q_gX12_20 cx hB hmo kmo z852 dX12_statement_16 (fun hb858 kb858 => ?_)
        refine q_iconst cx dX12_statement_19 ?_
        refine q_ald_n cx dX12_statement_20 rfl (lv_at hl 0 rfl) ?_
        refine q_iconst cx dX12_statement_21 ?_
        refine q_bipush cx dX12_statement_22 rfl ?_
        refine q_cVi (As := [.int (q_i 4), .int (q_i 60)]) (rest := [.int (q_i 2), .ref sr]) cx hB (fun _ h => h) hN hmo kmo (by decide) rfl (f_mnumber l g hN hB.2.1 B mo hmo kmo 4 (by decide) (by decide) 60 (by decide) (by decide) bu hbu kbu tn (by omega) (by omega) x857 (by omega) (by omega) z851 ex857 z845 z846 z854 g850 g856) q_cX12_193 q_dX12_number (by decide) rfl rfl hl.1 rfl (Nat.le_of_ble_eq_true rfl) dX12_statement_24 (fun y860 H locs f859 ry860 h861 hF hB => ?_)
        rcases h861 with h862 | h863
        · obtain ⟨z864, z865, t866, t867, t868, g869⟩ := h862
          have z870 : q_is (q_z f859 mo 3) tn := Eq.trans (hF.z hmo (by rw [kmo]; rfl)) z851
          have z871 : q_ir (q_r f859 mo 13) sr := Eq.trans (hF.r hmo (by rw [kmo]; rfl)) z852
          have z872 : q_ir (q_r f859 mo 18) nm := Eq.trans (hF.r hmo (by rw [kmo]; rfl)) z853
          have z873 : q_ir (q_r f859 mo 1) bu := Eq.trans (hF.r hmo (by rw [kmo]; rfl)) z854
          have g874 : q_gr f859 sr := q_gr_fr g855 (fun i9 _ => hF.z hsr (by rw [ksr]; rfl))
          have g875 : tk_ub f859 bu B tn := tk_ub_tr g856 (fun i9 => hF.z hbu (by rw [kbu]; rfl))
          have g876 : tk_tm f859 mo sr nm (tk_sy tA) := tk_tm_tr t849 (hF.z hmo (by rw [kmo]; rfl)) (fun i9 h9 k9 => hF.z hsr (by rw [ksr]; exact q_inWr rfl h9 k9)) (fun i9 h9 k9 => hF.z hsr (by rw [ksr]; exact q_inWr rfl h9 k9)) (fun i9 => hF.j hnm (by rw [knm]; rfl))
          obtain ⟨x877, ex877⟩ : ∃ zz, q_is (q_z f859 mo 5) zz := ⟨_, q_isr _⟩
          obtain ⟨lx877, ux877⟩ := q_isb ex877 (q_fib hB.2.1 hmo kmo (by decide) rfl)
          obtain ⟨-, l0x877, u0x877, -, -⟩ := tk_tr_n g869 ex877
          refine q_sast cx hB hsr ksr (by decide) (by decide) ⟨by omega, by omega⟩ rfl dX12_statement_27 (fun H locs f878 ef878 z879 hB => ?_)
          have z880 : q_is (q_z f878 mo 3) tn := by rw [ef878, q_setz (Or.inr (by decide))]; exact z870
          have z881 : q_is (q_z f878 mo 8) 0 := by rw [ef878, q_setz (Or.inr (by decide))]; exact z864
          have z882 : q_is (q_z f878 mo 9) (-1) := by rw [ef878, q_setz (Or.inr (by decide))]; exact z865
          have z883 : q_is (q_z f878 mo 5) x877 := by rw [ef878, q_setz (Or.inr (by decide))]; exact ex877
          have z884 : q_ir (q_r f878 mo 13) sr := by rw [ef878, q_setr (Or.inr (by decide))]; exact z871
          have z885 : q_ir (q_r f878 mo 18) nm := by rw [ef878, q_setr (Or.inr (by decide))]; exact z872
          have z886 : q_ir (q_r f878 mo 1) bu := by rw [ef878, q_setr (Or.inr (by decide))]; exact z873
          have g887 : q_gr f878 sr := q_gr_put g874 ef878 z879 rfl (by omega) (by omega)
          have g888 : tk_ub f878 bu B tn := tk_ub_tr g875 (fun i9 => by rw [ef878, q_setz (Or.inl (fun q => by rw [q, ksr] at kbu; exact absurd kbu (by decide)))])
          have g889 : tk_tm f878 mo sr nm (tk_sy tA) := tk_tm_tr g876 (by rw [ef878, q_setz (Or.inr (by decide))]) (fun i9 h9 k9 => by rw [ef878, q_setz (Or.inr (by omega))]) (fun i9 h9 k9 => by rw [ef878, q_setz (Or.inr (by omega))]) (fun i9 => by rw [ef878, q_setj (Or.inl (fun q => by rw [q, ksr] at knm; exact absurd knm (by decide)))])
          have g890 : tk_tr f878 mo B tn := tk_tr_tr g869 (by rw [ef878, q_setz (Or.inr (by decide))]) (by rw [ef878, q_setz (Or.inr (by decide))]) (by rw [ef878, q_setz (Or.inr (by decide))]) (by rw [ef878, q_setz (Or.inr (by decide))]) (by rw [ef878, q_setj (Or.inr (by decide))])
          refine lv_goto (tgt := 161) cx.1 cx.2.1 dX12_statement_28 (by decide) ?_
          refine q_ald_n cx dX12_statement_161 rfl (lv_at hl 0 rfl) ?_
          refine q_bipush cx dX12_statement_162 rfl ?_
          refine q_cVv (As := [.int (q_i 59)]) (rest := []) cx hB (fun _ h => h) hN hmo kmo (by decide) rfl (f_mmustSign l g hN hB.2.1 B mo hmo kmo 59 (by decide) (by decide) bu hbu kbu tn (by omega) (by omega) x877 (by omega) (by omega) z880 z883 z881 z882 z886 (by omega) g890 g888) q_cX12_241 q_dX12_mustSign (by decide) rfl rfl hl.1 rfl (Nat.le_of_ble_eq_true rfl) dX12_statement_164 (fun H locs f891 h893 hF hB => ?_)
          rcases h893 with h894 | h895
          · obtain ⟨z896, z897, t898, g899⟩ := h894
            have z900 : q_is (q_z f891 mo 3) tn := Eq.trans (hF.z hmo (by rw [kmo]; rfl)) z880
            have z901 : q_is (q_z f891 sr 2) y860 := Eq.trans (hF.z hsr (by rw [ksr]; rfl)) z879
            have z902 : q_ir (q_r f891 mo 13) sr := Eq.trans (hF.r hmo (by rw [kmo]; rfl)) z884
            have z903 : q_ir (q_r f891 mo 18) nm := Eq.trans (hF.r hmo (by rw [kmo]; rfl)) z885
            have z904 : q_ir (q_r f891 mo 1) bu := Eq.trans (hF.r hmo (by rw [kmo]; rfl)) z886
            have g905 : q_gr f891 sr := q_gr_fr g887 (fun i9 _ => hF.z hsr (by rw [ksr]; rfl))
            have g906 : tk_ub f891 bu B tn := tk_ub_tr g888 (fun i9 => hF.z hbu (by rw [kbu]; rfl))
            have g907 : tk_tm f891 mo sr nm (tk_sy tA) := tk_tm_tr g889 (hF.z hmo (by rw [kmo]; rfl)) (fun i9 h9 k9 => hF.z hsr (by rw [ksr]; exact q_inWr rfl h9 k9)) (fun i9 h9 k9 => hF.z hsr (by rw [ksr]; exact q_inWr rfl h9 k9)) (fun i9 => hF.j hnm (by rw [knm]; rfl))
            obtain ⟨x908, ex908⟩ : ∃ zz, q_is (q_z f891 mo 5) zz := ⟨_, q_isr _⟩
            obtain ⟨lx908, ux908⟩ := q_isb ex908 (q_fib hB.2.1 hmo kmo (by decide) rfl)
            obtain ⟨-, l0x908, u0x908, -, -⟩ := tk_tr_n g899 ex908
            refine q_vret cx hr hlk hB dX12_statement_167 ?_
            exact (Or.inl ⟨z896, z897, ⟨(tk_sy tA), tk_okp (tk_stm_ok (Eq.trans (tk_st_1 t838) (tk_year_ok t847 (Eq.trans (Eq.symm ex857) t848) (tk_okx t866 ex877))) (tk_okx t898 ex908)) ex908, g907⟩, g905, g899⟩)
          · obtain ⟨lz909, uz909, t910, g911⟩ := h895
            have z912 : q_is (q_z f891 mo 3) tn := Eq.trans (hF.z hmo (by rw [kmo]; rfl)) z880
            have z913 : q_is (q_z f891 sr 2) y860 := Eq.trans (hF.z hsr (by rw [ksr]; rfl)) z879
            have z914 : q_ir (q_r f891 mo 13) sr := Eq.trans (hF.r hmo (by rw [kmo]; rfl)) z884
            have z915 : q_ir (q_r f891 mo 18) nm := Eq.trans (hF.r hmo (by rw [kmo]; rfl)) z885
            have z916 : q_ir (q_r f891 mo 1) bu := Eq.trans (hF.r hmo (by rw [kmo]; rfl)) z886
            have g917 : q_gr f891 sr := q_gr_fr g887 (fun i9 _ => hF.z hsr (by rw [ksr]; rfl))
            have g918 : tk_ub f891 bu B tn := tk_ub_tr g888 (fun i9 => hF.z hbu (by rw [kbu]; rfl))
            have g919 : tk_tm f891 mo sr nm (tk_sy tA) := tk_tm_tr g889 (hF.z hmo (by rw [kmo]; rfl)) (fun i9 h9 k9 => hF.z hsr (by rw [ksr]; exact q_inWr rfl h9 k9)) (fun i9 h9 k9 => hF.z hsr (by rw [ksr]; exact q_inWr rfl h9 k9)) (fun i9 => hF.j hnm (by rw [knm]; rfl))
            obtain ⟨x920, ex920⟩ : ∃ zz, q_is (q_z f891 mo 8) zz := ⟨_, q_isr _⟩
            obtain ⟨lx920, ux920⟩ := q_isb ex920 ⟨lz909, uz909⟩
            obtain ⟨x921, ex921⟩ : ∃ zz, q_is (q_z f891 mo 5) zz := ⟨_, q_isr _⟩
            obtain ⟨lx921, ux921⟩ := q_isb ex921 (q_fib hB.2.1 hmo kmo (by decide) rfl)
            obtain ⟨x922, ex922⟩ : ∃ zz, q_is (q_z f891 mo 9) zz := ⟨_, q_isr _⟩
            obtain ⟨lx922, ux922⟩ := q_isb ex922 (q_fib hB.2.1 hmo kmo (by decide) rfl)
            obtain ⟨-, l0x921, u0x921, -, -⟩ := tk_tr_n g911 ex921
            refine q_vret cx hr hlk hB dX12_statement_167 ?_
            exact (Or.inr ⟨(q_isl ex920 (by omega)), (q_isu ex920 (by omega)), (tk_erp (tk_stm_e2 (Eq.trans (tk_st_1 t838) (tk_year_ok t847 (Eq.trans (Eq.symm ex857) t848) (tk_okx t866 ex877))) (tk_erx t910 ex920 ex922)) ex920 ex922), g911⟩)
        · obtain ⟨lz923, uz923, t924, g925⟩ := h863
          have z926 : q_is (q_z f859 mo 3) tn := Eq.trans (hF.z hmo (by rw [kmo]; rfl)) z851
          have z927 : q_ir (q_r f859 mo 13) sr := Eq.trans (hF.r hmo (by rw [kmo]; rfl)) z852
          have z928 : q_ir (q_r f859 mo 18) nm := Eq.trans (hF.r hmo (by rw [kmo]; rfl)) z853
          have z929 : q_ir (q_r f859 mo 1) bu := Eq.trans (hF.r hmo (by rw [kmo]; rfl)) z854
          have g930 : q_gr f859 sr := q_gr_fr g855 (fun i9 _ => hF.z hsr (by rw [ksr]; rfl))
          have g931 : tk_ub f859 bu B tn := tk_ub_tr g856 (fun i9 => hF.z hbu (by rw [kbu]; rfl))
          have g932 : tk_tm f859 mo sr nm (tk_sy tA) := tk_tm_tr t849 (hF.z hmo (by rw [kmo]; rfl)) (fun i9 h9 k9 => hF.z hsr (by rw [ksr]; exact q_inWr rfl h9 k9)) (fun i9 h9 k9 => hF.z hsr (by rw [ksr]; exact q_inWr rfl h9 k9)) (fun i9 => hF.j hnm (by rw [knm]; rfl))
          obtain ⟨x933, ex933⟩ : ∃ zz, q_is (q_z f859 mo 8) zz := ⟨_, q_isr _⟩
          obtain ⟨lx933, ux933⟩ := q_isb ex933 ⟨lz923, uz923⟩
          obtain ⟨x934, ex934⟩ : ∃ zz, q_is (q_z f859 mo 5) zz := ⟨_, q_isr _⟩
          obtain ⟨lx934, ux934⟩ := q_isb ex934 (q_fib hB.2.1 hmo kmo (by decide) rfl)
          obtain ⟨x935, ex935⟩ : ∃ zz, q_is (q_z f859 mo 9) zz := ⟨_, q_isr _⟩
          obtain ⟨lx935, ux935⟩ := q_isb ex935 (q_fib hB.2.1 hmo kmo (by decide) rfl)
          obtain ⟨-, l0x934, u0x934, -, -⟩ := tk_tr_n g925 ex934
          refine q_sast cx hB hsr ksr (by decide) (by decide) ⟨by omega, by omega⟩ rfl dX12_statement_27 (fun H locs f936 ef936 z937 hB => ?_)
          have z938 : q_is (q_z f936 mo 3) tn := by rw [ef936, q_setz (Or.inr (by decide))]; exact z926
          have z939 : q_is (q_z f936 mo 8) x933 := by rw [ef936, q_setz (Or.inr (by decide))]; exact ex933
          have z940 : q_is (q_z f936 mo 5) x934 := by rw [ef936, q_setz (Or.inr (by decide))]; exact ex934
          have z941 : q_is (q_z f936 mo 9) x935 := by rw [ef936, q_setz (Or.inr (by decide))]; exact ex935
          have z942 : q_ir (q_r f936 mo 13) sr := by rw [ef936, q_setr (Or.inr (by decide))]; exact z927
          have z943 : q_ir (q_r f936 mo 18) nm := by rw [ef936, q_setr (Or.inr (by decide))]; exact z928
          have z944 : q_ir (q_r f936 mo 1) bu := by rw [ef936, q_setr (Or.inr (by decide))]; exact z929
          have g945 : tk_ub f936 bu B tn := tk_ub_tr g931 (fun i9 => by rw [ef936, q_setz (Or.inl (fun q => by rw [q, ksr] at kbu; exact absurd kbu (by decide)))])
          have g946 : tk_tm f936 mo sr nm (tk_sy tA) := tk_tm_tr g932 (by rw [ef936, q_setz (Or.inr (by decide))]) (fun i9 h9 k9 => by rw [ef936, q_setz (Or.inr (by omega))]) (fun i9 h9 k9 => by rw [ef936, q_setz (Or.inr (by omega))]) (fun i9 => by rw [ef936, q_setj (Or.inl (fun q => by rw [q, ksr] at knm; exact absurd knm (by decide)))])
          have g947 : tk_tr f936 mo B tn := tk_tr_tr g925 (by rw [ef936, q_setz (Or.inr (by decide))]) (by rw [ef936, q_setz (Or.inr (by decide))]) (by rw [ef936, q_setz (Or.inr (by decide))]) (by rw [ef936, q_setz (Or.inr (by decide))]) (by rw [ef936, q_setj (Or.inr (by decide))])
          refine lv_goto (tgt := 161) cx.1 cx.2.1 dX12_statement_28 (by decide) ?_
          refine q_ald_n cx dX12_statement_161 rfl (lv_at hl 0 rfl) ?_
          refine q_bipush cx dX12_statement_162 rfl ?_
          refine q_cVv (As := [.int (q_i 59)]) (rest := []) cx hB (fun _ h => h) hN hmo kmo (by decide) rfl (r_mustSign1 l g hN hB.2.1 mo hmo kmo 59 (by decide) (by decide) x933 (by omega) (by omega) z939) q_cX12_241 q_dX12_mustSign (by decide) rfl rfl hl.1 rfl (Nat.le_of_ble_eq_true rfl) dX12_statement_164 (fun H locs f948 h950 hF hB => ?_)
          obtain rfl := h950
          refine q_vret cx hr hlk hB dX12_statement_167 ?_
          exact (Or.inr ⟨(q_isl z939 (by omega)), (q_isu z939 (by omega)), (tk_erp (tk_stm_e1 (Eq.trans (tk_st_1 t838) (tk_year_e1 t847 (Eq.trans (Eq.symm ex857) t848)  (tk_erx t924 ex933 ex935)))) z939 z941), g947⟩)
      · obtain ⟨z951, z952, t953, g954⟩ := h844
        have z955 : q_is (q_z f840 mo 3) tn := Eq.trans (hF.z hmo (by rw [kmo]; rfl)) hf0
        have z956 : q_ir (q_r f840 mo 13) sr := Eq.trans (hF.r hmo (by rw [kmo]; rfl)) hr0
        have z957 : q_ir (q_r f840 mo 18) nm := Eq.trans (hF.r hmo (by rw [kmo]; rfl)) hr1
        have z958 : q_ir (q_r f840 mo 1) bu := Eq.trans (hF.r hmo (by rw [kmo]; rfl)) hr2
        have g959 : q_gr f840 sr := q_gr_fr hgr (fun i9 _ => hF.z hsr (by rw [ksr]; rfl))
        have g960 : tk_ub f840 bu B tn := tk_ub_tr hub (fun i9 => hF.z hbu (by rw [kbu]; rfl))
        obtain ⟨x961, ex961⟩ : ∃ zz, q_is (q_z f840 mo 5) zz := ⟨_, q_isr _⟩
        obtain ⟨lx961, ux961⟩ := q_isb ex961 (q_fib hB.2.1 hmo kmo (by decide) rfl)
        obtain ⟨-, l0x961, u0x961, -, -⟩ := tk_tr_n g954 ex961
        refine q_ald_n cx dX12_statement_15 rfl (lv_at hl 0 rfl) ?_
        refine q_gX12_20 cx hB hmo kmo z956 dX12_statement_16 (fun hb962 kb962 => ?_)
        refine q_iconst cx dX12_statement_19 ?_
        refine q_ald_n cx dX12_statement_20 rfl (lv_at hl 0 rfl) ?_
        refine q_iconst cx dX12_statement_21 ?_
        refine q_bipush cx dX12_statement_22 rfl ?_
        refine q_cVi (As := [.int (q_i 4), .int (q_i 60)]) (rest := [.int (q_i 2), .ref sr]) cx hB (fun _ h => h) hN hmo kmo (by decide) rfl (r_number1 l g hN hB.2.1 mo hmo kmo 4 (by decide) (by decide) 60 (by decide) (by decide) 3 (by decide) (by decide) z951) q_cX12_193 q_dX12_number (by decide) rfl rfl hl.1 rfl (Nat.le_of_ble_eq_true rfl) dX12_statement_24 (fun y964 H locs f963 ry964 h965 hF hB => ?_)
        obtain rfl := h965
        refine q_sast cx hB hsr ksr (by decide) (by decide) ⟨by omega, by omega⟩ rfl dX12_statement_27 (fun H locs f966 ef966 z967 hB => ?_)
        have z968 : q_is (q_z f966 mo 3) tn := by rw [ef966, q_setz (Or.inr (by decide))]; exact z955
        have z969 : q_is (q_z f966 mo 8) 3 := by rw [ef966, q_setz (Or.inr (by decide))]; exact z951
        have z970 : q_is (q_z f966 mo 9) ss := by rw [ef966, q_setz (Or.inr (by decide))]; exact z952
        have z971 : q_is (q_z f966 mo 5) x961 := by rw [ef966, q_setz (Or.inr (by decide))]; exact ex961
        have z972 : q_ir (q_r f966 mo 13) sr := by rw [ef966, q_setr (Or.inr (by decide))]; exact z956
        have z973 : q_ir (q_r f966 mo 18) nm := by rw [ef966, q_setr (Or.inr (by decide))]; exact z957
        have z974 : q_ir (q_r f966 mo 1) bu := by rw [ef966, q_setr (Or.inr (by decide))]; exact z958
        have g975 : tk_ub f966 bu B tn := tk_ub_tr g960 (fun i9 => by rw [ef966, q_setz (Or.inl (fun q => by rw [q, ksr] at kbu; exact absurd kbu (by decide)))])
        have g976 : tk_tr f966 mo B tn := tk_tr_tr g954 (by rw [ef966, q_setz (Or.inr (by decide))]) (by rw [ef966, q_setz (Or.inr (by decide))]) (by rw [ef966, q_setz (Or.inr (by decide))]) (by rw [ef966, q_setz (Or.inr (by decide))]) (by rw [ef966, q_setj (Or.inr (by decide))])
        refine lv_goto (tgt := 161) cx.1 cx.2.1 dX12_statement_28 (by decide) ?_
        refine q_ald_n cx dX12_statement_161 rfl (lv_at hl 0 rfl) ?_
        refine q_bipush cx dX12_statement_162 rfl ?_
        refine q_cVv (As := [.int (q_i 59)]) (rest := []) cx hB (fun _ h => h) hN hmo kmo (by decide) rfl (r_mustSign1 l g hN hB.2.1 mo hmo kmo 59 (by decide) (by decide) 3 (by decide) (by decide) z969) q_cX12_241 q_dX12_mustSign (by decide) rfl rfl hl.1 rfl (Nat.le_of_ble_eq_true rfl) dX12_statement_164 (fun H locs f977 h979 hF hB => ?_)
        obtain rfl := h979
        refine q_vret cx hr hlk hB dX12_statement_167 ?_
        exact (Or.inr ⟨(q_isl z969 (by omega)), (q_isu z969 (by omega)), (tk_stm_e1 (Eq.trans (tk_st_1 t838) (tk_year_told t953 z969 z970))), g976⟩)
  · obtain ⟨rfl, qy833, t980⟩ := h836
    subst qy833
    refine q_ifeq (tgt := 31) cx ⟨by decide, by decide⟩ dX12_statement_7 (by decide) (fun c981 => ?_) (fun c981 => ?_)
    · refine q_ald_n cx dX12_statement_31 rfl (lv_at hl 0 rfl) ?_
      refine lv_ldc2 (v := q_l 3657363) cx.1 cx.2.1 cx.2.2.2.1 (cx.2.2.2.2 _ q_h1781) dX12_statement_32 ?_
      refine q_cVi (As := [.long (q_l 3657363)]) (rest := []) cx hB (fun _ h => h) hN hmo kmo (by decide) rfl (f_misWord l g hN hB.2.1 B tk_wCosts mo hmo kmo (q_l 3657363) bu hbu kbu tn (by omega) (by omega) ss (by omega) (by omega) hf0 hf1 hf2 hf3 hr2 (by decide +kernel : (q_l 3657363) = tk_mw tk_wCosts) tk_iCosts htr hub) q_cX12_143 q_dX12_isWord (by decide) rfl rfl hl.1 rfl (Nat.le_of_ble_eq_true rfl) dX12_statement_35 (fun y983 H locs f982 ry983 h984 hF hB => ?_)
      rcases h984 with h985 | h986
      · obtain ⟨rfl, qy983, z987, t988⟩ := h985
        subst qy983
        refine q_ifeq (tgt := 90) cx ⟨by decide, by decide⟩ dX12_statement_38 (by decide) (fun c989 => ?_) (fun c989 => ?_)
        · exact absurd c989 (by omega)
        · refine q_ald_n cx dX12_statement_41 rfl (lv_at hl 0 rfl) ?_
          refine q_iconst cx dX12_statement_42 ?_
          refine q_cVv (As := [.int (q_i 1)]) (rest := []) cx hB (fun _ h => h) hN hmo kmo (by decide) rfl (f_monce1 l g hN hB.2.1 B tA mo hmo kmo 1 (by decide) (by decide) sr hsr ksr nm hnm knm bu hbu kbu tn (by omega) (by omega) ss (by omega) (by omega) 1 (by decide) (by decide) hf0 hf1 hf2 hf3 z987 hr0 hr1 hr2 htr hub htm) q_cX12_224 q_dX12_once (by decide) rfl rfl hl.1 rfl (Nat.le_of_ble_eq_true rfl) dX12_statement_43 (fun H locs f990 h992 hF hB => ?_)
          rcases h992 with h993 | h994
          · obtain ⟨z995, z996, t997, t998, t999, g1000⟩ := h993
            have z1001 : q_is (q_z f990 mo 3) tn := Eq.trans (hF.z hmo (by rw [kmo]; rfl)) hf0
            have z1002 : q_ir (q_r f990 mo 13) sr := Eq.trans (hF.r hmo (by rw [kmo]; rfl)) hr0
            have z1003 : q_ir (q_r f990 mo 18) nm := Eq.trans (hF.r hmo (by rw [kmo]; rfl)) hr1
            have z1004 : q_ir (q_r f990 mo 1) bu := Eq.trans (hF.r hmo (by rw [kmo]; rfl)) hr2
            have g1005 : q_gr f990 sr := q_gr_fr hgr (fun i9 _ => hF.z hsr (by rw [ksr]; rfl))
            have g1006 : tk_ub f990 bu B tn := tk_ub_tr hub (fun i9 => hF.z hbu (by rw [kbu]; rfl))
            obtain ⟨x1007, ex1007⟩ : ∃ zz, q_is (q_z f990 mo 5) zz := ⟨_, q_isr _⟩
            obtain ⟨lx1007, ux1007⟩ := q_isb ex1007 (q_fib hB.2.1 hmo kmo (by decide) rfl)
            obtain ⟨-, l0x1007, u0x1007, -, -⟩ := tk_tr_n g1000 ex1007
            refine q_ald_n cx dX12_statement_46 rfl (lv_at hl 0 rfl) ?_
            refine q_gX12_20 cx hB hmo kmo z1002 dX12_statement_47 (fun hb1008 kb1008 => ?_)
            refine q_iconst cx dX12_statement_50 ?_
            refine q_ald_n cx dX12_statement_51 rfl (lv_at hl 0 rfl) ?_
            refine q_iconst cx dX12_statement_52 ?_
            refine q_bipush cx dX12_statement_53 rfl ?_
            refine q_cVi (As := [.int (q_i 0), .int (q_i 99)]) (rest := [.int (q_i 5), .ref sr]) cx hB (fun _ h => h) hN hmo kmo (by decide) rfl (f_mnumber l g hN hB.2.1 B mo hmo kmo 0 (by decide) (by decide) 99 (by decide) (by decide) bu hbu kbu tn (by omega) (by omega) x1007 (by omega) (by omega) z1001 ex1007 z995 z996 z1004 g1000 g1006) q_cX12_193 q_dX12_number (by decide) rfl rfl hl.1 rfl (Nat.le_of_ble_eq_true rfl) dX12_statement_55 (fun y1010 H locs f1009 ry1010 h1011 hF hB => ?_)
            rcases h1011 with h1012 | h1013
            · obtain ⟨z1014, z1015, t1016, t1017, t1018, g1019⟩ := h1012
              have z1020 : q_is (q_z f1009 mo 3) tn := Eq.trans (hF.z hmo (by rw [kmo]; rfl)) z1001
              have z1021 : q_ir (q_r f1009 mo 13) sr := Eq.trans (hF.r hmo (by rw [kmo]; rfl)) z1002
              have z1022 : q_ir (q_r f1009 mo 18) nm := Eq.trans (hF.r hmo (by rw [kmo]; rfl)) z1003
              have z1023 : q_ir (q_r f1009 mo 1) bu := Eq.trans (hF.r hmo (by rw [kmo]; rfl)) z1004
              have g1024 : q_gr f1009 sr := q_gr_fr g1005 (fun i9 _ => hF.z hsr (by rw [ksr]; rfl))
              have g1025 : tk_ub f1009 bu B tn := tk_ub_tr g1006 (fun i9 => hF.z hbu (by rw [kbu]; rfl))
              have g1026 : tk_tm f1009 mo sr nm (tk_sc tA) := tk_tm_tr t999 (hF.z hmo (by rw [kmo]; rfl)) (fun i9 h9 k9 => hF.z hsr (by rw [ksr]; exact q_inWr rfl h9 k9)) (fun i9 h9 k9 => hF.z hsr (by rw [ksr]; exact q_inWr rfl h9 k9)) (fun i9 => hF.j hnm (by rw [knm]; rfl))
              obtain ⟨x1027, ex1027⟩ : ∃ zz, q_is (q_z f1009 mo 5) zz := ⟨_, q_isr _⟩
              obtain ⟨lx1027, ux1027⟩ := q_isb ex1027 (q_fib hB.2.1 hmo kmo (by decide) rfl)
              obtain ⟨-, l0x1027, u0x1027, -, -⟩ := tk_tr_n g1019 ex1027
              refine q_sast cx hB hsr ksr (by decide) (by decide) ⟨by omega, by omega⟩ rfl dX12_statement_58 (fun H locs f1028 ef1028 z1029 hB => ?_)
              have z1030 : q_is (q_z f1028 mo 3) tn := by rw [ef1028, q_setz (Or.inr (by decide))]; exact z1020
              have z1031 : q_is (q_z f1028 mo 8) 0 := by rw [ef1028, q_setz (Or.inr (by decide))]; exact z1014
              have z1032 : q_is (q_z f1028 mo 9) (-1) := by rw [ef1028, q_setz (Or.inr (by decide))]; exact z1015
              have z1033 : q_is (q_z f1028 mo 5) x1027 := by rw [ef1028, q_setz (Or.inl (fun q => by rw [q, ksr] at kmo; exact absurd kmo (by decide)))]; exact ex1027
              have z1034 : q_ir (q_r f1028 mo 13) sr := by rw [ef1028, q_setr (Or.inr (by decide))]; exact z1021
              have z1035 : q_ir (q_r f1028 mo 18) nm := by rw [ef1028, q_setr (Or.inr (by decide))]; exact z1022
              have z1036 : q_ir (q_r f1028 mo 1) bu := by rw [ef1028, q_setr (Or.inr (by decide))]; exact z1023
              have g1037 : q_gr f1028 sr := q_gr_put g1024 ef1028 z1029 rfl (by omega) (by omega)
              have g1038 : tk_ub f1028 bu B tn := tk_ub_tr g1025 (fun i9 => by rw [ef1028, q_setz (Or.inl (fun q => by rw [q, ksr] at kbu; exact absurd kbu (by decide)))])
              have g1039 : tk_tm f1028 mo sr nm (tk_sc tA) := tk_tm_tr g1026 (by rw [ef1028, q_setz (Or.inr (by decide))]) (fun i9 h9 k9 => by rw [ef1028, q_setz (Or.inr (by omega))]) (fun i9 h9 k9 => by rw [ef1028, q_setz (Or.inr (by omega))]) (fun i9 => by rw [ef1028, q_setj (Or.inl (fun q => by rw [q, ksr] at knm; exact absurd knm (by decide)))])
              have g1040 : tk_tr f1028 mo B tn := tk_tr_tr g1019 (by rw [ef1028, q_setz (Or.inl (fun q => by rw [q, ksr] at kmo; exact absurd kmo (by decide)))]) (by rw [ef1028, q_setz (Or.inr (by decide))]) (by rw [ef1028, q_setz (Or.inr (by decide))]) (by rw [ef1028, q_setz (Or.inr (by decide))]) (by rw [ef1028, q_setj (Or.inr (by decide))])
              refine q_ald_n cx dX12_statement_59 rfl (lv_at hl 0 rfl) ?_
              refine q_gX12_20 cx hB hmo kmo z1034 dX12_statement_60 (fun hb1041 kb1041 => ?_)
              refine q_bipush cx dX12_statement_63 rfl ?_
              refine q_ald_n cx dX12_statement_65 rfl (lv_at hl 0 rfl) ?_
              refine q_iconst cx dX12_statement_66 ?_
              refine q_bipush cx dX12_statement_67 rfl ?_
              refine q_cVi (As := [.int (q_i 0), .int (q_i 99)]) (rest := [.int (q_i 6), .ref sr]) cx hB (fun _ h => h) hN hmo kmo (by decide) rfl (f_mnumber l g hN hB.2.1 B mo hmo kmo 0 (by decide) (by decide) 99 (by decide) (by decide) bu hbu kbu tn (by omega) (by omega) x1027 (by omega) (by omega) z1030 z1033 z1031 z1032 z1036 g1040 g1038) q_cX12_193 q_dX12_number (by decide) rfl rfl hl.1 rfl (Nat.le_of_ble_eq_true rfl) dX12_statement_69 (fun y1043 H locs f1042 ry1043 h1044 hF hB => ?_)
              rcases h1044 with h1045 | h1046
              · obtain ⟨z1047, z1048, t1049, t1050, t1051, g1052⟩ := h1045
                have z1053 : q_is (q_z f1042 mo 3) tn := Eq.trans (hF.z hmo (by rw [kmo]; rfl)) z1030
                have z1054 : q_is (q_z f1042 sr 5) y1010 := Eq.trans (hF.z hsr (by rw [ksr]; rfl)) z1029
                have z1055 : q_ir (q_r f1042 mo 13) sr := Eq.trans (hF.r hmo (by rw [kmo]; rfl)) z1034
                have z1056 : q_ir (q_r f1042 mo 18) nm := Eq.trans (hF.r hmo (by rw [kmo]; rfl)) z1035
                have z1057 : q_ir (q_r f1042 mo 1) bu := Eq.trans (hF.r hmo (by rw [kmo]; rfl)) z1036
                have g1058 : q_gr f1042 sr := q_gr_fr g1037 (fun i9 _ => hF.z hsr (by rw [ksr]; rfl))
                have g1059 : tk_ub f1042 bu B tn := tk_ub_tr g1038 (fun i9 => hF.z hbu (by rw [kbu]; rfl))
                have g1060 : tk_tm f1042 mo sr nm (tk_sc tA) := tk_tm_tr g1039 (hF.z hmo (by rw [kmo]; rfl)) (fun i9 h9 k9 => hF.z hsr (by rw [ksr]; exact q_inWr rfl h9 k9)) (fun i9 h9 k9 => hF.z hsr (by rw [ksr]; exact q_inWr rfl h9 k9)) (fun i9 => hF.j hnm (by rw [knm]; rfl))
                obtain ⟨x1061, ex1061⟩ : ∃ zz, q_is (q_z f1042 mo 5) zz := ⟨_, q_isr _⟩
                obtain ⟨lx1061, ux1061⟩ := q_isb ex1061 (q_fib hB.2.1 hmo kmo (by decide) rfl)
                obtain ⟨-, l0x1061, u0x1061, -, -⟩ := tk_tr_n g1052 ex1061
                refine q_sast cx hB hsr ksr (by decide) (by decide) ⟨by omega, by omega⟩ rfl dX12_statement_72 (fun H locs f1062 ef1062 z1063 hB => ?_)
                have z1064 : q_is (q_z f1062 mo 3) tn := by rw [ef1062, q_setz (Or.inr (by decide))]; exact z1053
                have z1065 : q_is (q_z f1062 sr 5) y1010 := by rw [ef1062, q_setz (Or.inr (by decide))]; exact z1054
                have z1066 : q_is (q_z f1062 mo 8) 0 := by rw [ef1062, q_setz (Or.inr (by decide))]; exact z1047
                have z1067 : q_is (q_z f1062 mo 9) (-1) := by rw [ef1062, q_setz (Or.inr (by decide))]; exact z1048
                have z1068 : q_is (q_z f1062 mo 5) x1061 := by rw [ef1062, q_setz (Or.inr (by decide))]; exact ex1061
                have z1069 : q_ir (q_r f1062 mo 13) sr := by rw [ef1062, q_setr (Or.inr (by decide))]; exact z1055
                have z1070 : q_ir (q_r f1062 mo 18) nm := by rw [ef1062, q_setr (Or.inr (by decide))]; exact z1056
                have z1071 : q_ir (q_r f1062 mo 1) bu := by rw [ef1062, q_setr (Or.inr (by decide))]; exact z1057
                have g1072 : q_gr f1062 sr := q_gr_put g1058 ef1062 z1063 rfl (by omega) (by omega)
                have g1073 : tk_ub f1062 bu B tn := tk_ub_tr g1059 (fun i9 => by rw [ef1062, q_setz (Or.inl (fun q => by rw [q, ksr] at kbu; exact absurd kbu (by decide)))])
                have g1074 : tk_tm f1062 mo sr nm (tk_sc tA) := tk_tm_tr g1060 (by rw [ef1062, q_setz (Or.inr (by decide))]) (fun i9 h9 k9 => by rw [ef1062, q_setz (Or.inr (by omega))]) (fun i9 h9 k9 => by rw [ef1062, q_setz (Or.inr (by omega))]) (fun i9 => by rw [ef1062, q_setj (Or.inl (fun q => by rw [q, ksr] at knm; exact absurd knm (by decide)))])
                have g1075 : tk_tr f1062 mo B tn := tk_tr_tr g1052 (by rw [ef1062, q_setz (Or.inr (by decide))]) (by rw [ef1062, q_setz (Or.inr (by decide))]) (by rw [ef1062, q_setz (Or.inl (fun q => by rw [q, ksr] at kmo; exact absurd kmo (by decide)))]) (by rw [ef1062, q_setz (Or.inr (by decide))]) (by rw [ef1062, q_setj (Or.inr (by decide))])
                refine q_ald_n cx dX12_statement_73 rfl (lv_at hl 0 rfl) ?_
                refine q_gX12_20 cx hB hmo kmo z1069 dX12_statement_74 (fun hb1076 kb1076 => ?_)
                refine q_bipush cx dX12_statement_77 rfl ?_
                refine q_ald_n cx dX12_statement_79 rfl (lv_at hl 0 rfl) ?_
                refine q_iconst cx dX12_statement_80 ?_
                refine q_bipush cx dX12_statement_81 rfl ?_
                refine q_cVi (As := [.int (q_i 0), .int (q_i 99)]) (rest := [.int (q_i 7), .ref sr]) cx hB (fun _ h => h) hN hmo kmo (by decide) rfl (f_mnumber l g hN hB.2.1 B mo hmo kmo 0 (by decide) (by decide) 99 (by decide) (by decide) bu hbu kbu tn (by omega) (by omega) x1061 (by omega) (by omega) z1064 z1068 z1066 z1067 z1071 g1075 g1073) q_cX12_193 q_dX12_number (by decide) rfl rfl hl.1 rfl (Nat.le_of_ble_eq_true rfl) dX12_statement_83 (fun y1078 H locs f1077 ry1078 h1079 hF hB => ?_)
                rcases h1079 with h1080 | h1081
                · obtain ⟨z1082, z1083, t1084, t1085, t1086, g1087⟩ := h1080
                  have z1088 : q_is (q_z f1077 mo 3) tn := Eq.trans (hF.z hmo (by rw [kmo]; rfl)) z1064
                  have z1089 : q_is (q_z f1077 sr 5) y1010 := Eq.trans (hF.z hsr (by rw [ksr]; rfl)) z1065
                  have z1090 : q_is (q_z f1077 sr 6) y1043 := Eq.trans (hF.z hsr (by rw [ksr]; rfl)) z1063
                  have z1091 : q_ir (q_r f1077 mo 13) sr := Eq.trans (hF.r hmo (by rw [kmo]; rfl)) z1069
                  have z1092 : q_ir (q_r f1077 mo 18) nm := Eq.trans (hF.r hmo (by rw [kmo]; rfl)) z1070
                  have z1093 : q_ir (q_r f1077 mo 1) bu := Eq.trans (hF.r hmo (by rw [kmo]; rfl)) z1071
                  have g1094 : q_gr f1077 sr := q_gr_fr g1072 (fun i9 _ => hF.z hsr (by rw [ksr]; rfl))
                  have g1095 : tk_ub f1077 bu B tn := tk_ub_tr g1073 (fun i9 => hF.z hbu (by rw [kbu]; rfl))
                  have g1096 : tk_tm f1077 mo sr nm (tk_sc tA) := tk_tm_tr g1074 (hF.z hmo (by rw [kmo]; rfl)) (fun i9 h9 k9 => hF.z hsr (by rw [ksr]; exact q_inWr rfl h9 k9)) (fun i9 h9 k9 => hF.z hsr (by rw [ksr]; exact q_inWr rfl h9 k9)) (fun i9 => hF.j hnm (by rw [knm]; rfl))
                  obtain ⟨x1097, ex1097⟩ : ∃ zz, q_is (q_z f1077 mo 5) zz := ⟨_, q_isr _⟩
                  obtain ⟨lx1097, ux1097⟩ := q_isb ex1097 (q_fib hB.2.1 hmo kmo (by decide) rfl)
                  obtain ⟨-, l0x1097, u0x1097, -, -⟩ := tk_tr_n g1087 ex1097
                  refine q_sast cx hB hsr ksr (by decide) (by decide) ⟨by omega, by omega⟩ rfl dX12_statement_86 (fun H locs f1098 ef1098 z1099 hB => ?_)
                  have z1100 : q_is (q_z f1098 mo 3) tn := by rw [ef1098, q_setz (Or.inr (by decide))]; exact z1088
                  have z1101 : q_is (q_z f1098 sr 5) y1010 := by rw [ef1098, q_setz (Or.inr (by decide))]; exact z1089
                  have z1102 : q_is (q_z f1098 sr 6) y1043 := by rw [ef1098, q_setz (Or.inr (by decide))]; exact z1090
                  have z1103 : q_is (q_z f1098 mo 8) 0 := by rw [ef1098, q_setz (Or.inr (by decide))]; exact z1082
                  have z1104 : q_is (q_z f1098 mo 9) (-1) := by rw [ef1098, q_setz (Or.inr (by decide))]; exact z1083
                  have z1105 : q_is (q_z f1098 mo 5) x1097 := by rw [ef1098, q_setz (Or.inr (by decide))]; exact ex1097
                  have z1106 : q_ir (q_r f1098 mo 13) sr := by rw [ef1098, q_setr (Or.inr (by decide))]; exact z1091
                  have z1107 : q_ir (q_r f1098 mo 18) nm := by rw [ef1098, q_setr (Or.inr (by decide))]; exact z1092
                  have z1108 : q_ir (q_r f1098 mo 1) bu := by rw [ef1098, q_setr (Or.inr (by decide))]; exact z1093
                  have g1109 : q_gr f1098 sr := q_gr_put g1094 ef1098 z1099 rfl (by omega) (by omega)
                  have g1110 : tk_ub f1098 bu B tn := tk_ub_tr g1095 (fun i9 => by rw [ef1098, q_setz (Or.inl (fun q => by rw [q, ksr] at kbu; exact absurd kbu (by decide)))])
                  have g1111 : tk_tm f1098 mo sr nm (tk_sc tA) := tk_tm_tr g1096 (by rw [ef1098, q_setz (Or.inr (by decide))]) (fun i9 h9 k9 => by rw [ef1098, q_setz (Or.inr (by omega))]) (fun i9 h9 k9 => by rw [ef1098, q_setz (Or.inr (by omega))]) (fun i9 => by rw [ef1098, q_setj (Or.inl (fun q => by rw [q, ksr] at knm; exact absurd knm (by decide)))])
                  have g1112 : tk_tr f1098 mo B tn := tk_tr_tr g1087 (by rw [ef1098, q_setz (Or.inr (by decide))]) (by rw [ef1098, q_setz (Or.inr (by decide))]) (by rw [ef1098, q_setz (Or.inr (by decide))]) (by rw [ef1098, q_setz (Or.inl (fun q => by rw [q, ksr] at kmo; exact absurd kmo (by decide)))]) (by rw [ef1098, q_setj (Or.inr (by decide))])
                  refine lv_goto (tgt := 161) cx.1 cx.2.1 dX12_statement_87 (by decide) ?_
                  refine q_ald_n cx dX12_statement_161 rfl (lv_at hl 0 rfl) ?_
                  refine q_bipush cx dX12_statement_162 rfl ?_
                  refine q_cVv (As := [.int (q_i 59)]) (rest := []) cx hB (fun _ h => h) hN hmo kmo (by decide) rfl (f_mmustSign l g hN hB.2.1 B mo hmo kmo 59 (by decide) (by decide) bu hbu kbu tn (by omega) (by omega) x1097 (by omega) (by omega) z1100 z1105 z1103 z1104 z1108 (by omega) g1112 g1110) q_cX12_241 q_dX12_mustSign (by decide) rfl rfl hl.1 rfl (Nat.le_of_ble_eq_true rfl) dX12_statement_164 (fun H locs f1113 h1115 hF hB => ?_)
                  rcases h1115 with h1116 | h1117
                  · obtain ⟨z1118, z1119, t1120, g1121⟩ := h1116
                    have z1122 : q_is (q_z f1113 mo 3) tn := Eq.trans (hF.z hmo (by rw [kmo]; rfl)) z1100
                    have z1123 : q_is (q_z f1113 sr 5) y1010 := Eq.trans (hF.z hsr (by rw [ksr]; rfl)) z1101
                    have z1124 : q_is (q_z f1113 sr 6) y1043 := Eq.trans (hF.z hsr (by rw [ksr]; rfl)) z1102
                    have z1125 : q_is (q_z f1113 sr 7) y1078 := Eq.trans (hF.z hsr (by rw [ksr]; rfl)) z1099
                    have z1126 : q_ir (q_r f1113 mo 13) sr := Eq.trans (hF.r hmo (by rw [kmo]; rfl)) z1106
                    have z1127 : q_ir (q_r f1113 mo 18) nm := Eq.trans (hF.r hmo (by rw [kmo]; rfl)) z1107
                    have z1128 : q_ir (q_r f1113 mo 1) bu := Eq.trans (hF.r hmo (by rw [kmo]; rfl)) z1108
                    have g1129 : q_gr f1113 sr := q_gr_fr g1109 (fun i9 _ => hF.z hsr (by rw [ksr]; rfl))
                    have g1130 : tk_ub f1113 bu B tn := tk_ub_tr g1110 (fun i9 => hF.z hbu (by rw [kbu]; rfl))
                    have g1131 : tk_tm f1113 mo sr nm (tk_sc tA) := tk_tm_tr g1111 (hF.z hmo (by rw [kmo]; rfl)) (fun i9 h9 k9 => hF.z hsr (by rw [ksr]; exact q_inWr rfl h9 k9)) (fun i9 h9 k9 => hF.z hsr (by rw [ksr]; exact q_inWr rfl h9 k9)) (fun i9 => hF.j hnm (by rw [knm]; rfl))
                    obtain ⟨x1132, ex1132⟩ : ∃ zz, q_is (q_z f1113 mo 5) zz := ⟨_, q_isr _⟩
                    obtain ⟨lx1132, ux1132⟩ := q_isb ex1132 (q_fib hB.2.1 hmo kmo (by decide) rfl)
                    obtain ⟨-, l0x1132, u0x1132, -, -⟩ := tk_tr_n g1121 ex1132
                    refine q_vret cx hr hlk hB dX12_statement_167 ?_
                    exact (Or.inl ⟨z1118, z1119, ⟨(tk_sc tA), tk_okp (tk_stm_ok (Eq.trans (tk_st_2 t980 t988) (tk_costs_ok t997 (Eq.trans (Eq.symm ex1007) t998) (tk_okx t1016 ex1027) (tk_okx t1049 ex1061) (tk_okx t1084 ex1097))) (tk_okx t1120 ex1132)) ex1132, g1131⟩, g1129, g1121⟩)
                  · obtain ⟨lz1133, uz1133, t1134, g1135⟩ := h1117
                    have z1136 : q_is (q_z f1113 mo 3) tn := Eq.trans (hF.z hmo (by rw [kmo]; rfl)) z1100
                    have z1137 : q_is (q_z f1113 sr 5) y1010 := Eq.trans (hF.z hsr (by rw [ksr]; rfl)) z1101
                    have z1138 : q_is (q_z f1113 sr 6) y1043 := Eq.trans (hF.z hsr (by rw [ksr]; rfl)) z1102
                    have z1139 : q_is (q_z f1113 sr 7) y1078 := Eq.trans (hF.z hsr (by rw [ksr]; rfl)) z1099
                    have z1140 : q_ir (q_r f1113 mo 13) sr := Eq.trans (hF.r hmo (by rw [kmo]; rfl)) z1106
                    have z1141 : q_ir (q_r f1113 mo 18) nm := Eq.trans (hF.r hmo (by rw [kmo]; rfl)) z1107
                    have z1142 : q_ir (q_r f1113 mo 1) bu := Eq.trans (hF.r hmo (by rw [kmo]; rfl)) z1108
                    have g1143 : q_gr f1113 sr := q_gr_fr g1109 (fun i9 _ => hF.z hsr (by rw [ksr]; rfl))
                    have g1144 : tk_ub f1113 bu B tn := tk_ub_tr g1110 (fun i9 => hF.z hbu (by rw [kbu]; rfl))
                    have g1145 : tk_tm f1113 mo sr nm (tk_sc tA) := tk_tm_tr g1111 (hF.z hmo (by rw [kmo]; rfl)) (fun i9 h9 k9 => hF.z hsr (by rw [ksr]; exact q_inWr rfl h9 k9)) (fun i9 h9 k9 => hF.z hsr (by rw [ksr]; exact q_inWr rfl h9 k9)) (fun i9 => hF.j hnm (by rw [knm]; rfl))
                    obtain ⟨x1146, ex1146⟩ : ∃ zz, q_is (q_z f1113 mo 8) zz := ⟨_, q_isr _⟩
                    obtain ⟨lx1146, ux1146⟩ := q_isb ex1146 ⟨lz1133, uz1133⟩
                    obtain ⟨x1147, ex1147⟩ : ∃ zz, q_is (q_z f1113 mo 5) zz := ⟨_, q_isr _⟩
                    obtain ⟨lx1147, ux1147⟩ := q_isb ex1147 (q_fib hB.2.1 hmo kmo (by decide) rfl)
                    obtain ⟨x1148, ex1148⟩ : ∃ zz, q_is (q_z f1113 mo 9) zz := ⟨_, q_isr _⟩
                    obtain ⟨lx1148, ux1148⟩ := q_isb ex1148 (q_fib hB.2.1 hmo kmo (by decide) rfl)
                    obtain ⟨-, l0x1147, u0x1147, -, -⟩ := tk_tr_n g1135 ex1147
                    refine q_vret cx hr hlk hB dX12_statement_167 ?_
                    exact (Or.inr ⟨(q_isl ex1146 (by omega)), (q_isu ex1146 (by omega)), (tk_erp (tk_stm_e2 (Eq.trans (tk_st_2 t980 t988) (tk_costs_ok t997 (Eq.trans (Eq.symm ex1007) t998) (tk_okx t1016 ex1027) (tk_okx t1049 ex1061) (tk_okx t1084 ex1097))) (tk_erx t1134 ex1146 ex1148)) ex1146 ex1148), g1135⟩)
                · obtain ⟨lz1149, uz1149, t1150, g1151⟩ := h1081
                  have z1152 : q_is (q_z f1077 mo 3) tn := Eq.trans (hF.z hmo (by rw [kmo]; rfl)) z1064
                  have z1153 : q_is (q_z f1077 sr 5) y1010 := Eq.trans (hF.z hsr (by rw [ksr]; rfl)) z1065
                  have z1154 : q_is (q_z f1077 sr 6) y1043 := Eq.trans (hF.z hsr (by rw [ksr]; rfl)) z1063
                  have z1155 : q_ir (q_r f1077 mo 13) sr := Eq.trans (hF.r hmo (by rw [kmo]; rfl)) z1069
                  have z1156 : q_ir (q_r f1077 mo 18) nm := Eq.trans (hF.r hmo (by rw [kmo]; rfl)) z1070
                  have z1157 : q_ir (q_r f1077 mo 1) bu := Eq.trans (hF.r hmo (by rw [kmo]; rfl)) z1071
                  have g1158 : q_gr f1077 sr := q_gr_fr g1072 (fun i9 _ => hF.z hsr (by rw [ksr]; rfl))
                  have g1159 : tk_ub f1077 bu B tn := tk_ub_tr g1073 (fun i9 => hF.z hbu (by rw [kbu]; rfl))
                  have g1160 : tk_tm f1077 mo sr nm (tk_sc tA) := tk_tm_tr g1074 (hF.z hmo (by rw [kmo]; rfl)) (fun i9 h9 k9 => hF.z hsr (by rw [ksr]; exact q_inWr rfl h9 k9)) (fun i9 h9 k9 => hF.z hsr (by rw [ksr]; exact q_inWr rfl h9 k9)) (fun i9 => hF.j hnm (by rw [knm]; rfl))
                  obtain ⟨x1161, ex1161⟩ : ∃ zz, q_is (q_z f1077 mo 8) zz := ⟨_, q_isr _⟩
                  obtain ⟨lx1161, ux1161⟩ := q_isb ex1161 ⟨lz1149, uz1149⟩
                  obtain ⟨x1162, ex1162⟩ : ∃ zz, q_is (q_z f1077 mo 5) zz := ⟨_, q_isr _⟩
                  obtain ⟨lx1162, ux1162⟩ := q_isb ex1162 (q_fib hB.2.1 hmo kmo (by decide) rfl)
                  obtain ⟨x1163, ex1163⟩ : ∃ zz, q_is (q_z f1077 mo 9) zz := ⟨_, q_isr _⟩
                  obtain ⟨lx1163, ux1163⟩ := q_isb ex1163 (q_fib hB.2.1 hmo kmo (by decide) rfl)
                  obtain ⟨-, l0x1162, u0x1162, -, -⟩ := tk_tr_n g1151 ex1162
                  refine q_sast cx hB hsr ksr (by decide) (by decide) ⟨by omega, by omega⟩ rfl dX12_statement_86 (fun H locs f1164 ef1164 z1165 hB => ?_)
                  have z1166 : q_is (q_z f1164 mo 3) tn := by rw [ef1164, q_setz (Or.inr (by decide))]; exact z1152
                  have z1167 : q_is (q_z f1164 sr 5) y1010 := by rw [ef1164, q_setz (Or.inr (by decide))]; exact z1153
                  have z1168 : q_is (q_z f1164 sr 6) y1043 := by rw [ef1164, q_setz (Or.inr (by decide))]; exact z1154
                  have z1169 : q_is (q_z f1164 mo 8) x1161 := by rw [ef1164, q_setz (Or.inr (by decide))]; exact ex1161
                  have z1170 : q_is (q_z f1164 mo 5) x1162 := by rw [ef1164, q_setz (Or.inr (by decide))]; exact ex1162
                  have z1171 : q_is (q_z f1164 mo 9) x1163 := by rw [ef1164, q_setz (Or.inr (by decide))]; exact ex1163
                  have z1172 : q_ir (q_r f1164 mo 13) sr := by rw [ef1164, q_setr (Or.inr (by decide))]; exact z1155
                  have z1173 : q_ir (q_r f1164 mo 18) nm := by rw [ef1164, q_setr (Or.inr (by decide))]; exact z1156
                  have z1174 : q_ir (q_r f1164 mo 1) bu := by rw [ef1164, q_setr (Or.inr (by decide))]; exact z1157
                  have g1175 : tk_ub f1164 bu B tn := tk_ub_tr g1159 (fun i9 => by rw [ef1164, q_setz (Or.inl (fun q => by rw [q, ksr] at kbu; exact absurd kbu (by decide)))])
                  have g1176 : tk_tm f1164 mo sr nm (tk_sc tA) := tk_tm_tr g1160 (by rw [ef1164, q_setz (Or.inr (by decide))]) (fun i9 h9 k9 => by rw [ef1164, q_setz (Or.inr (by omega))]) (fun i9 h9 k9 => by rw [ef1164, q_setz (Or.inr (by omega))]) (fun i9 => by rw [ef1164, q_setj (Or.inl (fun q => by rw [q, ksr] at knm; exact absurd knm (by decide)))])
                  have g1177 : tk_tr f1164 mo B tn := tk_tr_tr g1151 (by rw [ef1164, q_setz (Or.inr (by decide))]) (by rw [ef1164, q_setz (Or.inr (by decide))]) (by rw [ef1164, q_setz (Or.inr (by decide))]) (by rw [ef1164, q_setz (Or.inl (fun q => by rw [q, ksr] at kmo; exact absurd kmo (by decide)))]) (by rw [ef1164, q_setj (Or.inr (by decide))])
                  refine lv_goto (tgt := 161) cx.1 cx.2.1 dX12_statement_87 (by decide) ?_
                  refine q_ald_n cx dX12_statement_161 rfl (lv_at hl 0 rfl) ?_
                  refine q_bipush cx dX12_statement_162 rfl ?_
                  refine q_cVv (As := [.int (q_i 59)]) (rest := []) cx hB (fun _ h => h) hN hmo kmo (by decide) rfl (r_mustSign1 l g hN hB.2.1 mo hmo kmo 59 (by decide) (by decide) x1161 (by omega) (by omega) z1169) q_cX12_241 q_dX12_mustSign (by decide) rfl rfl hl.1 rfl (Nat.le_of_ble_eq_true rfl) dX12_statement_164 (fun H locs f1178 h1180 hF hB => ?_)
                  obtain rfl := h1180
                  refine q_vret cx hr hlk hB dX12_statement_167 ?_
                  exact (Or.inr ⟨(q_isl z1169 (by omega)), (q_isu z1169 (by omega)), (tk_erp (tk_stm_e1 (Eq.trans (tk_st_2 t980 t988) (tk_costs_e3 t997 (Eq.trans (Eq.symm ex1007) t998) (tk_okx t1016 ex1027) (tk_okx t1049 ex1061) (tk_erx t1150 ex1161 ex1163)))) z1169 z1171), g1177⟩)
              · obtain ⟨lz1181, uz1181, t1182, g1183⟩ := h1046
                have z1184 : q_is (q_z f1042 mo 3) tn := Eq.trans (hF.z hmo (by rw [kmo]; rfl)) z1030
                have z1185 : q_is (q_z f1042 sr 5) y1010 := Eq.trans (hF.z hsr (by rw [ksr]; rfl)) z1029
                have z1186 : q_ir (q_r f1042 mo 13) sr := Eq.trans (hF.r hmo (by rw [kmo]; rfl)) z1034
                have z1187 : q_ir (q_r f1042 mo 18) nm := Eq.trans (hF.r hmo (by rw [kmo]; rfl)) z1035
                have z1188 : q_ir (q_r f1042 mo 1) bu := Eq.trans (hF.r hmo (by rw [kmo]; rfl)) z1036
                have g1189 : q_gr f1042 sr := q_gr_fr g1037 (fun i9 _ => hF.z hsr (by rw [ksr]; rfl))
                have g1190 : tk_ub f1042 bu B tn := tk_ub_tr g1038 (fun i9 => hF.z hbu (by rw [kbu]; rfl))
                have g1191 : tk_tm f1042 mo sr nm (tk_sc tA) := tk_tm_tr g1039 (hF.z hmo (by rw [kmo]; rfl)) (fun i9 h9 k9 => hF.z hsr (by rw [ksr]; exact q_inWr rfl h9 k9)) (fun i9 h9 k9 => hF.z hsr (by rw [ksr]; exact q_inWr rfl h9 k9)) (fun i9 => hF.j hnm (by rw [knm]; rfl))
                obtain ⟨x1192, ex1192⟩ : ∃ zz, q_is (q_z f1042 mo 8) zz := ⟨_, q_isr _⟩
                obtain ⟨lx1192, ux1192⟩ := q_isb ex1192 ⟨lz1181, uz1181⟩
                obtain ⟨x1193, ex1193⟩ : ∃ zz, q_is (q_z f1042 mo 5) zz := ⟨_, q_isr _⟩
                obtain ⟨lx1193, ux1193⟩ := q_isb ex1193 (q_fib hB.2.1 hmo kmo (by decide) rfl)
                obtain ⟨x1194, ex1194⟩ : ∃ zz, q_is (q_z f1042 mo 9) zz := ⟨_, q_isr _⟩
                obtain ⟨lx1194, ux1194⟩ := q_isb ex1194 (q_fib hB.2.1 hmo kmo (by decide) rfl)
                obtain ⟨-, l0x1193, u0x1193, -, -⟩ := tk_tr_n g1183 ex1193
                refine q_sast cx hB hsr ksr (by decide) (by decide) ⟨by omega, by omega⟩ rfl dX12_statement_72 (fun H locs f1195 ef1195 z1196 hB => ?_)
                have z1197 : q_is (q_z f1195 mo 3) tn := by rw [ef1195, q_setz (Or.inr (by decide))]; exact z1184
                have z1198 : q_is (q_z f1195 sr 5) y1010 := by rw [ef1195, q_setz (Or.inr (by decide))]; exact z1185
                have z1199 : q_is (q_z f1195 mo 8) x1192 := by rw [ef1195, q_setz (Or.inr (by decide))]; exact ex1192
                have z1200 : q_is (q_z f1195 mo 5) x1193 := by rw [ef1195, q_setz (Or.inr (by decide))]; exact ex1193
                have z1201 : q_is (q_z f1195 mo 9) x1194 := by rw [ef1195, q_setz (Or.inr (by decide))]; exact ex1194
                have z1202 : q_ir (q_r f1195 mo 13) sr := by rw [ef1195, q_setr (Or.inr (by decide))]; exact z1186
                have z1203 : q_ir (q_r f1195 mo 18) nm := by rw [ef1195, q_setr (Or.inr (by decide))]; exact z1187
                have z1204 : q_ir (q_r f1195 mo 1) bu := by rw [ef1195, q_setr (Or.inr (by decide))]; exact z1188
                have g1205 : tk_ub f1195 bu B tn := tk_ub_tr g1190 (fun i9 => by rw [ef1195, q_setz (Or.inl (fun q => by rw [q, ksr] at kbu; exact absurd kbu (by decide)))])
                have g1206 : tk_tm f1195 mo sr nm (tk_sc tA) := tk_tm_tr g1191 (by rw [ef1195, q_setz (Or.inr (by decide))]) (fun i9 h9 k9 => by rw [ef1195, q_setz (Or.inr (by omega))]) (fun i9 h9 k9 => by rw [ef1195, q_setz (Or.inr (by omega))]) (fun i9 => by rw [ef1195, q_setj (Or.inl (fun q => by rw [q, ksr] at knm; exact absurd knm (by decide)))])
                have g1207 : tk_tr f1195 mo B tn := tk_tr_tr g1183 (by rw [ef1195, q_setz (Or.inr (by decide))]) (by rw [ef1195, q_setz (Or.inr (by decide))]) (by rw [ef1195, q_setz (Or.inl (fun q => by rw [q, ksr] at kmo; exact absurd kmo (by decide)))]) (by rw [ef1195, q_setz (Or.inr (by decide))]) (by rw [ef1195, q_setj (Or.inr (by decide))])
                refine q_ald_n cx dX12_statement_73 rfl (lv_at hl 0 rfl) ?_
                refine q_gX12_20 cx hB hmo kmo z1202 dX12_statement_74 (fun hb1208 kb1208 => ?_)
                refine q_bipush cx dX12_statement_77 rfl ?_
                refine q_ald_n cx dX12_statement_79 rfl (lv_at hl 0 rfl) ?_
                refine q_iconst cx dX12_statement_80 ?_
                refine q_bipush cx dX12_statement_81 rfl ?_
                refine q_cVi (As := [.int (q_i 0), .int (q_i 99)]) (rest := [.int (q_i 7), .ref sr]) cx hB (fun _ h => h) hN hmo kmo (by decide) rfl (r_number1 l g hN hB.2.1 mo hmo kmo 0 (by decide) (by decide) 99 (by decide) (by decide) x1192 (by omega) (by omega) z1199) q_cX12_193 q_dX12_number (by decide) rfl rfl hl.1 rfl (Nat.le_of_ble_eq_true rfl) dX12_statement_83 (fun y1210 H locs f1209 ry1210 h1211 hF hB => ?_)
                obtain rfl := h1211
                refine q_sast cx hB hsr ksr (by decide) (by decide) ⟨by omega, by omega⟩ rfl dX12_statement_86 (fun H locs f1212 ef1212 z1213 hB => ?_)
                have z1214 : q_is (q_z f1212 mo 3) tn := by rw [ef1212, q_setz (Or.inr (by decide))]; exact z1197
                have z1215 : q_is (q_z f1212 sr 5) y1010 := by rw [ef1212, q_setz (Or.inr (by decide))]; exact z1198
                have z1216 : q_is (q_z f1212 mo 8) x1192 := by rw [ef1212, q_setz (Or.inr (by decide))]; exact z1199
                have z1217 : q_is (q_z f1212 mo 5) x1193 := by rw [ef1212, q_setz (Or.inr (by decide))]; exact z1200
                have z1218 : q_is (q_z f1212 mo 9) x1194 := by rw [ef1212, q_setz (Or.inr (by decide))]; exact z1201
                have z1219 : q_is (q_z f1212 sr 6) y1043 := by rw [ef1212, q_setz (Or.inr (by decide))]; exact z1196
                have z1220 : q_ir (q_r f1212 mo 13) sr := by rw [ef1212, q_setr (Or.inr (by decide))]; exact z1202
                have z1221 : q_ir (q_r f1212 mo 18) nm := by rw [ef1212, q_setr (Or.inr (by decide))]; exact z1203
                have z1222 : q_ir (q_r f1212 mo 1) bu := by rw [ef1212, q_setr (Or.inr (by decide))]; exact z1204
                have g1223 : tk_ub f1212 bu B tn := tk_ub_tr g1205 (fun i9 => by rw [ef1212, q_setz (Or.inl (fun q => by rw [q, ksr] at kbu; exact absurd kbu (by decide)))])
                have g1224 : tk_tm f1212 mo sr nm (tk_sc tA) := tk_tm_tr g1206 (by rw [ef1212, q_setz (Or.inr (by decide))]) (fun i9 h9 k9 => by rw [ef1212, q_setz (Or.inr (by omega))]) (fun i9 h9 k9 => by rw [ef1212, q_setz (Or.inr (by omega))]) (fun i9 => by rw [ef1212, q_setj (Or.inl (fun q => by rw [q, ksr] at knm; exact absurd knm (by decide)))])
                have g1225 : tk_tr f1212 mo B tn := tk_tr_tr g1207 (by rw [ef1212, q_setz (Or.inr (by decide))]) (by rw [ef1212, q_setz (Or.inr (by decide))]) (by rw [ef1212, q_setz (Or.inr (by decide))]) (by rw [ef1212, q_setz (Or.inl (fun q => by rw [q, ksr] at kmo; exact absurd kmo (by decide)))]) (by rw [ef1212, q_setj (Or.inr (by decide))])
                refine lv_goto (tgt := 161) cx.1 cx.2.1 dX12_statement_87 (by decide) ?_
                refine q_ald_n cx dX12_statement_161 rfl (lv_at hl 0 rfl) ?_
                refine q_bipush cx dX12_statement_162 rfl ?_
                refine q_cVv (As := [.int (q_i 59)]) (rest := []) cx hB (fun _ h => h) hN hmo kmo (by decide) rfl (r_mustSign1 l g hN hB.2.1 mo hmo kmo 59 (by decide) (by decide) x1192 (by omega) (by omega) z1216) q_cX12_241 q_dX12_mustSign (by decide) rfl rfl hl.1 rfl (Nat.le_of_ble_eq_true rfl) dX12_statement_164 (fun H locs f1226 h1228 hF hB => ?_)
                obtain rfl := h1228
                refine q_vret cx hr hlk hB dX12_statement_167 ?_
                exact (Or.inr ⟨(q_isl z1216 (by omega)), (q_isu z1216 (by omega)), (tk_erp (tk_stm_e1 (Eq.trans (tk_st_2 t980 t988) (tk_costs_e2 t997 (Eq.trans (Eq.symm ex1007) t998) (tk_okx t1016 ex1027) (tk_erx t1182 ex1192 ex1194)))) z1216 z1218), g1225⟩)
            · obtain ⟨lz1229, uz1229, t1230, g1231⟩ := h1013
              have z1232 : q_is (q_z f1009 mo 3) tn := Eq.trans (hF.z hmo (by rw [kmo]; rfl)) z1001
              have z1233 : q_ir (q_r f1009 mo 13) sr := Eq.trans (hF.r hmo (by rw [kmo]; rfl)) z1002
              have z1234 : q_ir (q_r f1009 mo 18) nm := Eq.trans (hF.r hmo (by rw [kmo]; rfl)) z1003
              have z1235 : q_ir (q_r f1009 mo 1) bu := Eq.trans (hF.r hmo (by rw [kmo]; rfl)) z1004
              have g1236 : q_gr f1009 sr := q_gr_fr g1005 (fun i9 _ => hF.z hsr (by rw [ksr]; rfl))
              have g1237 : tk_ub f1009 bu B tn := tk_ub_tr g1006 (fun i9 => hF.z hbu (by rw [kbu]; rfl))
              have g1238 : tk_tm f1009 mo sr nm (tk_sc tA) := tk_tm_tr t999 (hF.z hmo (by rw [kmo]; rfl)) (fun i9 h9 k9 => hF.z hsr (by rw [ksr]; exact q_inWr rfl h9 k9)) (fun i9 h9 k9 => hF.z hsr (by rw [ksr]; exact q_inWr rfl h9 k9)) (fun i9 => hF.j hnm (by rw [knm]; rfl))
              obtain ⟨x1239, ex1239⟩ : ∃ zz, q_is (q_z f1009 mo 8) zz := ⟨_, q_isr _⟩
              obtain ⟨lx1239, ux1239⟩ := q_isb ex1239 ⟨lz1229, uz1229⟩
              obtain ⟨x1240, ex1240⟩ : ∃ zz, q_is (q_z f1009 mo 5) zz := ⟨_, q_isr _⟩
              obtain ⟨lx1240, ux1240⟩ := q_isb ex1240 (q_fib hB.2.1 hmo kmo (by decide) rfl)
              obtain ⟨x1241, ex1241⟩ : ∃ zz, q_is (q_z f1009 mo 9) zz := ⟨_, q_isr _⟩
              obtain ⟨lx1241, ux1241⟩ := q_isb ex1241 (q_fib hB.2.1 hmo kmo (by decide) rfl)
              obtain ⟨-, l0x1240, u0x1240, -, -⟩ := tk_tr_n g1231 ex1240
              refine q_sast cx hB hsr ksr (by decide) (by decide) ⟨by omega, by omega⟩ rfl dX12_statement_58 (fun H locs f1242 ef1242 z1243 hB => ?_)
              have z1244 : q_is (q_z f1242 mo 3) tn := by rw [ef1242, q_setz (Or.inr (by decide))]; exact z1232
              have z1245 : q_is (q_z f1242 mo 8) x1239 := by rw [ef1242, q_setz (Or.inr (by decide))]; exact ex1239
              have z1246 : q_is (q_z f1242 mo 5) x1240 := by rw [ef1242, q_setz (Or.inl (fun q => by rw [q, ksr] at kmo; exact absurd kmo (by decide)))]; exact ex1240
              have z1247 : q_is (q_z f1242 mo 9) x1241 := by rw [ef1242, q_setz (Or.inr (by decide))]; exact ex1241
              have z1248 : q_ir (q_r f1242 mo 13) sr := by rw [ef1242, q_setr (Or.inr (by decide))]; exact z1233
              have z1249 : q_ir (q_r f1242 mo 18) nm := by rw [ef1242, q_setr (Or.inr (by decide))]; exact z1234
              have z1250 : q_ir (q_r f1242 mo 1) bu := by rw [ef1242, q_setr (Or.inr (by decide))]; exact z1235
              have g1251 : tk_ub f1242 bu B tn := tk_ub_tr g1237 (fun i9 => by rw [ef1242, q_setz (Or.inl (fun q => by rw [q, ksr] at kbu; exact absurd kbu (by decide)))])
              have g1252 : tk_tm f1242 mo sr nm (tk_sc tA) := tk_tm_tr g1238 (by rw [ef1242, q_setz (Or.inr (by decide))]) (fun i9 h9 k9 => by rw [ef1242, q_setz (Or.inr (by omega))]) (fun i9 h9 k9 => by rw [ef1242, q_setz (Or.inr (by omega))]) (fun i9 => by rw [ef1242, q_setj (Or.inl (fun q => by rw [q, ksr] at knm; exact absurd knm (by decide)))])
              have g1253 : tk_tr f1242 mo B tn := tk_tr_tr g1231 (by rw [ef1242, q_setz (Or.inl (fun q => by rw [q, ksr] at kmo; exact absurd kmo (by decide)))]) (by rw [ef1242, q_setz (Or.inr (by decide))]) (by rw [ef1242, q_setz (Or.inr (by decide))]) (by rw [ef1242, q_setz (Or.inr (by decide))]) (by rw [ef1242, q_setj (Or.inr (by decide))])
              refine q_ald_n cx dX12_statement_59 rfl (lv_at hl 0 rfl) ?_
              refine q_gX12_20 cx hB hmo kmo z1248 dX12_statement_60 (fun hb1254 kb1254 => ?_)
              refine q_bipush cx dX12_statement_63 rfl ?_
              refine q_ald_n cx dX12_statement_65 rfl (lv_at hl 0 rfl) ?_
              refine q_iconst cx dX12_statement_66 ?_
              refine q_bipush cx dX12_statement_67 rfl ?_
              refine q_cVi (As := [.int (q_i 0), .int (q_i 99)]) (rest := [.int (q_i 6), .ref sr]) cx hB (fun _ h => h) hN hmo kmo (by decide) rfl (r_number1 l g hN hB.2.1 mo hmo kmo 0 (by decide) (by decide) 99 (by decide) (by decide) x1239 (by omega) (by omega) z1245) q_cX12_193 q_dX12_number (by decide) rfl rfl hl.1 rfl (Nat.le_of_ble_eq_true rfl) dX12_statement_69 (fun y1256 H locs f1255 ry1256 h1257 hF hB => ?_)
              obtain rfl := h1257
              refine q_sast cx hB hsr ksr (by decide) (by decide) ⟨by omega, by omega⟩ rfl dX12_statement_72 (fun H locs f1258 ef1258 z1259 hB => ?_)
              have z1260 : q_is (q_z f1258 mo 3) tn := by rw [ef1258, q_setz (Or.inr (by decide))]; exact z1244
              have z1261 : q_is (q_z f1258 mo 8) x1239 := by rw [ef1258, q_setz (Or.inr (by decide))]; exact z1245
              have z1262 : q_is (q_z f1258 mo 5) x1240 := by rw [ef1258, q_setz (Or.inr (by decide))]; exact z1246
              have z1263 : q_is (q_z f1258 mo 9) x1241 := by rw [ef1258, q_setz (Or.inr (by decide))]; exact z1247
              have z1264 : q_is (q_z f1258 sr 5) y1010 := by rw [ef1258, q_setz (Or.inr (by decide))]; exact z1243
              have z1265 : q_ir (q_r f1258 mo 13) sr := by rw [ef1258, q_setr (Or.inr (by decide))]; exact z1248
              have z1266 : q_ir (q_r f1258 mo 18) nm := by rw [ef1258, q_setr (Or.inr (by decide))]; exact z1249
              have z1267 : q_ir (q_r f1258 mo 1) bu := by rw [ef1258, q_setr (Or.inr (by decide))]; exact z1250
              have g1268 : tk_ub f1258 bu B tn := tk_ub_tr g1251 (fun i9 => by rw [ef1258, q_setz (Or.inl (fun q => by rw [q, ksr] at kbu; exact absurd kbu (by decide)))])
              have g1269 : tk_tm f1258 mo sr nm (tk_sc tA) := tk_tm_tr g1252 (by rw [ef1258, q_setz (Or.inr (by decide))]) (fun i9 h9 k9 => by rw [ef1258, q_setz (Or.inr (by omega))]) (fun i9 h9 k9 => by rw [ef1258, q_setz (Or.inr (by omega))]) (fun i9 => by rw [ef1258, q_setj (Or.inl (fun q => by rw [q, ksr] at knm; exact absurd knm (by decide)))])
              have g1270 : tk_tr f1258 mo B tn := tk_tr_tr g1253 (by rw [ef1258, q_setz (Or.inr (by decide))]) (by rw [ef1258, q_setz (Or.inr (by decide))]) (by rw [ef1258, q_setz (Or.inl (fun q => by rw [q, ksr] at kmo; exact absurd kmo (by decide)))]) (by rw [ef1258, q_setz (Or.inr (by decide))]) (by rw [ef1258, q_setj (Or.inr (by decide))])
              refine q_ald_n cx dX12_statement_73 rfl (lv_at hl 0 rfl) ?_
              refine q_gX12_20 cx hB hmo kmo z1265 dX12_statement_74 (fun hb1271 kb1271 => ?_)
              refine q_bipush cx dX12_statement_77 rfl ?_
              refine q_ald_n cx dX12_statement_79 rfl (lv_at hl 0 rfl) ?_
              refine q_iconst cx dX12_statement_80 ?_
              refine q_bipush cx dX12_statement_81 rfl ?_
              refine q_cVi (As := [.int (q_i 0), .int (q_i 99)]) (rest := [.int (q_i 7), .ref sr]) cx hB (fun _ h => h) hN hmo kmo (by decide) rfl (r_number1 l g hN hB.2.1 mo hmo kmo 0 (by decide) (by decide) 99 (by decide) (by decide) x1239 (by omega) (by omega) z1261) q_cX12_193 q_dX12_number (by decide) rfl rfl hl.1 rfl (Nat.le_of_ble_eq_true rfl) dX12_statement_83 (fun y1273 H locs f1272 ry1273 h1274 hF hB => ?_)
              obtain rfl := h1274
              refine q_sast cx hB hsr ksr (by decide) (by decide) ⟨by omega, by omega⟩ rfl dX12_statement_86 (fun H locs f1275 ef1275 z1276 hB => ?_)
              have z1277 : q_is (q_z f1275 mo 3) tn := by rw [ef1275, q_setz (Or.inr (by decide))]; exact z1260
              have z1278 : q_is (q_z f1275 mo 8) x1239 := by rw [ef1275, q_setz (Or.inr (by decide))]; exact z1261
              have z1279 : q_is (q_z f1275 mo 5) x1240 := by rw [ef1275, q_setz (Or.inr (by decide))]; exact z1262
              have z1280 : q_is (q_z f1275 mo 9) x1241 := by rw [ef1275, q_setz (Or.inr (by decide))]; exact z1263
              have z1281 : q_is (q_z f1275 sr 5) y1010 := by rw [ef1275, q_setz (Or.inr (by decide))]; exact z1264
              have z1282 : q_is (q_z f1275 sr 6) y1256 := by rw [ef1275, q_setz (Or.inr (by decide))]; exact z1259
              have z1283 : q_ir (q_r f1275 mo 13) sr := by rw [ef1275, q_setr (Or.inr (by decide))]; exact z1265
              have z1284 : q_ir (q_r f1275 mo 18) nm := by rw [ef1275, q_setr (Or.inr (by decide))]; exact z1266
              have z1285 : q_ir (q_r f1275 mo 1) bu := by rw [ef1275, q_setr (Or.inr (by decide))]; exact z1267
              have g1286 : tk_ub f1275 bu B tn := tk_ub_tr g1268 (fun i9 => by rw [ef1275, q_setz (Or.inl (fun q => by rw [q, ksr] at kbu; exact absurd kbu (by decide)))])
              have g1287 : tk_tm f1275 mo sr nm (tk_sc tA) := tk_tm_tr g1269 (by rw [ef1275, q_setz (Or.inr (by decide))]) (fun i9 h9 k9 => by rw [ef1275, q_setz (Or.inr (by omega))]) (fun i9 h9 k9 => by rw [ef1275, q_setz (Or.inr (by omega))]) (fun i9 => by rw [ef1275, q_setj (Or.inl (fun q => by rw [q, ksr] at knm; exact absurd knm (by decide)))])
              have g1288 : tk_tr f1275 mo B tn := tk_tr_tr g1270 (by rw [ef1275, q_setz (Or.inr (by decide))]) (by rw [ef1275, q_setz (Or.inr (by decide))]) (by rw [ef1275, q_setz (Or.inr (by decide))]) (by rw [ef1275, q_setz (Or.inl (fun q => by rw [q, ksr] at kmo; exact absurd kmo (by decide)))]) (by rw [ef1275, q_setj (Or.inr (by decide))])
              refine lv_goto (tgt := 161) cx.1 cx.2.1 dX12_statement_87 (by decide) ?_
              refine q_ald_n cx dX12_statement_161 rfl (lv_at hl 0 rfl) ?_
              refine q_bipush cx dX12_statement_162 rfl ?_
              refine q_cVv (As := [.int (q_i 59)]) (rest := []) cx hB (fun _ h => h) hN hmo kmo (by decide) rfl (r_mustSign1 l g hN hB.2.1 mo hmo kmo 59 (by decide) (by decide) x1239 (by omega) (by omega) z1278) q_cX12_241 q_dX12_mustSign (by decide) rfl rfl hl.1 rfl (Nat.le_of_ble_eq_true rfl) dX12_statement_164 (fun H locs f1289 h1291 hF hB => ?_)
              obtain rfl := h1291
              refine q_vret cx hr hlk hB dX12_statement_167 ?_
              exact (Or.inr ⟨(q_isl z1278 (by omega)), (q_isu z1278 (by omega)), (tk_erp (tk_stm_e1 (Eq.trans (tk_st_2 t980 t988) (tk_costs_e1 t997 (Eq.trans (Eq.symm ex1007) t998)  (tk_erx t1230 ex1239 ex1241)))) z1278 z1280), g1288⟩)
          · obtain ⟨z1292, z1293, t1294, g1295⟩ := h994
            have z1296 : q_is (q_z f990 mo 3) tn := Eq.trans (hF.z hmo (by rw [kmo]; rfl)) hf0
            have z1297 : q_ir (q_r f990 mo 13) sr := Eq.trans (hF.r hmo (by rw [kmo]; rfl)) hr0
            have z1298 : q_ir (q_r f990 mo 18) nm := Eq.trans (hF.r hmo (by rw [kmo]; rfl)) hr1
            have z1299 : q_ir (q_r f990 mo 1) bu := Eq.trans (hF.r hmo (by rw [kmo]; rfl)) hr2
            have g1300 : q_gr f990 sr := q_gr_fr hgr (fun i9 _ => hF.z hsr (by rw [ksr]; rfl))
            have g1301 : tk_ub f990 bu B tn := tk_ub_tr hub (fun i9 => hF.z hbu (by rw [kbu]; rfl))
            obtain ⟨x1302, ex1302⟩ : ∃ zz, q_is (q_z f990 mo 5) zz := ⟨_, q_isr _⟩
            obtain ⟨lx1302, ux1302⟩ := q_isb ex1302 (q_fib hB.2.1 hmo kmo (by decide) rfl)
            obtain ⟨-, l0x1302, u0x1302, -, -⟩ := tk_tr_n g1295 ex1302
            refine q_ald_n cx dX12_statement_46 rfl (lv_at hl 0 rfl) ?_
            refine q_gX12_20 cx hB hmo kmo z1297 dX12_statement_47 (fun hb1303 kb1303 => ?_)
            refine q_iconst cx dX12_statement_50 ?_
            refine q_ald_n cx dX12_statement_51 rfl (lv_at hl 0 rfl) ?_
            refine q_iconst cx dX12_statement_52 ?_
            refine q_bipush cx dX12_statement_53 rfl ?_
            refine q_cVi (As := [.int (q_i 0), .int (q_i 99)]) (rest := [.int (q_i 5), .ref sr]) cx hB (fun _ h => h) hN hmo kmo (by decide) rfl (r_number1 l g hN hB.2.1 mo hmo kmo 0 (by decide) (by decide) 99 (by decide) (by decide) 3 (by decide) (by decide) z1292) q_cX12_193 q_dX12_number (by decide) rfl rfl hl.1 rfl (Nat.le_of_ble_eq_true rfl) dX12_statement_55 (fun y1305 H locs f1304 ry1305 h1306 hF hB => ?_)
            obtain rfl := h1306
            refine q_sast cx hB hsr ksr (by decide) (by decide) ⟨by omega, by omega⟩ rfl dX12_statement_58 (fun H locs f1307 ef1307 z1308 hB => ?_)
            have z1309 : q_is (q_z f1307 mo 3) tn := by rw [ef1307, q_setz (Or.inr (by decide))]; exact z1296
            have z1310 : q_is (q_z f1307 mo 8) 3 := by rw [ef1307, q_setz (Or.inr (by decide))]; exact z1292
            have z1311 : q_is (q_z f1307 mo 9) ss := by rw [ef1307, q_setz (Or.inr (by decide))]; exact z1293
            have z1312 : q_is (q_z f1307 mo 5) x1302 := by rw [ef1307, q_setz (Or.inl (fun q => by rw [q, ksr] at kmo; exact absurd kmo (by decide)))]; exact ex1302
            have z1313 : q_ir (q_r f1307 mo 13) sr := by rw [ef1307, q_setr (Or.inr (by decide))]; exact z1297
            have z1314 : q_ir (q_r f1307 mo 18) nm := by rw [ef1307, q_setr (Or.inr (by decide))]; exact z1298
            have z1315 : q_ir (q_r f1307 mo 1) bu := by rw [ef1307, q_setr (Or.inr (by decide))]; exact z1299
            have g1316 : tk_ub f1307 bu B tn := tk_ub_tr g1301 (fun i9 => by rw [ef1307, q_setz (Or.inl (fun q => by rw [q, ksr] at kbu; exact absurd kbu (by decide)))])
            have g1317 : tk_tr f1307 mo B tn := tk_tr_tr g1295 (by rw [ef1307, q_setz (Or.inl (fun q => by rw [q, ksr] at kmo; exact absurd kmo (by decide)))]) (by rw [ef1307, q_setz (Or.inr (by decide))]) (by rw [ef1307, q_setz (Or.inr (by decide))]) (by rw [ef1307, q_setz (Or.inr (by decide))]) (by rw [ef1307, q_setj (Or.inr (by decide))])
            refine q_ald_n cx dX12_statement_59 rfl (lv_at hl 0 rfl) ?_
            refine q_gX12_20 cx hB hmo kmo z1313 dX12_statement_60 (fun hb1318 kb1318 => ?_)
            refine q_bipush cx dX12_statement_63 rfl ?_
            refine q_ald_n cx dX12_statement_65 rfl (lv_at hl 0 rfl) ?_
            refine q_iconst cx dX12_statement_66 ?_
            refine q_bipush cx dX12_statement_67 rfl ?_
            refine q_cVi (As := [.int (q_i 0), .int (q_i 99)]) (rest := [.int (q_i 6), .ref sr]) cx hB (fun _ h => h) hN hmo kmo (by decide) rfl (r_number1 l g hN hB.2.1 mo hmo kmo 0 (by decide) (by decide) 99 (by decide) (by decide) 3 (by decide) (by decide) z1310) q_cX12_193 q_dX12_number (by decide) rfl rfl hl.1 rfl (Nat.le_of_ble_eq_true rfl) dX12_statement_69 (fun y1320 H locs f1319 ry1320 h1321 hF hB => ?_)
            obtain rfl := h1321
            refine q_sast cx hB hsr ksr (by decide) (by decide) ⟨by omega, by omega⟩ rfl dX12_statement_72 (fun H locs f1322 ef1322 z1323 hB => ?_)
            have z1324 : q_is (q_z f1322 mo 3) tn := by rw [ef1322, q_setz (Or.inr (by decide))]; exact z1309
            have z1325 : q_is (q_z f1322 mo 8) 3 := by rw [ef1322, q_setz (Or.inr (by decide))]; exact z1310
            have z1326 : q_is (q_z f1322 mo 9) ss := by rw [ef1322, q_setz (Or.inr (by decide))]; exact z1311
            have z1327 : q_is (q_z f1322 mo 5) x1302 := by rw [ef1322, q_setz (Or.inr (by decide))]; exact z1312
            have z1328 : q_is (q_z f1322 sr 5) y1305 := by rw [ef1322, q_setz (Or.inr (by decide))]; exact z1308
            have z1329 : q_ir (q_r f1322 mo 13) sr := by rw [ef1322, q_setr (Or.inr (by decide))]; exact z1313
            have z1330 : q_ir (q_r f1322 mo 18) nm := by rw [ef1322, q_setr (Or.inr (by decide))]; exact z1314
            have z1331 : q_ir (q_r f1322 mo 1) bu := by rw [ef1322, q_setr (Or.inr (by decide))]; exact z1315
            have g1332 : tk_ub f1322 bu B tn := tk_ub_tr g1316 (fun i9 => by rw [ef1322, q_setz (Or.inl (fun q => by rw [q, ksr] at kbu; exact absurd kbu (by decide)))])
            have g1333 : tk_tr f1322 mo B tn := tk_tr_tr g1317 (by rw [ef1322, q_setz (Or.inr (by decide))]) (by rw [ef1322, q_setz (Or.inr (by decide))]) (by rw [ef1322, q_setz (Or.inl (fun q => by rw [q, ksr] at kmo; exact absurd kmo (by decide)))]) (by rw [ef1322, q_setz (Or.inr (by decide))]) (by rw [ef1322, q_setj (Or.inr (by decide))])
            refine q_ald_n cx dX12_statement_73 rfl (lv_at hl 0 rfl) ?_
            refine q_gX12_20 cx hB hmo kmo z1329 dX12_statement_74 (fun hb1334 kb1334 => ?_)
            refine q_bipush cx dX12_statement_77 rfl ?_
            refine q_ald_n cx dX12_statement_79 rfl (lv_at hl 0 rfl) ?_
            refine q_iconst cx dX12_statement_80 ?_
            refine q_bipush cx dX12_statement_81 rfl ?_
            refine q_cVi (As := [.int (q_i 0), .int (q_i 99)]) (rest := [.int (q_i 7), .ref sr]) cx hB (fun _ h => h) hN hmo kmo (by decide) rfl (r_number1 l g hN hB.2.1 mo hmo kmo 0 (by decide) (by decide) 99 (by decide) (by decide) 3 (by decide) (by decide) z1325) q_cX12_193 q_dX12_number (by decide) rfl rfl hl.1 rfl (Nat.le_of_ble_eq_true rfl) dX12_statement_83 (fun y1336 H locs f1335 ry1336 h1337 hF hB => ?_)
            obtain rfl := h1337
            refine q_sast cx hB hsr ksr (by decide) (by decide) ⟨by omega, by omega⟩ rfl dX12_statement_86 (fun H locs f1338 ef1338 z1339 hB => ?_)
            have z1340 : q_is (q_z f1338 mo 3) tn := by rw [ef1338, q_setz (Or.inr (by decide))]; exact z1324
            have z1341 : q_is (q_z f1338 mo 8) 3 := by rw [ef1338, q_setz (Or.inr (by decide))]; exact z1325
            have z1342 : q_is (q_z f1338 mo 9) ss := by rw [ef1338, q_setz (Or.inr (by decide))]; exact z1326
            have z1343 : q_is (q_z f1338 mo 5) x1302 := by rw [ef1338, q_setz (Or.inr (by decide))]; exact z1327
            have z1344 : q_is (q_z f1338 sr 5) y1305 := by rw [ef1338, q_setz (Or.inr (by decide))]; exact z1328
            have z1345 : q_is (q_z f1338 sr 6) y1320 := by rw [ef1338, q_setz (Or.inr (by decide))]; exact z1323
            have z1346 : q_ir (q_r f1338 mo 13) sr := by rw [ef1338, q_setr (Or.inr (by decide))]; exact z1329
            have z1347 : q_ir (q_r f1338 mo 18) nm := by rw [ef1338, q_setr (Or.inr (by decide))]; exact z1330
            have z1348 : q_ir (q_r f1338 mo 1) bu := by rw [ef1338, q_setr (Or.inr (by decide))]; exact z1331
            have g1349 : tk_ub f1338 bu B tn := tk_ub_tr g1332 (fun i9 => by rw [ef1338, q_setz (Or.inl (fun q => by rw [q, ksr] at kbu; exact absurd kbu (by decide)))])
            have g1350 : tk_tr f1338 mo B tn := tk_tr_tr g1333 (by rw [ef1338, q_setz (Or.inr (by decide))]) (by rw [ef1338, q_setz (Or.inr (by decide))]) (by rw [ef1338, q_setz (Or.inr (by decide))]) (by rw [ef1338, q_setz (Or.inl (fun q => by rw [q, ksr] at kmo; exact absurd kmo (by decide)))]) (by rw [ef1338, q_setj (Or.inr (by decide))])
            refine lv_goto (tgt := 161) cx.1 cx.2.1 dX12_statement_87 (by decide) ?_
            refine q_ald_n cx dX12_statement_161 rfl (lv_at hl 0 rfl) ?_
            refine q_bipush cx dX12_statement_162 rfl ?_
            refine q_cVv (As := [.int (q_i 59)]) (rest := []) cx hB (fun _ h => h) hN hmo kmo (by decide) rfl (r_mustSign1 l g hN hB.2.1 mo hmo kmo 59 (by decide) (by decide) 3 (by decide) (by decide) z1341) q_cX12_241 q_dX12_mustSign (by decide) rfl rfl hl.1 rfl (Nat.le_of_ble_eq_true rfl) dX12_statement_164 (fun H locs f1351 h1353 hF hB => ?_)
            obtain rfl := h1353
            refine q_vret cx hr hlk hB dX12_statement_167 ?_
            exact (Or.inr ⟨(q_isl z1341 (by omega)), (q_isu z1341 (by omega)), (tk_stm_e1 (Eq.trans (tk_st_2 t980 t988) (tk_costs_told t1294 z1341 z1342))), g1350⟩)
      · obtain ⟨rfl, qy983, t1354⟩ := h986
        subst qy983
        refine q_ifeq (tgt := 90) cx ⟨by decide, by decide⟩ dX12_statement_38 (by decide) (fun c1355 => ?_) (fun c1355 => ?_)
        · refine q_ald_n cx dX12_statement_90 rfl (lv_at hl 0 rfl) ?_
          refine lv_ldc2 (v := q_l 435827) cx.1 cx.2.1 cx.2.2.2.1 (cx.2.2.2.2 _ q_h1782) dX12_statement_91 ?_
          refine q_cVi (As := [.long (q_l 435827)]) (rest := []) cx hB (fun _ h => h) hN hmo kmo (by decide) rfl (f_misWord l g hN hB.2.1 B tk_wMiss mo hmo kmo (q_l 435827) bu hbu kbu tn (by omega) (by omega) ss (by omega) (by omega) hf0 hf1 hf2 hf3 hr2 (by decide +kernel : (q_l 435827) = tk_mw tk_wMiss) tk_iMiss htr hub) q_cX12_143 q_dX12_isWord (by decide) rfl rfl hl.1 rfl (Nat.le_of_ble_eq_true rfl) dX12_statement_94 (fun y1357 H locs f1356 ry1357 h1358 hF hB => ?_)
          rcases h1358 with h1359 | h1360
          · obtain ⟨rfl, qy1357, z1361, t1362⟩ := h1359
            subst qy1357
            refine q_ifeq (tgt := 122) cx ⟨by decide, by decide⟩ dX12_statement_97 (by decide) (fun c1363 => ?_) (fun c1363 => ?_)
            · exact absurd c1363 (by omega)
            · refine q_ald_n cx dX12_statement_100 rfl (lv_at hl 0 rfl) ?_
              refine q_iconst cx dX12_statement_101 ?_
              refine q_cVv (As := [.int (q_i 2)]) (rest := []) cx hB (fun _ h => h) hN hmo kmo (by decide) rfl (f_monce2 l g hN hB.2.1 B tA mo hmo kmo 2 (by decide) (by decide) sr hsr ksr nm hnm knm bu hbu kbu tn (by omega) (by omega) ss (by omega) (by omega) 1 (by decide) (by decide) hf0 hf1 hf2 hf3 z1361 hr0 hr1 hr2 htr hub htm) q_cX12_224 q_dX12_once (by decide) rfl rfl hl.1 rfl (Nat.le_of_ble_eq_true rfl) dX12_statement_102 (fun H locs f1364 h1366 hF hB => ?_)
              rcases h1366 with h1367 | h1368
              · obtain ⟨z1369, z1370, t1371, t1372, t1373, g1374⟩ := h1367
                have z1375 : q_is (q_z f1364 mo 3) tn := Eq.trans (hF.z hmo (by rw [kmo]; rfl)) hf0
                have z1376 : q_ir (q_r f1364 mo 13) sr := Eq.trans (hF.r hmo (by rw [kmo]; rfl)) hr0
                have z1377 : q_ir (q_r f1364 mo 18) nm := Eq.trans (hF.r hmo (by rw [kmo]; rfl)) hr1
                have z1378 : q_ir (q_r f1364 mo 1) bu := Eq.trans (hF.r hmo (by rw [kmo]; rfl)) hr2
                have g1379 : q_gr f1364 sr := q_gr_fr hgr (fun i9 _ => hF.z hsr (by rw [ksr]; rfl))
                have g1380 : tk_ub f1364 bu B tn := tk_ub_tr hub (fun i9 => hF.z hbu (by rw [kbu]; rfl))
                obtain ⟨x1381, ex1381⟩ : ∃ zz, q_is (q_z f1364 mo 5) zz := ⟨_, q_isr _⟩
                obtain ⟨lx1381, ux1381⟩ := q_isb ex1381 (q_fib hB.2.1 hmo kmo (by decide) rfl)
                obtain ⟨-, l0x1381, u0x1381, -, -⟩ := tk_tr_n g1374 ex1381
                refine q_ald_n cx dX12_statement_105 rfl (lv_at hl 0 rfl) ?_
                refine q_gX12_20 cx hB hmo kmo z1376 dX12_statement_106 (fun hb1382 kb1382 => ?_)
                refine q_bipush cx dX12_statement_109 rfl ?_
                refine q_ald_n cx dX12_statement_111 rfl (lv_at hl 0 rfl) ?_
                refine q_iconst cx dX12_statement_112 ?_
                refine q_bipush cx dX12_statement_113 rfl ?_
                refine q_cVi (As := [.int (q_i 1), .int (q_i 9)]) (rest := [.int (q_i 8), .ref sr]) cx hB (fun _ h => h) hN hmo kmo (by decide) rfl (f_mnumber l g hN hB.2.1 B mo hmo kmo 1 (by decide) (by decide) 9 (by decide) (by decide) bu hbu kbu tn (by omega) (by omega) x1381 (by omega) (by omega) z1375 ex1381 z1369 z1370 z1378 g1374 g1380) q_cX12_193 q_dX12_number (by decide) rfl rfl hl.1 rfl (Nat.le_of_ble_eq_true rfl) dX12_statement_115 (fun y1384 H locs f1383 ry1384 h1385 hF hB => ?_)
                rcases h1385 with h1386 | h1387
                · obtain ⟨z1388, z1389, t1390, t1391, t1392, g1393⟩ := h1386
                  have z1394 : q_is (q_z f1383 mo 3) tn := Eq.trans (hF.z hmo (by rw [kmo]; rfl)) z1375
                  have z1395 : q_ir (q_r f1383 mo 13) sr := Eq.trans (hF.r hmo (by rw [kmo]; rfl)) z1376
                  have z1396 : q_ir (q_r f1383 mo 18) nm := Eq.trans (hF.r hmo (by rw [kmo]; rfl)) z1377
                  have z1397 : q_ir (q_r f1383 mo 1) bu := Eq.trans (hF.r hmo (by rw [kmo]; rfl)) z1378
                  have g1398 : q_gr f1383 sr := q_gr_fr g1379 (fun i9 _ => hF.z hsr (by rw [ksr]; rfl))
                  have g1399 : tk_ub f1383 bu B tn := tk_ub_tr g1380 (fun i9 => hF.z hbu (by rw [kbu]; rfl))
                  have g1400 : tk_tm f1383 mo sr nm (tk_sm tA) := tk_tm_tr t1373 (hF.z hmo (by rw [kmo]; rfl)) (fun i9 h9 k9 => hF.z hsr (by rw [ksr]; exact q_inWr rfl h9 k9)) (fun i9 h9 k9 => hF.z hsr (by rw [ksr]; exact q_inWr rfl h9 k9)) (fun i9 => hF.j hnm (by rw [knm]; rfl))
                  obtain ⟨x1401, ex1401⟩ : ∃ zz, q_is (q_z f1383 mo 5) zz := ⟨_, q_isr _⟩
                  obtain ⟨lx1401, ux1401⟩ := q_isb ex1401 (q_fib hB.2.1 hmo kmo (by decide) rfl)
                  obtain ⟨-, l0x1401, u0x1401, -, -⟩ := tk_tr_n g1393 ex1401
                  refine q_sast cx hB hsr ksr (by decide) (by decide) ⟨by omega, by omega⟩ rfl dX12_statement_118 (fun H locs f1402 ef1402 z1403 hB => ?_)
                  have z1404 : q_is (q_z f1402 mo 3) tn := by rw [ef1402, q_setz (Or.inr (by decide))]; exact z1394
                  have z1405 : q_is (q_z f1402 mo 8) 0 := by rw [ef1402, q_setz (Or.inl (fun q => by rw [q, ksr] at kmo; exact absurd kmo (by decide)))]; exact z1388
                  have z1406 : q_is (q_z f1402 mo 9) (-1) := by rw [ef1402, q_setz (Or.inr (by decide))]; exact z1389
                  have z1407 : q_is (q_z f1402 mo 5) x1401 := by rw [ef1402, q_setz (Or.inr (by decide))]; exact ex1401
                  have z1408 : q_ir (q_r f1402 mo 13) sr := by rw [ef1402, q_setr (Or.inr (by decide))]; exact z1395
                  have z1409 : q_ir (q_r f1402 mo 18) nm := by rw [ef1402, q_setr (Or.inr (by decide))]; exact z1396
                  have z1410 : q_ir (q_r f1402 mo 1) bu := by rw [ef1402, q_setr (Or.inr (by decide))]; exact z1397
                  have g1411 : q_gr f1402 sr := q_gr_put g1398 ef1402 z1403 rfl (by omega) (by omega)
                  have g1412 : tk_ub f1402 bu B tn := tk_ub_tr g1399 (fun i9 => by rw [ef1402, q_setz (Or.inl (fun q => by rw [q, ksr] at kbu; exact absurd kbu (by decide)))])
                  have g1413 : tk_tm f1402 mo sr nm (tk_sm tA) := tk_tm_tr g1400 (by rw [ef1402, q_setz (Or.inr (by decide))]) (fun i9 h9 k9 => by rw [ef1402, q_setz (Or.inr (by omega))]) (fun i9 h9 k9 => by rw [ef1402, q_setz (Or.inr (by omega))]) (fun i9 => by rw [ef1402, q_setj (Or.inl (fun q => by rw [q, ksr] at knm; exact absurd knm (by decide)))])
                  have g1414 : tk_tr f1402 mo B tn := tk_tr_tr g1393 (by rw [ef1402, q_setz (Or.inr (by decide))]) (by rw [ef1402, q_setz (Or.inr (by decide))]) (by rw [ef1402, q_setz (Or.inr (by decide))]) (by rw [ef1402, q_setz (Or.inr (by decide))]) (by rw [ef1402, q_setj (Or.inr (by decide))])
                  refine lv_goto (tgt := 161) cx.1 cx.2.1 dX12_statement_119 (by decide) ?_
                  refine q_ald_n cx dX12_statement_161 rfl (lv_at hl 0 rfl) ?_
                  refine q_bipush cx dX12_statement_162 rfl ?_
                  refine q_cVv (As := [.int (q_i 59)]) (rest := []) cx hB (fun _ h => h) hN hmo kmo (by decide) rfl (f_mmustSign l g hN hB.2.1 B mo hmo kmo 59 (by decide) (by decide) bu hbu kbu tn (by omega) (by omega) x1401 (by omega) (by omega) z1404 z1407 z1405 z1406 z1410 (by omega) g1414 g1412) q_cX12_241 q_dX12_mustSign (by decide) rfl rfl hl.1 rfl (Nat.le_of_ble_eq_true rfl) dX12_statement_164 (fun H locs f1415 h1417 hF hB => ?_)
                  rcases h1417 with h1418 | h1419
                  · obtain ⟨z1420, z1421, t1422, g1423⟩ := h1418
                    have z1424 : q_is (q_z f1415 mo 3) tn := Eq.trans (hF.z hmo (by rw [kmo]; rfl)) z1404
                    have z1425 : q_is (q_z f1415 sr 8) y1384 := Eq.trans (hF.z hsr (by rw [ksr]; rfl)) z1403
                    have z1426 : q_ir (q_r f1415 mo 13) sr := Eq.trans (hF.r hmo (by rw [kmo]; rfl)) z1408
                    have z1427 : q_ir (q_r f1415 mo 18) nm := Eq.trans (hF.r hmo (by rw [kmo]; rfl)) z1409
                    have z1428 : q_ir (q_r f1415 mo 1) bu := Eq.trans (hF.r hmo (by rw [kmo]; rfl)) z1410
                    have g1429 : q_gr f1415 sr := q_gr_fr g1411 (fun i9 _ => hF.z hsr (by rw [ksr]; rfl))
                    have g1430 : tk_ub f1415 bu B tn := tk_ub_tr g1412 (fun i9 => hF.z hbu (by rw [kbu]; rfl))
                    have g1431 : tk_tm f1415 mo sr nm (tk_sm tA) := tk_tm_tr g1413 (hF.z hmo (by rw [kmo]; rfl)) (fun i9 h9 k9 => hF.z hsr (by rw [ksr]; exact q_inWr rfl h9 k9)) (fun i9 h9 k9 => hF.z hsr (by rw [ksr]; exact q_inWr rfl h9 k9)) (fun i9 => hF.j hnm (by rw [knm]; rfl))
                    obtain ⟨x1432, ex1432⟩ : ∃ zz, q_is (q_z f1415 mo 5) zz := ⟨_, q_isr _⟩
                    obtain ⟨lx1432, ux1432⟩ := q_isb ex1432 (q_fib hB.2.1 hmo kmo (by decide) rfl)
                    obtain ⟨-, l0x1432, u0x1432, -, -⟩ := tk_tr_n g1423 ex1432
                    refine q_vret cx hr hlk hB dX12_statement_167 ?_
                    exact (Or.inl ⟨z1420, z1421, ⟨(tk_sm tA), tk_okp (tk_stm_ok (Eq.trans (tk_st_3 t980 t1354 t1362) (tk_miss_ok t1371 (Eq.trans (Eq.symm ex1381) t1372) (tk_okx t1390 ex1401))) (tk_okx t1422 ex1432)) ex1432, g1431⟩, g1429, g1423⟩)
                  · obtain ⟨lz1433, uz1433, t1434, g1435⟩ := h1419
                    have z1436 : q_is (q_z f1415 mo 3) tn := Eq.trans (hF.z hmo (by rw [kmo]; rfl)) z1404
                    have z1437 : q_is (q_z f1415 sr 8) y1384 := Eq.trans (hF.z hsr (by rw [ksr]; rfl)) z1403
                    have z1438 : q_ir (q_r f1415 mo 13) sr := Eq.trans (hF.r hmo (by rw [kmo]; rfl)) z1408
                    have z1439 : q_ir (q_r f1415 mo 18) nm := Eq.trans (hF.r hmo (by rw [kmo]; rfl)) z1409
                    have z1440 : q_ir (q_r f1415 mo 1) bu := Eq.trans (hF.r hmo (by rw [kmo]; rfl)) z1410
                    have g1441 : q_gr f1415 sr := q_gr_fr g1411 (fun i9 _ => hF.z hsr (by rw [ksr]; rfl))
                    have g1442 : tk_ub f1415 bu B tn := tk_ub_tr g1412 (fun i9 => hF.z hbu (by rw [kbu]; rfl))
                    have g1443 : tk_tm f1415 mo sr nm (tk_sm tA) := tk_tm_tr g1413 (hF.z hmo (by rw [kmo]; rfl)) (fun i9 h9 k9 => hF.z hsr (by rw [ksr]; exact q_inWr rfl h9 k9)) (fun i9 h9 k9 => hF.z hsr (by rw [ksr]; exact q_inWr rfl h9 k9)) (fun i9 => hF.j hnm (by rw [knm]; rfl))
                    obtain ⟨x1444, ex1444⟩ : ∃ zz, q_is (q_z f1415 mo 8) zz := ⟨_, q_isr _⟩
                    obtain ⟨lx1444, ux1444⟩ := q_isb ex1444 ⟨lz1433, uz1433⟩
                    obtain ⟨x1445, ex1445⟩ : ∃ zz, q_is (q_z f1415 mo 5) zz := ⟨_, q_isr _⟩
                    obtain ⟨lx1445, ux1445⟩ := q_isb ex1445 (q_fib hB.2.1 hmo kmo (by decide) rfl)
                    obtain ⟨x1446, ex1446⟩ : ∃ zz, q_is (q_z f1415 mo 9) zz := ⟨_, q_isr _⟩
                    obtain ⟨lx1446, ux1446⟩ := q_isb ex1446 (q_fib hB.2.1 hmo kmo (by decide) rfl)
                    obtain ⟨-, l0x1445, u0x1445, -, -⟩ := tk_tr_n g1435 ex1445
                    refine q_vret cx hr hlk hB dX12_statement_167 ?_
                    exact (Or.inr ⟨(q_isl ex1444 (by omega)), (q_isu ex1444 (by omega)), (tk_erp (tk_stm_e2 (Eq.trans (tk_st_3 t980 t1354 t1362) (tk_miss_ok t1371 (Eq.trans (Eq.symm ex1381) t1372) (tk_okx t1390 ex1401))) (tk_erx t1434 ex1444 ex1446)) ex1444 ex1446), g1435⟩)
                · obtain ⟨lz1447, uz1447, t1448, g1449⟩ := h1387
                  have z1450 : q_is (q_z f1383 mo 3) tn := Eq.trans (hF.z hmo (by rw [kmo]; rfl)) z1375
                  have z1451 : q_ir (q_r f1383 mo 13) sr := Eq.trans (hF.r hmo (by rw [kmo]; rfl)) z1376
                  have z1452 : q_ir (q_r f1383 mo 18) nm := Eq.trans (hF.r hmo (by rw [kmo]; rfl)) z1377
                  have z1453 : q_ir (q_r f1383 mo 1) bu := Eq.trans (hF.r hmo (by rw [kmo]; rfl)) z1378
                  have g1454 : q_gr f1383 sr := q_gr_fr g1379 (fun i9 _ => hF.z hsr (by rw [ksr]; rfl))
                  have g1455 : tk_ub f1383 bu B tn := tk_ub_tr g1380 (fun i9 => hF.z hbu (by rw [kbu]; rfl))
                  have g1456 : tk_tm f1383 mo sr nm (tk_sm tA) := tk_tm_tr t1373 (hF.z hmo (by rw [kmo]; rfl)) (fun i9 h9 k9 => hF.z hsr (by rw [ksr]; exact q_inWr rfl h9 k9)) (fun i9 h9 k9 => hF.z hsr (by rw [ksr]; exact q_inWr rfl h9 k9)) (fun i9 => hF.j hnm (by rw [knm]; rfl))
                  obtain ⟨x1457, ex1457⟩ : ∃ zz, q_is (q_z f1383 mo 8) zz := ⟨_, q_isr _⟩
                  obtain ⟨lx1457, ux1457⟩ := q_isb ex1457 ⟨lz1447, uz1447⟩
                  obtain ⟨x1458, ex1458⟩ : ∃ zz, q_is (q_z f1383 mo 5) zz := ⟨_, q_isr _⟩
                  obtain ⟨lx1458, ux1458⟩ := q_isb ex1458 (q_fib hB.2.1 hmo kmo (by decide) rfl)
                  obtain ⟨x1459, ex1459⟩ : ∃ zz, q_is (q_z f1383 mo 9) zz := ⟨_, q_isr _⟩
                  obtain ⟨lx1459, ux1459⟩ := q_isb ex1459 (q_fib hB.2.1 hmo kmo (by decide) rfl)
                  obtain ⟨-, l0x1458, u0x1458, -, -⟩ := tk_tr_n g1449 ex1458
                  refine q_sast cx hB hsr ksr (by decide) (by decide) ⟨by omega, by omega⟩ rfl dX12_statement_118 (fun H locs f1460 ef1460 z1461 hB => ?_)
                  have z1462 : q_is (q_z f1460 mo 3) tn := by rw [ef1460, q_setz (Or.inr (by decide))]; exact z1450
                  have z1463 : q_is (q_z f1460 mo 8) x1457 := by rw [ef1460, q_setz (Or.inl (fun q => by rw [q, ksr] at kmo; exact absurd kmo (by decide)))]; exact ex1457
                  have z1464 : q_is (q_z f1460 mo 5) x1458 := by rw [ef1460, q_setz (Or.inr (by decide))]; exact ex1458
                  have z1465 : q_is (q_z f1460 mo 9) x1459 := by rw [ef1460, q_setz (Or.inr (by decide))]; exact ex1459
                  have z1466 : q_ir (q_r f1460 mo 13) sr := by rw [ef1460, q_setr (Or.inr (by decide))]; exact z1451
                  have z1467 : q_ir (q_r f1460 mo 18) nm := by rw [ef1460, q_setr (Or.inr (by decide))]; exact z1452
                  have z1468 : q_ir (q_r f1460 mo 1) bu := by rw [ef1460, q_setr (Or.inr (by decide))]; exact z1453
                  have g1469 : tk_ub f1460 bu B tn := tk_ub_tr g1455 (fun i9 => by rw [ef1460, q_setz (Or.inl (fun q => by rw [q, ksr] at kbu; exact absurd kbu (by decide)))])
                  have g1470 : tk_tm f1460 mo sr nm (tk_sm tA) := tk_tm_tr g1456 (by rw [ef1460, q_setz (Or.inr (by decide))]) (fun i9 h9 k9 => by rw [ef1460, q_setz (Or.inr (by omega))]) (fun i9 h9 k9 => by rw [ef1460, q_setz (Or.inr (by omega))]) (fun i9 => by rw [ef1460, q_setj (Or.inl (fun q => by rw [q, ksr] at knm; exact absurd knm (by decide)))])
                  have g1471 : tk_tr f1460 mo B tn := tk_tr_tr g1449 (by rw [ef1460, q_setz (Or.inr (by decide))]) (by rw [ef1460, q_setz (Or.inr (by decide))]) (by rw [ef1460, q_setz (Or.inr (by decide))]) (by rw [ef1460, q_setz (Or.inr (by decide))]) (by rw [ef1460, q_setj (Or.inr (by decide))])
                  refine lv_goto (tgt := 161) cx.1 cx.2.1 dX12_statement_119 (by decide) ?_
                  refine q_ald_n cx dX12_statement_161 rfl (lv_at hl 0 rfl) ?_
                  refine q_bipush cx dX12_statement_162 rfl ?_
                  refine q_cVv (As := [.int (q_i 59)]) (rest := []) cx hB (fun _ h => h) hN hmo kmo (by decide) rfl (r_mustSign1 l g hN hB.2.1 mo hmo kmo 59 (by decide) (by decide) x1457 (by omega) (by omega) z1463) q_cX12_241 q_dX12_mustSign (by decide) rfl rfl hl.1 rfl (Nat.le_of_ble_eq_true rfl) dX12_statement_164 (fun H locs f1472 h1474 hF hB => ?_)
                  obtain rfl := h1474
                  refine q_vret cx hr hlk hB dX12_statement_167 ?_
                  exact (Or.inr ⟨(q_isl z1463 (by omega)), (q_isu z1463 (by omega)), (tk_erp (tk_stm_e1 (Eq.trans (tk_st_3 t980 t1354 t1362) (tk_miss_e1 t1371 (Eq.trans (Eq.symm ex1381) t1372)  (tk_erx t1448 ex1457 ex1459)))) z1463 z1465), g1471⟩)
              · obtain ⟨z1475, z1476, t1477, g1478⟩ := h1368
                have z1479 : q_is (q_z f1364 mo 3) tn := Eq.trans (hF.z hmo (by rw [kmo]; rfl)) hf0
                have z1480 : q_ir (q_r f1364 mo 13) sr := Eq.trans (hF.r hmo (by rw [kmo]; rfl)) hr0
                have z1481 : q_ir (q_r f1364 mo 18) nm := Eq.trans (hF.r hmo (by rw [kmo]; rfl)) hr1
                have z1482 : q_ir (q_r f1364 mo 1) bu := Eq.trans (hF.r hmo (by rw [kmo]; rfl)) hr2
                have g1483 : q_gr f1364 sr := q_gr_fr hgr (fun i9 _ => hF.z hsr (by rw [ksr]; rfl))
                have g1484 : tk_ub f1364 bu B tn := tk_ub_tr hub (fun i9 => hF.z hbu (by rw [kbu]; rfl))
                obtain ⟨x1485, ex1485⟩ : ∃ zz, q_is (q_z f1364 mo 5) zz := ⟨_, q_isr _⟩
                obtain ⟨lx1485, ux1485⟩ := q_isb ex1485 (q_fib hB.2.1 hmo kmo (by decide) rfl)
                obtain ⟨-, l0x1485, u0x1485, -, -⟩ := tk_tr_n g1478 ex1485
                refine q_ald_n cx dX12_statement_105 rfl (lv_at hl 0 rfl) ?_
                refine q_gX12_20 cx hB hmo kmo z1480 dX12_statement_106 (fun hb1486 kb1486 => ?_)
                refine q_bipush cx dX12_statement_109 rfl ?_
                refine q_ald_n cx dX12_statement_111 rfl (lv_at hl 0 rfl) ?_
                refine q_iconst cx dX12_statement_112 ?_
                refine q_bipush cx dX12_statement_113 rfl ?_
                refine q_cVi (As := [.int (q_i 1), .int (q_i 9)]) (rest := [.int (q_i 8), .ref sr]) cx hB (fun _ h => h) hN hmo kmo (by decide) rfl (r_number1 l g hN hB.2.1 mo hmo kmo 1 (by decide) (by decide) 9 (by decide) (by decide) 3 (by decide) (by decide) z1475) q_cX12_193 q_dX12_number (by decide) rfl rfl hl.1 rfl (Nat.le_of_ble_eq_true rfl) dX12_statement_115 (fun y1488 H locs f1487 ry1488 h1489 hF hB => ?_)
                obtain rfl := h1489
                refine q_sast cx hB hsr ksr (by decide) (by decide) ⟨by omega, by omega⟩ rfl dX12_statement_118 (fun H locs f1490 ef1490 z1491 hB => ?_)
                have z1492 : q_is (q_z f1490 mo 3) tn := by rw [ef1490, q_setz (Or.inr (by decide))]; exact z1479
                have z1493 : q_is (q_z f1490 mo 8) 3 := by rw [ef1490, q_setz (Or.inl (fun q => by rw [q, ksr] at kmo; exact absurd kmo (by decide)))]; exact z1475
                have z1494 : q_is (q_z f1490 mo 9) ss := by rw [ef1490, q_setz (Or.inr (by decide))]; exact z1476
                have z1495 : q_is (q_z f1490 mo 5) x1485 := by rw [ef1490, q_setz (Or.inr (by decide))]; exact ex1485
                have z1496 : q_ir (q_r f1490 mo 13) sr := by rw [ef1490, q_setr (Or.inr (by decide))]; exact z1480
                have z1497 : q_ir (q_r f1490 mo 18) nm := by rw [ef1490, q_setr (Or.inr (by decide))]; exact z1481
                have z1498 : q_ir (q_r f1490 mo 1) bu := by rw [ef1490, q_setr (Or.inr (by decide))]; exact z1482
                have g1499 : tk_ub f1490 bu B tn := tk_ub_tr g1484 (fun i9 => by rw [ef1490, q_setz (Or.inl (fun q => by rw [q, ksr] at kbu; exact absurd kbu (by decide)))])
                have g1500 : tk_tr f1490 mo B tn := tk_tr_tr g1478 (by rw [ef1490, q_setz (Or.inr (by decide))]) (by rw [ef1490, q_setz (Or.inr (by decide))]) (by rw [ef1490, q_setz (Or.inr (by decide))]) (by rw [ef1490, q_setz (Or.inr (by decide))]) (by rw [ef1490, q_setj (Or.inr (by decide))])
                refine lv_goto (tgt := 161) cx.1 cx.2.1 dX12_statement_119 (by decide) ?_
                refine q_ald_n cx dX12_statement_161 rfl (lv_at hl 0 rfl) ?_
                refine q_bipush cx dX12_statement_162 rfl ?_
                refine q_cVv (As := [.int (q_i 59)]) (rest := []) cx hB (fun _ h => h) hN hmo kmo (by decide) rfl (r_mustSign1 l g hN hB.2.1 mo hmo kmo 59 (by decide) (by decide) 3 (by decide) (by decide) z1493) q_cX12_241 q_dX12_mustSign (by decide) rfl rfl hl.1 rfl (Nat.le_of_ble_eq_true rfl) dX12_statement_164 (fun H locs f1501 h1503 hF hB => ?_)
                obtain rfl := h1503
                refine q_vret cx hr hlk hB dX12_statement_167 ?_
                exact (Or.inr ⟨(q_isl z1493 (by omega)), (q_isu z1493 (by omega)), (tk_stm_e1 (Eq.trans (tk_st_3 t980 t1354 t1362) (tk_miss_told t1477 z1493 z1494))), g1500⟩)
          · obtain ⟨rfl, qy1357, t1504⟩ := h1360
            subst qy1357
            refine q_ifeq (tgt := 122) cx ⟨by decide, by decide⟩ dX12_statement_97 (by decide) (fun c1505 => ?_) (fun c1505 => ?_)
            · refine q_ald_n cx dX12_statement_122 rfl (lv_at hl 0 rfl) ?_
              refine lv_ldc2 (v := q_l 474245) cx.1 cx.2.1 cx.2.2.2.1 (cx.2.2.2.2 _ q_h1783) dX12_statement_123 ?_
              refine q_cVi (As := [.long (q_l 474245)]) (rest := []) cx hB (fun _ h => h) hN hmo kmo (by decide) rfl (f_misWord l g hN hB.2.1 B tk_wNode mo hmo kmo (q_l 474245) bu hbu kbu tn (by omega) (by omega) ss (by omega) (by omega) hf0 hf1 hf2 hf3 hr2 (by decide +kernel : (q_l 474245) = tk_mw tk_wNode) tk_iNode htr hub) q_cX12_143 q_dX12_isWord (by decide) rfl rfl hl.1 rfl (Nat.le_of_ble_eq_true rfl) dX12_statement_126 (fun y1507 H locs f1506 ry1507 h1508 hF hB => ?_)
              rcases h1508 with h1509 | h1510
              · obtain ⟨rfl, qy1507, z1511, t1512⟩ := h1509
                subst qy1507
                refine q_ifeq (tgt := 139) cx ⟨by decide, by decide⟩ dX12_statement_129 (by decide) (fun c1513 => ?_) (fun c1513 => ?_)
                · exact absurd c1513 (by omega)
                · refine q_ald_n cx dX12_statement_132 rfl (lv_at hl 0 rfl) ?_
                  refine q_cVv (As := []) (rest := []) cx hB (fun _ h => h) hN hmo kmo (by decide) rfl (f_mreadsNode l g hN hB.2.1 B tA mo hmo kmo sr hsr ksr nm hnm knm bu hbu kbu tn (by omega) (by omega) ss (by omega) (by omega) 1 (by decide) (by decide) hf0 hf1 hf2 hf3 z1511 hr0 hr1 hr2 hgr htr hub htm) q_cX12_233 q_dX12_readsNode (by decide) rfl rfl hl.1 rfl (Nat.le_of_ble_eq_true rfl) dX12_statement_133 (fun H locs f1514 h1516 hF hB => ?_)
                  rcases h1516 with h1517 | h1518
                  · obtain ⟨z1519, z1520, t1521, g1522, g1523⟩ := h1517
                    have z1524 : q_is (q_z f1514 mo 3) tn := Eq.trans (hF.z hmo (by rw [kmo]; rfl)) hf0
                    have z1525 : q_ir (q_r f1514 mo 13) sr := Eq.trans (hF.r hmo (by rw [kmo]; rfl)) hr0
                    have z1526 : q_ir (q_r f1514 mo 18) nm := Eq.trans (hF.r hmo (by rw [kmo]; rfl)) hr1
                    have z1527 : q_ir (q_r f1514 mo 1) bu := Eq.trans (hF.r hmo (by rw [kmo]; rfl)) hr2
                    have g1528 : tk_ub f1514 bu B tn := tk_ub_tr hub (fun i9 => hF.z hbu (by rw [kbu]; rfl))
                    obtain ⟨x1529, ex1529⟩ : ∃ zz, q_is (q_z f1514 mo 5) zz := ⟨_, q_isr _⟩
                    obtain ⟨lx1529, ux1529⟩ := q_isb ex1529 (q_fib hB.2.1 hmo kmo (by decide) rfl)
                    obtain ⟨-, l0x1529, u0x1529, -, -⟩ := tk_tr_n g1523 ex1529
                    refine lv_goto (tgt := 161) cx.1 cx.2.1 dX12_statement_136 (by decide) ?_
                    obtain ⟨A8, hA8, htm8⟩ := t1521
                    refine q_ald_n cx dX12_statement_161 rfl (lv_at hl 0 rfl) ?_
                    refine q_bipush cx dX12_statement_162 rfl ?_
                    refine q_cVv (As := [.int (q_i 59)]) (rest := []) cx hB (fun _ h => h) hN hmo kmo (by decide) rfl (f_mmustSign l g hN hB.2.1 B mo hmo kmo 59 (by decide) (by decide) bu hbu kbu tn (by omega) (by omega) x1529 (by omega) (by omega) z1524 ex1529 z1519 z1520 z1527 (by omega) g1523 g1528) q_cX12_241 q_dX12_mustSign (by decide) rfl rfl hl.1 rfl (Nat.le_of_ble_eq_true rfl) dX12_statement_164 (fun H locs f1530 h1532 hF hB => ?_)
                    rcases h1532 with h1533 | h1534
                    · obtain ⟨z1535, z1536, t1537, g1538⟩ := h1533
                      have z1539 : q_is (q_z f1530 mo 3) tn := Eq.trans (hF.z hmo (by rw [kmo]; rfl)) z1524
                      have z1540 : q_ir (q_r f1530 mo 13) sr := Eq.trans (hF.r hmo (by rw [kmo]; rfl)) z1525
                      have z1541 : q_ir (q_r f1530 mo 18) nm := Eq.trans (hF.r hmo (by rw [kmo]; rfl)) z1526
                      have z1542 : q_ir (q_r f1530 mo 1) bu := Eq.trans (hF.r hmo (by rw [kmo]; rfl)) z1527
                      have g1543 : q_gr f1530 sr := q_gr_fr g1522 (fun i9 _ => hF.z hsr (by rw [ksr]; rfl))
                      have g1544 : tk_ub f1530 bu B tn := tk_ub_tr g1528 (fun i9 => hF.z hbu (by rw [kbu]; rfl))
                      have g1545 : tk_tm f1530 mo sr nm A8 := tk_tm_tr htm8 (hF.z hmo (by rw [kmo]; rfl)) (fun i9 h9 k9 => hF.z hsr (by rw [ksr]; exact q_inWr rfl h9 k9)) (fun i9 h9 k9 => hF.z hsr (by rw [ksr]; exact q_inWr rfl h9 k9)) (fun i9 => hF.j hnm (by rw [knm]; rfl))
                      obtain ⟨x1546, ex1546⟩ : ∃ zz, q_is (q_z f1530 mo 5) zz := ⟨_, q_isr _⟩
                      obtain ⟨lx1546, ux1546⟩ := q_isb ex1546 (q_fib hB.2.1 hmo kmo (by decide) rfl)
                      obtain ⟨-, l0x1546, u0x1546, -, -⟩ := tk_tr_n g1538 ex1546
                      refine q_vret cx hr hlk hB dX12_statement_167 ?_
                      exact (Or.inl ⟨z1535, z1536, ⟨A8, tk_okp (tk_stm_ok (Eq.trans (tk_st_4 t980 t1354 t1504 t1512) (tk_okq hA8 ex1529)) (tk_okx t1537 ex1546)) ex1546, g1545⟩, g1543, g1538⟩)
                    · obtain ⟨lz1547, uz1547, t1548, g1549⟩ := h1534
                      have z1550 : q_is (q_z f1530 mo 3) tn := Eq.trans (hF.z hmo (by rw [kmo]; rfl)) z1524
                      have z1551 : q_ir (q_r f1530 mo 13) sr := Eq.trans (hF.r hmo (by rw [kmo]; rfl)) z1525
                      have z1552 : q_ir (q_r f1530 mo 18) nm := Eq.trans (hF.r hmo (by rw [kmo]; rfl)) z1526
                      have z1553 : q_ir (q_r f1530 mo 1) bu := Eq.trans (hF.r hmo (by rw [kmo]; rfl)) z1527
                      have g1554 : q_gr f1530 sr := q_gr_fr g1522 (fun i9 _ => hF.z hsr (by rw [ksr]; rfl))
                      have g1555 : tk_ub f1530 bu B tn := tk_ub_tr g1528 (fun i9 => hF.z hbu (by rw [kbu]; rfl))
                      have g1556 : tk_tm f1530 mo sr nm A8 := tk_tm_tr htm8 (hF.z hmo (by rw [kmo]; rfl)) (fun i9 h9 k9 => hF.z hsr (by rw [ksr]; exact q_inWr rfl h9 k9)) (fun i9 h9 k9 => hF.z hsr (by rw [ksr]; exact q_inWr rfl h9 k9)) (fun i9 => hF.j hnm (by rw [knm]; rfl))
                      obtain ⟨x1557, ex1557⟩ : ∃ zz, q_is (q_z f1530 mo 8) zz := ⟨_, q_isr _⟩
                      obtain ⟨lx1557, ux1557⟩ := q_isb ex1557 ⟨lz1547, uz1547⟩
                      obtain ⟨x1558, ex1558⟩ : ∃ zz, q_is (q_z f1530 mo 5) zz := ⟨_, q_isr _⟩
                      obtain ⟨lx1558, ux1558⟩ := q_isb ex1558 (q_fib hB.2.1 hmo kmo (by decide) rfl)
                      obtain ⟨x1559, ex1559⟩ : ∃ zz, q_is (q_z f1530 mo 9) zz := ⟨_, q_isr _⟩
                      obtain ⟨lx1559, ux1559⟩ := q_isb ex1559 (q_fib hB.2.1 hmo kmo (by decide) rfl)
                      obtain ⟨-, l0x1558, u0x1558, -, -⟩ := tk_tr_n g1549 ex1558
                      refine q_vret cx hr hlk hB dX12_statement_167 ?_
                      exact (Or.inr ⟨(q_isl ex1557 (by omega)), (q_isu ex1557 (by omega)), (tk_erp (tk_stm_e2 (Eq.trans (tk_st_4 t980 t1354 t1504 t1512) (tk_okq hA8 ex1529)) (tk_erx t1548 ex1557 ex1559)) ex1557 ex1559), g1549⟩)
                  · obtain ⟨lz1560, uz1560, t1561, g1562⟩ := h1518
                    have z1563 : q_is (q_z f1514 mo 3) tn := Eq.trans (hF.z hmo (by rw [kmo]; rfl)) hf0
                    have z1564 : q_ir (q_r f1514 mo 13) sr := Eq.trans (hF.r hmo (by rw [kmo]; rfl)) hr0
                    have z1565 : q_ir (q_r f1514 mo 18) nm := Eq.trans (hF.r hmo (by rw [kmo]; rfl)) hr1
                    have z1566 : q_ir (q_r f1514 mo 1) bu := Eq.trans (hF.r hmo (by rw [kmo]; rfl)) hr2
                    have g1567 : tk_ub f1514 bu B tn := tk_ub_tr hub (fun i9 => hF.z hbu (by rw [kbu]; rfl))
                    obtain ⟨x1568, ex1568⟩ : ∃ zz, q_is (q_z f1514 mo 8) zz := ⟨_, q_isr _⟩
                    obtain ⟨lx1568, ux1568⟩ := q_isb ex1568 ⟨lz1560, uz1560⟩
                    obtain ⟨x1569, ex1569⟩ : ∃ zz, q_is (q_z f1514 mo 5) zz := ⟨_, q_isr _⟩
                    obtain ⟨lx1569, ux1569⟩ := q_isb ex1569 (q_fib hB.2.1 hmo kmo (by decide) rfl)
                    obtain ⟨x1570, ex1570⟩ : ∃ zz, q_is (q_z f1514 mo 9) zz := ⟨_, q_isr _⟩
                    obtain ⟨lx1570, ux1570⟩ := q_isb ex1570 (q_fib hB.2.1 hmo kmo (by decide) rfl)
                    obtain ⟨-, l0x1569, u0x1569, -, -⟩ := tk_tr_n g1562 ex1569
                    refine lv_goto (tgt := 161) cx.1 cx.2.1 dX12_statement_136 (by decide) ?_
                    refine q_ald_n cx dX12_statement_161 rfl (lv_at hl 0 rfl) ?_
                    refine q_bipush cx dX12_statement_162 rfl ?_
                    refine q_cVv (As := [.int (q_i 59)]) (rest := []) cx hB (fun _ h => h) hN hmo kmo (by decide) rfl (r_mustSign1 l g hN hB.2.1 mo hmo kmo 59 (by decide) (by decide) x1568 (by omega) (by omega) ex1568) q_cX12_241 q_dX12_mustSign (by decide) rfl rfl hl.1 rfl (Nat.le_of_ble_eq_true rfl) dX12_statement_164 (fun H locs f1571 h1573 hF hB => ?_)
                    obtain rfl := h1573
                    refine q_vret cx hr hlk hB dX12_statement_167 ?_
                    exact (Or.inr ⟨(q_isl ex1568 (by omega)), (q_isu ex1568 (by omega)), (tk_erp (tk_stm_e1 (Eq.trans (tk_st_4 t980 t1354 t1504 t1512) (tk_erx t1561 ex1568 ex1570))) ex1568 ex1570), g1562⟩)
              · obtain ⟨rfl, qy1507, t1574⟩ := h1510
                subst qy1507
                refine q_ifeq (tgt := 139) cx ⟨by decide, by decide⟩ dX12_statement_129 (by decide) (fun c1575 => ?_) (fun c1575 => ?_)
                · refine q_ald_n cx dX12_statement_139 rfl (lv_at hl 0 rfl) ?_
                  refine lv_ldc2 (v := q_l 402891) cx.1 cx.2.1 cx.2.2.2.1 (cx.2.2.2.2 _ q_h1814) dX12_statement_140 ?_
                  refine q_cVi (As := [.long (q_l 402891)]) (rest := []) cx hB (fun _ h => h) hN hmo kmo (by decide) rfl (f_misWord l g hN hB.2.1 B tk_wLink mo hmo kmo (q_l 402891) bu hbu kbu tn (by omega) (by omega) ss (by omega) (by omega) hf0 hf1 hf2 hf3 hr2 (by decide +kernel : (q_l 402891) = tk_mw tk_wLink) tk_iLink htr hub) q_cX12_143 q_dX12_isWord (by decide) rfl rfl hl.1 rfl (Nat.le_of_ble_eq_true rfl) dX12_statement_143 (fun y1577 H locs f1576 ry1577 h1578 hF hB => ?_)
                  rcases h1578 with h1579 | h1580
                  · obtain ⟨rfl, qy1577, z1581, t1582⟩ := h1579
                    subst qy1577
                    refine q_ifeq (tgt := 156) cx ⟨by decide, by decide⟩ dX12_statement_146 (by decide) (fun c1583 => ?_) (fun c1583 => ?_)
                    · exact absurd c1583 (by omega)
                    · refine q_ald_n cx dX12_statement_149 rfl (lv_at hl 0 rfl) ?_
                      refine q_cVv (As := []) (rest := []) cx hB (fun _ h => h) hN hmo kmo (by decide) rfl (f_mreadsLink l g hN hB.2.1 B tA mo hmo kmo sr hsr ksr nm hnm knm bu hbu kbu tn (by omega) (by omega) ss (by omega) (by omega) 1 (by decide) (by decide) hf0 hf1 hf2 hf3 z1581 hr0 hr1 hr2 hgr htr hub htm) q_cX12_238 q_dX12_readsLink (by decide) rfl rfl hl.1 rfl (Nat.le_of_ble_eq_true rfl) dX12_statement_150 (fun H locs f1584 h1586 hF hB => ?_)
                      rcases h1586 with h1587 | h1588
                      · obtain ⟨z1589, z1590, t1591, g1592, g1593⟩ := h1587
                        have z1594 : q_is (q_z f1584 mo 3) tn := Eq.trans (hF.z hmo (by rw [kmo]; rfl)) hf0
                        have z1595 : q_ir (q_r f1584 mo 13) sr := Eq.trans (hF.r hmo (by rw [kmo]; rfl)) hr0
                        have z1596 : q_ir (q_r f1584 mo 18) nm := Eq.trans (hF.r hmo (by rw [kmo]; rfl)) hr1
                        have z1597 : q_ir (q_r f1584 mo 1) bu := Eq.trans (hF.r hmo (by rw [kmo]; rfl)) hr2
                        have g1598 : tk_ub f1584 bu B tn := tk_ub_tr hub (fun i9 => hF.z hbu (by rw [kbu]; rfl))
                        obtain ⟨x1599, ex1599⟩ : ∃ zz, q_is (q_z f1584 mo 5) zz := ⟨_, q_isr _⟩
                        obtain ⟨lx1599, ux1599⟩ := q_isb ex1599 (q_fib hB.2.1 hmo kmo (by decide) rfl)
                        obtain ⟨-, l0x1599, u0x1599, -, -⟩ := tk_tr_n g1593 ex1599
                        refine lv_goto (tgt := 161) cx.1 cx.2.1 dX12_statement_153 (by decide) ?_
                        obtain ⟨A8, hA8, htm8⟩ := t1591
                        refine q_ald_n cx dX12_statement_161 rfl (lv_at hl 0 rfl) ?_
                        refine q_bipush cx dX12_statement_162 rfl ?_
                        refine q_cVv (As := [.int (q_i 59)]) (rest := []) cx hB (fun _ h => h) hN hmo kmo (by decide) rfl (f_mmustSign l g hN hB.2.1 B mo hmo kmo 59 (by decide) (by decide) bu hbu kbu tn (by omega) (by omega) x1599 (by omega) (by omega) z1594 ex1599 z1589 z1590 z1597 (by omega) g1593 g1598) q_cX12_241 q_dX12_mustSign (by decide) rfl rfl hl.1 rfl (Nat.le_of_ble_eq_true rfl) dX12_statement_164 (fun H locs f1600 h1602 hF hB => ?_)
                        rcases h1602 with h1603 | h1604
                        · obtain ⟨z1605, z1606, t1607, g1608⟩ := h1603
                          have z1609 : q_is (q_z f1600 mo 3) tn := Eq.trans (hF.z hmo (by rw [kmo]; rfl)) z1594
                          have z1610 : q_ir (q_r f1600 mo 13) sr := Eq.trans (hF.r hmo (by rw [kmo]; rfl)) z1595
                          have z1611 : q_ir (q_r f1600 mo 18) nm := Eq.trans (hF.r hmo (by rw [kmo]; rfl)) z1596
                          have z1612 : q_ir (q_r f1600 mo 1) bu := Eq.trans (hF.r hmo (by rw [kmo]; rfl)) z1597
                          have g1613 : q_gr f1600 sr := q_gr_fr g1592 (fun i9 _ => hF.z hsr (by rw [ksr]; rfl))
                          have g1614 : tk_ub f1600 bu B tn := tk_ub_tr g1598 (fun i9 => hF.z hbu (by rw [kbu]; rfl))
                          have g1615 : tk_tm f1600 mo sr nm A8 := tk_tm_tr htm8 (hF.z hmo (by rw [kmo]; rfl)) (fun i9 h9 k9 => hF.z hsr (by rw [ksr]; exact q_inWr rfl h9 k9)) (fun i9 h9 k9 => hF.z hsr (by rw [ksr]; exact q_inWr rfl h9 k9)) (fun i9 => hF.j hnm (by rw [knm]; rfl))
                          obtain ⟨x1616, ex1616⟩ : ∃ zz, q_is (q_z f1600 mo 5) zz := ⟨_, q_isr _⟩
                          obtain ⟨lx1616, ux1616⟩ := q_isb ex1616 (q_fib hB.2.1 hmo kmo (by decide) rfl)
                          obtain ⟨-, l0x1616, u0x1616, -, -⟩ := tk_tr_n g1608 ex1616
                          refine q_vret cx hr hlk hB dX12_statement_167 ?_
                          exact (Or.inl ⟨z1605, z1606, ⟨A8, tk_okp (tk_stm_ok (Eq.trans (tk_st_5 t980 t1354 t1504 t1574 t1582) (tk_okq hA8 ex1599)) (tk_okx t1607 ex1616)) ex1616, g1615⟩, g1613, g1608⟩)
                        · obtain ⟨lz1617, uz1617, t1618, g1619⟩ := h1604
                          have z1620 : q_is (q_z f1600 mo 3) tn := Eq.trans (hF.z hmo (by rw [kmo]; rfl)) z1594
                          have z1621 : q_ir (q_r f1600 mo 13) sr := Eq.trans (hF.r hmo (by rw [kmo]; rfl)) z1595
                          have z1622 : q_ir (q_r f1600 mo 18) nm := Eq.trans (hF.r hmo (by rw [kmo]; rfl)) z1596
                          have z1623 : q_ir (q_r f1600 mo 1) bu := Eq.trans (hF.r hmo (by rw [kmo]; rfl)) z1597
                          have g1624 : q_gr f1600 sr := q_gr_fr g1592 (fun i9 _ => hF.z hsr (by rw [ksr]; rfl))
                          have g1625 : tk_ub f1600 bu B tn := tk_ub_tr g1598 (fun i9 => hF.z hbu (by rw [kbu]; rfl))
                          have g1626 : tk_tm f1600 mo sr nm A8 := tk_tm_tr htm8 (hF.z hmo (by rw [kmo]; rfl)) (fun i9 h9 k9 => hF.z hsr (by rw [ksr]; exact q_inWr rfl h9 k9)) (fun i9 h9 k9 => hF.z hsr (by rw [ksr]; exact q_inWr rfl h9 k9)) (fun i9 => hF.j hnm (by rw [knm]; rfl))
                          obtain ⟨x1627, ex1627⟩ : ∃ zz, q_is (q_z f1600 mo 8) zz := ⟨_, q_isr _⟩
                          obtain ⟨lx1627, ux1627⟩ := q_isb ex1627 ⟨lz1617, uz1617⟩
                          obtain ⟨x1628, ex1628⟩ : ∃ zz, q_is (q_z f1600 mo 5) zz := ⟨_, q_isr _⟩
                          obtain ⟨lx1628, ux1628⟩ := q_isb ex1628 (q_fib hB.2.1 hmo kmo (by decide) rfl)
                          obtain ⟨x1629, ex1629⟩ : ∃ zz, q_is (q_z f1600 mo 9) zz := ⟨_, q_isr _⟩
                          obtain ⟨lx1629, ux1629⟩ := q_isb ex1629 (q_fib hB.2.1 hmo kmo (by decide) rfl)
                          obtain ⟨-, l0x1628, u0x1628, -, -⟩ := tk_tr_n g1619 ex1628
                          refine q_vret cx hr hlk hB dX12_statement_167 ?_
                          exact (Or.inr ⟨(q_isl ex1627 (by omega)), (q_isu ex1627 (by omega)), (tk_erp (tk_stm_e2 (Eq.trans (tk_st_5 t980 t1354 t1504 t1574 t1582) (tk_okq hA8 ex1599)) (tk_erx t1618 ex1627 ex1629)) ex1627 ex1629), g1619⟩)
                      · obtain ⟨lz1630, uz1630, t1631, g1632⟩ := h1588
                        have z1633 : q_is (q_z f1584 mo 3) tn := Eq.trans (hF.z hmo (by rw [kmo]; rfl)) hf0
                        have z1634 : q_ir (q_r f1584 mo 13) sr := Eq.trans (hF.r hmo (by rw [kmo]; rfl)) hr0
                        have z1635 : q_ir (q_r f1584 mo 18) nm := Eq.trans (hF.r hmo (by rw [kmo]; rfl)) hr1
                        have z1636 : q_ir (q_r f1584 mo 1) bu := Eq.trans (hF.r hmo (by rw [kmo]; rfl)) hr2
                        have g1637 : tk_ub f1584 bu B tn := tk_ub_tr hub (fun i9 => hF.z hbu (by rw [kbu]; rfl))
                        obtain ⟨x1638, ex1638⟩ : ∃ zz, q_is (q_z f1584 mo 8) zz := ⟨_, q_isr _⟩
                        obtain ⟨lx1638, ux1638⟩ := q_isb ex1638 ⟨lz1630, uz1630⟩
                        obtain ⟨x1639, ex1639⟩ : ∃ zz, q_is (q_z f1584 mo 5) zz := ⟨_, q_isr _⟩
                        obtain ⟨lx1639, ux1639⟩ := q_isb ex1639 (q_fib hB.2.1 hmo kmo (by decide) rfl)
                        obtain ⟨x1640, ex1640⟩ : ∃ zz, q_is (q_z f1584 mo 9) zz := ⟨_, q_isr _⟩
                        obtain ⟨lx1640, ux1640⟩ := q_isb ex1640 (q_fib hB.2.1 hmo kmo (by decide) rfl)
                        obtain ⟨-, l0x1639, u0x1639, -, -⟩ := tk_tr_n g1632 ex1639
                        refine lv_goto (tgt := 161) cx.1 cx.2.1 dX12_statement_153 (by decide) ?_
                        refine q_ald_n cx dX12_statement_161 rfl (lv_at hl 0 rfl) ?_
                        refine q_bipush cx dX12_statement_162 rfl ?_
                        refine q_cVv (As := [.int (q_i 59)]) (rest := []) cx hB (fun _ h => h) hN hmo kmo (by decide) rfl (r_mustSign1 l g hN hB.2.1 mo hmo kmo 59 (by decide) (by decide) x1638 (by omega) (by omega) ex1638) q_cX12_241 q_dX12_mustSign (by decide) rfl rfl hl.1 rfl (Nat.le_of_ble_eq_true rfl) dX12_statement_164 (fun H locs f1641 h1643 hF hB => ?_)
                        obtain rfl := h1643
                        refine q_vret cx hr hlk hB dX12_statement_167 ?_
                        exact (Or.inr ⟨(q_isl ex1638 (by omega)), (q_isu ex1638 (by omega)), (tk_erp (tk_stm_e1 (Eq.trans (tk_st_5 t980 t1354 t1504 t1574 t1582) (tk_erx t1631 ex1638 ex1640))) ex1638 ex1640), g1632⟩)
                  · obtain ⟨rfl, qy1577, t1644⟩ := h1580
                    subst qy1577
                    refine q_ifeq (tgt := 156) cx ⟨by decide, by decide⟩ dX12_statement_146 (by decide) (fun c1645 => ?_) (fun c1645 => ?_)
                    · refine q_ald_n cx dX12_statement_156 rfl (lv_at hl 0 rfl) ?_
                      refine q_iconst cx dX12_statement_157 ?_
                      refine q_cVv (As := [.int (q_i 1)]) (rest := []) cx hB (fun _ h => h) hN hmo kmo (by decide) rfl (f_mwrong1 l g hN hB.2.1 mo hmo kmo 1 (by decide) (by decide) ss (by omega) (by omega) hf1 hf2 hf3) q_cX12_137 q_dX12_wrong (by decide) rfl rfl hl.1 rfl (Nat.le_of_ble_eq_true rfl) dX12_statement_158 (fun H locs f1646 h1648 hF hB => ?_)
                      obtain ⟨z1649, z1650⟩ := h1648
                      have z1651 : q_is (q_z f1646 mo 3) tn := Eq.trans (hF.z hmo (by rw [kmo]; rfl)) hf0
                      have z1652 : q_is (q_z f1646 mo 5) ss := Eq.trans (hF.z hmo (by rw [kmo]; rfl)) hf1
                      have z1653 : q_ir (q_r f1646 mo 13) sr := Eq.trans (hF.r hmo (by rw [kmo]; rfl)) hr0
                      have z1654 : q_ir (q_r f1646 mo 18) nm := Eq.trans (hF.r hmo (by rw [kmo]; rfl)) hr1
                      have z1655 : q_ir (q_r f1646 mo 1) bu := Eq.trans (hF.r hmo (by rw [kmo]; rfl)) hr2
                      have g1656 : q_gr f1646 sr := q_gr_fr hgr (fun i9 _ => hF.z hsr (by rw [ksr]; rfl))
                      have g1657 : tk_tr f1646 mo B tn := tk_tr_tr htr (hF.z hmo (by rw [kmo]; rfl)) (hF.z hmo (by rw [kmo]; rfl)) (hF.z hmo (by rw [kmo]; rfl)) (hF.z hmo (by rw [kmo]; rfl)) (hF.j hmo (by rw [kmo]; rfl))
                      have g1658 : tk_ub f1646 bu B tn := tk_ub_tr hub (fun i9 => hF.z hbu (by rw [kbu]; rfl))
                      have g1659 : tk_tm f1646 mo sr nm tA := tk_tm_tr htm (hF.z hmo (by rw [kmo]; rfl)) (fun i9 h9 k9 => hF.z hsr (by rw [ksr]; exact q_inWr rfl h9 k9)) (fun i9 h9 k9 => hF.z hsr (by rw [ksr]; exact q_inWr rfl h9 k9)) (fun i9 => hF.j hnm (by rw [knm]; rfl))
                      refine q_ald_n cx dX12_statement_161 rfl (lv_at hl 0 rfl) ?_
                      refine q_bipush cx dX12_statement_162 rfl ?_
                      refine q_cVv (As := [.int (q_i 59)]) (rest := []) cx hB (fun _ h => h) hN hmo kmo (by decide) rfl (r_mustSign1 l g hN hB.2.1 mo hmo kmo 59 (by decide) (by decide) 1 (by decide) (by decide) z1649) q_cX12_241 q_dX12_mustSign (by decide) rfl rfl hl.1 rfl (Nat.le_of_ble_eq_true rfl) dX12_statement_164 (fun H locs f1660 h1662 hF hB => ?_)
                      obtain rfl := h1662
                      refine q_vret cx hr hlk hB dX12_statement_167 ?_
                      exact (Or.inr ⟨(q_isl z1649 (by omega)), (q_isu z1649 (by omega)), (tk_stm_e1 (tk_st_0 t980 t1354 t1504 t1574 t1644 z1649 z1650)), g1657⟩)
                    · exact absurd c1645 (by omega)
                · exact absurd c1575 (by omega)
            · exact absurd c1505 (by omega)
        · exact absurd c1355 (by omega)
    · exact absurd c981 (by omega)
