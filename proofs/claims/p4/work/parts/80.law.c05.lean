set_option maxHeartbeats 4000000 in
set_option maxRecDepth 100000 in
theorem law_c856 {p : Program} {l : Launch} {e : Env} {s : State} {m : MethodId} {below : List Frame} {meth : Method} {c : Code} {b N9 : Nat} {xs : Nat → Int32} (hfl : l.stackTraces = false) (hN9 : N9 ≤ 3072) (C0 : lw_At p s m meth c b N9 xs) (cx : CallFix p m c cL_law 10 s #[Value.ref b] q_al RL) {g : q_G} {ad : Nat → Nat} {K : Nat → Nat} {L : List Nat} (hN : L.Nodup) (hLA : ∀ q, q ∈ L → s.heap.size ≤ q) (hX : q_X ad (fun q => q ∈ L) s) {f0 : Nat → va_E} {x : Nat} (hx : x ∈ L) (kx : K x = 11) {so : Nat} (hso : so ∈ L) (kso : K so = 8) {rd : Nat} (hrd : rd ∈ L) (krd : K rd = 9) {scr : Nat} (hscr : scr ∈ L) (kscr : K scr = 7) {fc : Nat} (hfc : fc ∈ L) (kfc : K fc = 1) {hist : Nat} (hhist : hist ∈ L) (khist : K hist = 2) {rep : Nat} (hrep : rep ∈ L) (krep : K rep = 6) {now : Nat} (hnow : now ∈ L) (know : K now = 10) {dr : Nat} (hdr : dr ∈ L) (kdr : K dr = 13) {sv : Nat} (hsv : sv ∈ L) (ksv : K sv = 14) {tr : Nat} (htr : tr ∈ L) (ktr : K tr = 15) {ba : Nat} (hba : ba ∈ L) (kba : K ba = 142) {nds : Nat} (hnds : nds ∈ L) (knds : K nds = 111) {mo : Nat} (hmo : mo ∈ L) (kmo : K mo = 12) {bu : Nat} (hbu : bu ∈ L) (kbu : K bu = 150) {sr : Nat} (hsr : sr ∈ L) (ksr : K sr = 151) {sd : Nat} (hsd : sd ∈ L) (ksd : K sd = 152) {as : Nat} (has : as ∈ L) (kas : K as = 153) {aw : Nat} (haw : aw ∈ L) (kaw : K aw = 154) {pa : Nat} (hpa : pa ∈ L) (kpa : K pa = 155) {nm : Nat} (hnm : nm ∈ L) (knm : K nm = 156) {snm : Nat} (hsnm : snm ∈ L) (ksnm : K snm = 157) {anm : Nat} (hanm : anm ∈ L) (kanm : K anm = 158) {hp : Nat} (hhp : hp ∈ L) (khp : K hp = 159) {dy : Nat} (hdy : dy ∈ L) (kdy : K dy = 160) {cs : Nat} (hcs : cs ∈ L) (kcs : K cs = 161) {c1 : Nat} (hc1 : c1 ∈ L) (kc1 : K c1 = 162) {c2 : Nat} (hc2 : c2 ∈ L) (kc2 : K c2 = 163) {c3 : Nat} (hc3 : c3 ∈ L) (kc3 : K c3 = 164) {bg : Nat} (hbg : bg ∈ L) (kbg : K bg = 165) {lp : Nat} (hlp : lp ∈ L) (klp : K lp = 166) {rp : Nat} (hrp : rp ∈ L) (krp : K rp = 167) {out : Nat} (hout : out ∈ L) (kout : K out = 168) {outD : Nat} (houtD : outD ∈ L) (koutD : K outD = 169) (hr0 : q_ir (q_r f0 x 0) so) (hr1 : q_ir (q_r f0 x 1) rd) (hr2 : q_ir (q_r f0 x 2) scr) (hr3 : q_ir (q_r f0 x 3) fc) (hr4 : q_ir (q_r f0 x 4) hist) (hr5 : q_ir (q_r f0 x 5) rep) (hr6 : q_ir (q_r f0 x 6) now) (hr7 : q_ir (q_r f0 x 7) dr) (hr8 : q_ir (q_r f0 x 8) sv) (hr9 : q_ir (q_r f0 fc 0) tr) (hr10 : q_ir (q_r f0 so 0) ba) (hr11 : q_ir (q_r f0 dr 0) nds) (hr12 : q_ir (q_r f0 mo 1) bu) (hr13 : q_ir (q_r f0 mo 13) sr) (hr14 : q_ir (q_r f0 mo 14) sd) (hr15 : q_ir (q_r f0 mo 15) as) (hr16 : q_ir (q_r f0 mo 16) aw) (hr17 : q_ir (q_r f0 mo 17) pa) (hr18 : q_ir (q_r f0 mo 18) nm) (hr19 : q_ir (q_r f0 mo 19) snm) (hr20 : q_ir (q_r f0 mo 20) anm) (hr21 : q_ir (q_r f0 mo 24) hp) (hr22 : q_ir (q_r f0 mo 25) dy) (hr23 : q_ir (q_r f0 mo 29) cs) (hr24 : q_ir (q_r f0 mo 30) c1) (hr25 : q_ir (q_r f0 mo 31) c2) (hr26 : q_ir (q_r f0 mo 32) c3) (hr27 : q_ir (q_r f0 mo 33) bg) (hr28 : q_ir (q_r f0 mo 34) lp) (hr29 : q_ir (q_r f0 mo 38) rp) (hij : tk_ij K L f0 nds) {f : Nat → va_E} {H : Heap} {locs : List Loc} {ls : Array Slot} {cells slots : Nat} {ii tn : Int} (hB : q_B g K L (fun q => s.heap.size ≤ q) [(0, 0, 6), (2, 1, 2), (3, 0, 4), (4, 0, 7), (5, 0, 9), (6, 1, 1), (7, 1, 4), (8, 1, 9), (9, 0, 2), (10, 3, 15), (11, 9, 9), (12, 0, 0), (12, 2, 12), (12, 21, 23), (12, 26, 28), (12, 35, 37), (12, 39, 40), (13, 3, 15), (14, 3, 15), (15, 3, 15), (16, 3, 15), (17, 0, 9), (18, 0, 9), (19, 0, 9), (20, 0, 9), (21, 0, 4), (22, 0, 4), (23, 0, 4), (24, 0, 4), (25, 0, 7), (26, 0, 7), (27, 0, 7), (28, 0, 7), (142, 0, 599), (143, 0, 599), (150, 0, 599), (151, 0, 657), (152, 0, 657), (153, 0, 657), (154, 0, 657), (155, 0, 3947), (156, 0, 9), (157, 0, 9), (158, 0, 9), (159, 0, 9), (160, 0, 9), (161, 0, 59), (162, 0, 58), (163, 0, 58), (164, 0, 58), (165, 0, 1), (166, 0, 1), (167, 0, 479), (168, 0, 0), (169, 0, 0)] f0 f s H locs) (hI : q_Iv4 f so mo sr pa sd bu ba tn) (hl : lv_has ls 10 [(5, .int (q_i ii)), (4, .ref outD), (3, .ref out), (2, .ref mo), (1, .ref x), (0, .ref b)]) (hi0 : 0 ≤ ii) (hi6 : ii + 6 ≤ N9) (hce : cells + 6 ≤ 10000) (hse : slots + 36 ≤ 100000) (kk : ∀ (f1 : Nat → va_E) (H1 : Heap) (locs1 : List Loc) (ls1 : Array Slot) (tn1 : Int), q_B g K L (fun q => s.heap.size ≤ q) [(0, 0, 6), (2, 1, 2), (3, 0, 4), (4, 0, 7), (5, 0, 9), (6, 1, 1), (7, 1, 4), (8, 1, 9), (9, 0, 2), (10, 3, 15), (11, 9, 9), (12, 0, 0), (12, 2, 12), (12, 21, 23), (12, 26, 28), (12, 35, 37), (12, 39, 40), (13, 3, 15), (14, 3, 15), (15, 3, 15), (16, 3, 15), (17, 0, 9), (18, 0, 9), (19, 0, 9), (20, 0, 9), (21, 0, 4), (22, 0, 4), (23, 0, 4), (24, 0, 4), (25, 0, 7), (26, 0, 7), (27, 0, 7), (28, 0, 7), (142, 0, 599), (143, 0, 599), (150, 0, 599), (151, 0, 657), (152, 0, 657), (153, 0, 657), (154, 0, 657), (155, 0, 3947), (156, 0, 9), (157, 0, 9), (158, 0, 9), (159, 0, 9), (160, 0, 9), (161, 0, 59), (162, 0, 58), (163, 0, 58), (164, 0, 58), (165, 0, 1), (166, 0, 1), (167, 0, 479), (168, 0, 0), (169, 0, 0)] f0 f1 s H1 locs1 → q_Iv4 f1 so mo sr pa sd bu ba tn1 → lv_has ls1 10 [(5, .int (q_i ii)), (4, .ref outD), (3, .ref out), (2, .ref mo), (1, .ref x), (0, .ref b)] → W p l e room_1 s m #[Value.ref b] below meth c H1 locs1 (cells + 6) (slots + 36) (lw_Z below #[Value.ref b] s) (F0 m 1521 ls1 [])) : W p l e room_1 s m #[Value.ref b] below meth c H locs (cells) (slots) (lw_Z below #[Value.ref b] s) (F0 m 856 ls []) := by
  have hXs := C0.2.2.2.2.2.2.1
  have hbl := C0.2.2.2.2.2.2.2.1
  have hbA := q_bA hbl
  obtain ⟨⟨hn0, hn1, ltn, utn⟩, hgr, hpk, hsd9, ht3, ht4, hbb⟩ := hI
  have hr0 : q_ir (q_r f x 0) so := Eq.trans (hB.2.2.r hx (by rw [kx]; rfl)) hr0
  have hr1 : q_ir (q_r f x 1) rd := Eq.trans (hB.2.2.r hx (by rw [kx]; rfl)) hr1
  have hr2 : q_ir (q_r f x 2) scr := Eq.trans (hB.2.2.r hx (by rw [kx]; rfl)) hr2
  have hr3 : q_ir (q_r f x 3) fc := Eq.trans (hB.2.2.r hx (by rw [kx]; rfl)) hr3
  have hr4 : q_ir (q_r f x 4) hist := Eq.trans (hB.2.2.r hx (by rw [kx]; rfl)) hr4
  have hr5 : q_ir (q_r f x 5) rep := Eq.trans (hB.2.2.r hx (by rw [kx]; rfl)) hr5
  have hr6 : q_ir (q_r f x 6) now := Eq.trans (hB.2.2.r hx (by rw [kx]; rfl)) hr6
  have hr7 : q_ir (q_r f x 7) dr := Eq.trans (hB.2.2.r hx (by rw [kx]; rfl)) hr7
  have hr8 : q_ir (q_r f x 8) sv := Eq.trans (hB.2.2.r hx (by rw [kx]; rfl)) hr8
  have hr9 : q_ir (q_r f fc 0) tr := Eq.trans (hB.2.2.r hfc (by rw [kfc]; rfl)) hr9
  have hr10 : q_ir (q_r f so 0) ba := Eq.trans (hB.2.2.r hso (by rw [kso]; rfl)) hr10
  have hr11 : q_ir (q_r f dr 0) nds := Eq.trans (hB.2.2.r hdr (by rw [kdr]; rfl)) hr11
  have hr12 : q_ir (q_r f mo 1) bu := Eq.trans (hB.2.2.r hmo (by rw [kmo]; rfl)) hr12
  have hr13 : q_ir (q_r f mo 13) sr := Eq.trans (hB.2.2.r hmo (by rw [kmo]; rfl)) hr13
  have hr14 : q_ir (q_r f mo 14) sd := Eq.trans (hB.2.2.r hmo (by rw [kmo]; rfl)) hr14
  have hr15 : q_ir (q_r f mo 15) as := Eq.trans (hB.2.2.r hmo (by rw [kmo]; rfl)) hr15
  have hr16 : q_ir (q_r f mo 16) aw := Eq.trans (hB.2.2.r hmo (by rw [kmo]; rfl)) hr16
  have hr17 : q_ir (q_r f mo 17) pa := Eq.trans (hB.2.2.r hmo (by rw [kmo]; rfl)) hr17
  have hr18 : q_ir (q_r f mo 18) nm := Eq.trans (hB.2.2.r hmo (by rw [kmo]; rfl)) hr18
  have hr19 : q_ir (q_r f mo 19) snm := Eq.trans (hB.2.2.r hmo (by rw [kmo]; rfl)) hr19
  have hr20 : q_ir (q_r f mo 20) anm := Eq.trans (hB.2.2.r hmo (by rw [kmo]; rfl)) hr20
  have hr21 : q_ir (q_r f mo 24) hp := Eq.trans (hB.2.2.r hmo (by rw [kmo]; rfl)) hr21
  have hr22 : q_ir (q_r f mo 25) dy := Eq.trans (hB.2.2.r hmo (by rw [kmo]; rfl)) hr22
  have hr23 : q_ir (q_r f mo 29) cs := Eq.trans (hB.2.2.r hmo (by rw [kmo]; rfl)) hr23
  have hr24 : q_ir (q_r f mo 30) c1 := Eq.trans (hB.2.2.r hmo (by rw [kmo]; rfl)) hr24
  have hr25 : q_ir (q_r f mo 31) c2 := Eq.trans (hB.2.2.r hmo (by rw [kmo]; rfl)) hr25
  have hr26 : q_ir (q_r f mo 32) c3 := Eq.trans (hB.2.2.r hmo (by rw [kmo]; rfl)) hr26
  have hr27 : q_ir (q_r f mo 33) bg := Eq.trans (hB.2.2.r hmo (by rw [kmo]; rfl)) hr27
  have hr28 : q_ir (q_r f mo 34) lp := Eq.trans (hB.2.2.r hmo (by rw [kmo]; rfl)) hr28
  have hr29 : q_ir (q_r f mo 38) rp := Eq.trans (hB.2.2.r hmo (by rw [kmo]; rfl)) hr29
  have hij : tk_ij K L f nds := tk_ij_tr hij (fun i9 => hB.2.2.r hnds (by rw [knds]; rfl))
  obtain ⟨x1, ex1⟩ : ∃ zz, q_is (q_z f sr 3) zz := ⟨_, q_isr _⟩
  obtain ⟨lx1, ux1⟩ : 0 ≤ x1 ∧ x1 ≤ 9999 := q_isb ex1 ⟨(hgr 3 (by decide)).1, ht3⟩
  obtain ⟨x2, ex2⟩ : ∃ zz, q_is (q_z f sr 4) zz := ⟨_, q_isr _⟩
  obtain ⟨lx2, ux2⟩ : 0 ≤ x2 ∧ x2 ≤ 60 := q_isb ex2 ⟨(hgr 4 (by decide)).1, ht4⟩
  refine q_ald_n cx dL_law_856 rfl (lv_at hl 4 rfl) ?_
  refine q_cVi (As := []) (rest := []) cx hB (fun q h => hLA q h) hN hx kx (by decide) rfl (x_widest l g hN hB.2.1 x hx kx so hso kso rd hrd krd scr hscr kscr fc hfc kfc hist hhist khist rep hrep krep now hnow know dr hdr kdr sv hsv ksv tr htr ktr hr0 hr1 hr2 hr3 hr4 hr5 hr6 hr7 hr8 hr9) q_cL_194 q_dX11_widest ⟨by decide, by show cells + 0 ≤ 601024; omega, by show slots + 0 ≤ 7293034; omega⟩ rfl rfl hl.1 rfl (Nat.le_of_ble_eq_true rfl) dL_law_857 (fun y4 H locs f3 ry4 h5 hF hB => ?_)
  obtain rfl := h5
  refine lv_pop cx.1 cx.2.1 dL_law_860 rfl ?_
  refine q_ald_n cx dL_law_861 rfl (lv_at hl 3 rfl) ?_
  refine q_cVi (As := []) (rest := []) cx hB (fun q h => hLA q h) hN hmo kmo (by decide) rfl (r_widest l g hN hB.2.1 mo hmo kmo sr hsr ksr hp hhp khp hr13 hr21 hgr) q_cL_197 q_dX12_widest ⟨by decide, by show cells + 0 ≤ 601024; omega, by show slots + 0 ≤ 7293034; omega⟩ rfl rfl hl.1 rfl (Nat.le_of_ble_eq_true rfl) dL_law_862 (fun y7 H locs f6 ry7 h8 hF hB => ?_)
  obtain ⟨ly7, uy7⟩ := h8
  have z9 : q_is (q_z f6 so 1) tn := Eq.trans (hF.z hso (by rw [kso]; rfl)) hn0
  have z10 : q_is (q_z f6 mo 2) tn := Eq.trans (hF.z hmo (by rw [kmo]; rfl)) hn1
  have z11 : q_is (q_z f6 sr 3) x1 := Eq.trans (hF.z hsr (by rw [ksr]; rfl)) ex1
  have z12 : q_is (q_z f6 sr 4) x2 := Eq.trans (hF.z hsr (by rw [ksr]; rfl)) ex2
  have z13 : q_ir (q_r f6 x 0) so := Eq.trans (hF.r hx (by rw [kx]; rfl)) hr0
  have z14 : q_ir (q_r f6 x 1) rd := Eq.trans (hF.r hx (by rw [kx]; rfl)) hr1
  have z15 : q_ir (q_r f6 x 2) scr := Eq.trans (hF.r hx (by rw [kx]; rfl)) hr2
  have z16 : q_ir (q_r f6 x 3) fc := Eq.trans (hF.r hx (by rw [kx]; rfl)) hr3
  have z17 : q_ir (q_r f6 x 4) hist := Eq.trans (hF.r hx (by rw [kx]; rfl)) hr4
  have z18 : q_ir (q_r f6 x 5) rep := Eq.trans (hF.r hx (by rw [kx]; rfl)) hr5
  have z19 : q_ir (q_r f6 x 6) now := Eq.trans (hF.r hx (by rw [kx]; rfl)) hr6
  have z20 : q_ir (q_r f6 x 7) dr := Eq.trans (hF.r hx (by rw [kx]; rfl)) hr7
  have z21 : q_ir (q_r f6 x 8) sv := Eq.trans (hF.r hx (by rw [kx]; rfl)) hr8
  have z22 : q_ir (q_r f6 fc 0) tr := Eq.trans (hF.r hfc (by rw [kfc]; rfl)) hr9
  have z23 : q_ir (q_r f6 so 0) ba := Eq.trans (hF.r hso (by rw [kso]; rfl)) hr10
  have z24 : q_ir (q_r f6 dr 0) nds := Eq.trans (hF.r hdr (by rw [kdr]; rfl)) hr11
  have z25 : q_ir (q_r f6 mo 1) bu := Eq.trans (hF.r hmo (by rw [kmo]; rfl)) hr12
  have z26 : q_ir (q_r f6 mo 13) sr := Eq.trans (hF.r hmo (by rw [kmo]; rfl)) hr13
  have z27 : q_ir (q_r f6 mo 14) sd := Eq.trans (hF.r hmo (by rw [kmo]; rfl)) hr14
  have z28 : q_ir (q_r f6 mo 15) as := Eq.trans (hF.r hmo (by rw [kmo]; rfl)) hr15
  have z29 : q_ir (q_r f6 mo 16) aw := Eq.trans (hF.r hmo (by rw [kmo]; rfl)) hr16
  have z30 : q_ir (q_r f6 mo 17) pa := Eq.trans (hF.r hmo (by rw [kmo]; rfl)) hr17
  have z31 : q_ir (q_r f6 mo 18) nm := Eq.trans (hF.r hmo (by rw [kmo]; rfl)) hr18
  have z32 : q_ir (q_r f6 mo 19) snm := Eq.trans (hF.r hmo (by rw [kmo]; rfl)) hr19
  have z33 : q_ir (q_r f6 mo 20) anm := Eq.trans (hF.r hmo (by rw [kmo]; rfl)) hr20
  have z34 : q_ir (q_r f6 mo 24) hp := Eq.trans (hF.r hmo (by rw [kmo]; rfl)) hr21
  have z35 : q_ir (q_r f6 mo 25) dy := Eq.trans (hF.r hmo (by rw [kmo]; rfl)) hr22
  have z36 : q_ir (q_r f6 mo 29) cs := Eq.trans (hF.r hmo (by rw [kmo]; rfl)) hr23
  have z37 : q_ir (q_r f6 mo 30) c1 := Eq.trans (hF.r hmo (by rw [kmo]; rfl)) hr24
  have z38 : q_ir (q_r f6 mo 31) c2 := Eq.trans (hF.r hmo (by rw [kmo]; rfl)) hr25
  have z39 : q_ir (q_r f6 mo 32) c3 := Eq.trans (hF.r hmo (by rw [kmo]; rfl)) hr26
  have z40 : q_ir (q_r f6 mo 33) bg := Eq.trans (hF.r hmo (by rw [kmo]; rfl)) hr27
  have z41 : q_ir (q_r f6 mo 34) lp := Eq.trans (hF.r hmo (by rw [kmo]; rfl)) hr28
  have z42 : q_ir (q_r f6 mo 38) rp := Eq.trans (hF.r hmo (by rw [kmo]; rfl)) hr29
  have g43 : q_gr f6 sr := q_gr_fr hgr (fun i9 _ => hF.z hsr (by rw [ksr]; rfl))
  have g44 : q_pk f6 mo pa := q_pk_tr hpk (hF.z hmo (by rw [kmo]; rfl)) (fun i9 => hF.z hpa (by rw [kpa]; rfl))
  have g45 : q_sv f6 mo sd := q_sv_tr hsd9 (hF.z hmo (by rw [kmo]; rfl)) (fun i9 => hF.z hsd (by rw [ksd]; rfl))
  have g46 : tk_bb f6 bu ba tn := tk_bb_tr hbb (fun i9 => hF.z hbu (by rw [kbu]; rfl)) (fun i9 => hF.z hba (by rw [kba]; rfl))
  have g47 : tk_ij K L f6 nds := tk_ij_tr hij (fun i9 => hF.r hnds (by rw [knds]; rfl))
  refine lv_pop cx.1 cx.2.1 dL_law_865 rfl ?_
  refine lv_goto (tgt := 1521) cx.1 cx.2.1 dL_law_866 (by decide) ?_
  refine W.widen (k := cells + 6) (n := slots + 36) (by omega) (by omega) ?_
  exact kk f6 H locs ls tn hB ⟨⟨z9, (Eq.trans z10 (by omega)), by omega, by omega⟩, g43, g44, g45, q_isu z11 (by omega), q_isu z12 (by omega), tk_bb_le g46 (by omega)⟩ (lv_sub hl [0, 1, 2, 3, 4, 5] rfl)
set_option maxHeartbeats 4000000 in
set_option maxRecDepth 100000 in
theorem law_c869 {p : Program} {l : Launch} {e : Env} {s : State} {m : MethodId} {below : List Frame} {meth : Method} {c : Code} {b N9 : Nat} {xs : Nat → Int32} (hfl : l.stackTraces = false) (hN9 : N9 ≤ 3072) (C0 : lw_At p s m meth c b N9 xs) (cx : CallFix p m c cL_law 10 s #[Value.ref b] q_al RL) {g : q_G} {ad : Nat → Nat} {K : Nat → Nat} {L : List Nat} (hN : L.Nodup) (hLA : ∀ q, q ∈ L → s.heap.size ≤ q) (hX : q_X ad (fun q => q ∈ L) s) {f0 : Nat → va_E} {x : Nat} (hx : x ∈ L) (kx : K x = 11) {so : Nat} (hso : so ∈ L) (kso : K so = 8) {rd : Nat} (hrd : rd ∈ L) (krd : K rd = 9) {scr : Nat} (hscr : scr ∈ L) (kscr : K scr = 7) {fc : Nat} (hfc : fc ∈ L) (kfc : K fc = 1) {hist : Nat} (hhist : hist ∈ L) (khist : K hist = 2) {rep : Nat} (hrep : rep ∈ L) (krep : K rep = 6) {now : Nat} (hnow : now ∈ L) (know : K now = 10) {dr : Nat} (hdr : dr ∈ L) (kdr : K dr = 13) {sv : Nat} (hsv : sv ∈ L) (ksv : K sv = 14) {tr : Nat} (htr : tr ∈ L) (ktr : K tr = 15) {ba : Nat} (hba : ba ∈ L) (kba : K ba = 142) {nds : Nat} (hnds : nds ∈ L) (knds : K nds = 111) {mo : Nat} (hmo : mo ∈ L) (kmo : K mo = 12) {bu : Nat} (hbu : bu ∈ L) (kbu : K bu = 150) {sr : Nat} (hsr : sr ∈ L) (ksr : K sr = 151) {sd : Nat} (hsd : sd ∈ L) (ksd : K sd = 152) {as : Nat} (has : as ∈ L) (kas : K as = 153) {aw : Nat} (haw : aw ∈ L) (kaw : K aw = 154) {pa : Nat} (hpa : pa ∈ L) (kpa : K pa = 155) {nm : Nat} (hnm : nm ∈ L) (knm : K nm = 156) {snm : Nat} (hsnm : snm ∈ L) (ksnm : K snm = 157) {anm : Nat} (hanm : anm ∈ L) (kanm : K anm = 158) {hp : Nat} (hhp : hp ∈ L) (khp : K hp = 159) {dy : Nat} (hdy : dy ∈ L) (kdy : K dy = 160) {cs : Nat} (hcs : cs ∈ L) (kcs : K cs = 161) {c1 : Nat} (hc1 : c1 ∈ L) (kc1 : K c1 = 162) {c2 : Nat} (hc2 : c2 ∈ L) (kc2 : K c2 = 163) {c3 : Nat} (hc3 : c3 ∈ L) (kc3 : K c3 = 164) {bg : Nat} (hbg : bg ∈ L) (kbg : K bg = 165) {lp : Nat} (hlp : lp ∈ L) (klp : K lp = 166) {rp : Nat} (hrp : rp ∈ L) (krp : K rp = 167) {out : Nat} (hout : out ∈ L) (kout : K out = 168) {outD : Nat} (houtD : outD ∈ L) (koutD : K outD = 169) (hr0 : q_ir (q_r f0 x 0) so) (hr1 : q_ir (q_r f0 x 1) rd) (hr2 : q_ir (q_r f0 x 2) scr) (hr3 : q_ir (q_r f0 x 3) fc) (hr4 : q_ir (q_r f0 x 4) hist) (hr5 : q_ir (q_r f0 x 5) rep) (hr6 : q_ir (q_r f0 x 6) now) (hr7 : q_ir (q_r f0 x 7) dr) (hr8 : q_ir (q_r f0 x 8) sv) (hr9 : q_ir (q_r f0 fc 0) tr) (hr10 : q_ir (q_r f0 so 0) ba) (hr11 : q_ir (q_r f0 dr 0) nds) (hr12 : q_ir (q_r f0 mo 1) bu) (hr13 : q_ir (q_r f0 mo 13) sr) (hr14 : q_ir (q_r f0 mo 14) sd) (hr15 : q_ir (q_r f0 mo 15) as) (hr16 : q_ir (q_r f0 mo 16) aw) (hr17 : q_ir (q_r f0 mo 17) pa) (hr18 : q_ir (q_r f0 mo 18) nm) (hr19 : q_ir (q_r f0 mo 19) snm) (hr20 : q_ir (q_r f0 mo 20) anm) (hr21 : q_ir (q_r f0 mo 24) hp) (hr22 : q_ir (q_r f0 mo 25) dy) (hr23 : q_ir (q_r f0 mo 29) cs) (hr24 : q_ir (q_r f0 mo 30) c1) (hr25 : q_ir (q_r f0 mo 31) c2) (hr26 : q_ir (q_r f0 mo 32) c3) (hr27 : q_ir (q_r f0 mo 33) bg) (hr28 : q_ir (q_r f0 mo 34) lp) (hr29 : q_ir (q_r f0 mo 38) rp) (hij : tk_ij K L f0 nds) {f : Nat → va_E} {H : Heap} {locs : List Loc} {ls : Array Slot} {cells slots : Nat} {ii tn : Int} (hB : q_B g K L (fun q => s.heap.size ≤ q) [(0, 0, 6), (2, 1, 2), (3, 0, 4), (4, 0, 7), (5, 0, 9), (6, 1, 1), (7, 1, 4), (8, 1, 9), (9, 0, 2), (10, 3, 15), (11, 9, 9), (12, 0, 0), (12, 2, 12), (12, 21, 23), (12, 26, 28), (12, 35, 37), (12, 39, 40), (13, 3, 15), (14, 3, 15), (15, 3, 15), (16, 3, 15), (17, 0, 9), (18, 0, 9), (19, 0, 9), (20, 0, 9), (21, 0, 4), (22, 0, 4), (23, 0, 4), (24, 0, 4), (25, 0, 7), (26, 0, 7), (27, 0, 7), (28, 0, 7), (142, 0, 599), (143, 0, 599), (150, 0, 599), (151, 0, 657), (152, 0, 657), (153, 0, 657), (154, 0, 657), (155, 0, 3947), (156, 0, 9), (157, 0, 9), (158, 0, 9), (159, 0, 9), (160, 0, 9), (161, 0, 59), (162, 0, 58), (163, 0, 58), (164, 0, 58), (165, 0, 1), (166, 0, 1), (167, 0, 479), (168, 0, 0), (169, 0, 0)] f0 f s H locs) (hI : q_Iv4 f so mo sr pa sd bu ba tn) (hl : lv_has ls 10 [(5, .int (q_i ii)), (4, .ref outD), (3, .ref out), (2, .ref mo), (1, .ref x), (0, .ref b)]) (hi0 : 0 ≤ ii) (hi6 : ii + 6 ≤ N9) (hce : cells + 6 ≤ 10000) (hse : slots + 36 ≤ 100000) (kk : ∀ (f1 : Nat → va_E) (H1 : Heap) (locs1 : List Loc) (ls1 : Array Slot) (tn1 : Int), q_B g K L (fun q => s.heap.size ≤ q) [(0, 0, 6), (2, 1, 2), (3, 0, 4), (4, 0, 7), (5, 0, 9), (6, 1, 1), (7, 1, 4), (8, 1, 9), (9, 0, 2), (10, 3, 15), (11, 9, 9), (12, 0, 0), (12, 2, 12), (12, 21, 23), (12, 26, 28), (12, 35, 37), (12, 39, 40), (13, 3, 15), (14, 3, 15), (15, 3, 15), (16, 3, 15), (17, 0, 9), (18, 0, 9), (19, 0, 9), (20, 0, 9), (21, 0, 4), (22, 0, 4), (23, 0, 4), (24, 0, 4), (25, 0, 7), (26, 0, 7), (27, 0, 7), (28, 0, 7), (142, 0, 599), (143, 0, 599), (150, 0, 599), (151, 0, 657), (152, 0, 657), (153, 0, 657), (154, 0, 657), (155, 0, 3947), (156, 0, 9), (157, 0, 9), (158, 0, 9), (159, 0, 9), (160, 0, 9), (161, 0, 59), (162, 0, 58), (163, 0, 58), (164, 0, 58), (165, 0, 1), (166, 0, 1), (167, 0, 479), (168, 0, 0), (169, 0, 0)] f0 f1 s H1 locs1 → q_Iv4 f1 so mo sr pa sd bu ba tn1 → lv_has ls1 10 [(5, .int (q_i ii)), (4, .ref outD), (3, .ref out), (2, .ref mo), (1, .ref x), (0, .ref b)] → W p l e room_1 s m #[Value.ref b] below meth c H1 locs1 (cells + 6) (slots + 36) (lw_Z below #[Value.ref b] s) (F0 m 1521 ls1 [])) : W p l e room_1 s m #[Value.ref b] below meth c H locs (cells) (slots) (lw_Z below #[Value.ref b] s) (F0 m 869 ls []) := by
  have hXs := C0.2.2.2.2.2.2.1
  have hbl := C0.2.2.2.2.2.2.2.1
  have hbA := q_bA hbl
  obtain ⟨⟨hn0, hn1, ltn, utn⟩, hgr, hpk, hsd9, ht3, ht4, hbb⟩ := hI
  have hr0 : q_ir (q_r f x 0) so := Eq.trans (hB.2.2.r hx (by rw [kx]; rfl)) hr0
  have hr1 : q_ir (q_r f x 1) rd := Eq.trans (hB.2.2.r hx (by rw [kx]; rfl)) hr1
  have hr2 : q_ir (q_r f x 2) scr := Eq.trans (hB.2.2.r hx (by rw [kx]; rfl)) hr2
  have hr3 : q_ir (q_r f x 3) fc := Eq.trans (hB.2.2.r hx (by rw [kx]; rfl)) hr3
  have hr4 : q_ir (q_r f x 4) hist := Eq.trans (hB.2.2.r hx (by rw [kx]; rfl)) hr4
  have hr5 : q_ir (q_r f x 5) rep := Eq.trans (hB.2.2.r hx (by rw [kx]; rfl)) hr5
  have hr6 : q_ir (q_r f x 6) now := Eq.trans (hB.2.2.r hx (by rw [kx]; rfl)) hr6
  have hr7 : q_ir (q_r f x 7) dr := Eq.trans (hB.2.2.r hx (by rw [kx]; rfl)) hr7
  have hr8 : q_ir (q_r f x 8) sv := Eq.trans (hB.2.2.r hx (by rw [kx]; rfl)) hr8
  have hr9 : q_ir (q_r f fc 0) tr := Eq.trans (hB.2.2.r hfc (by rw [kfc]; rfl)) hr9
  have hr10 : q_ir (q_r f so 0) ba := Eq.trans (hB.2.2.r hso (by rw [kso]; rfl)) hr10
  have hr11 : q_ir (q_r f dr 0) nds := Eq.trans (hB.2.2.r hdr (by rw [kdr]; rfl)) hr11
  have hr12 : q_ir (q_r f mo 1) bu := Eq.trans (hB.2.2.r hmo (by rw [kmo]; rfl)) hr12
  have hr13 : q_ir (q_r f mo 13) sr := Eq.trans (hB.2.2.r hmo (by rw [kmo]; rfl)) hr13
  have hr14 : q_ir (q_r f mo 14) sd := Eq.trans (hB.2.2.r hmo (by rw [kmo]; rfl)) hr14
  have hr15 : q_ir (q_r f mo 15) as := Eq.trans (hB.2.2.r hmo (by rw [kmo]; rfl)) hr15
  have hr16 : q_ir (q_r f mo 16) aw := Eq.trans (hB.2.2.r hmo (by rw [kmo]; rfl)) hr16
  have hr17 : q_ir (q_r f mo 17) pa := Eq.trans (hB.2.2.r hmo (by rw [kmo]; rfl)) hr17
  have hr18 : q_ir (q_r f mo 18) nm := Eq.trans (hB.2.2.r hmo (by rw [kmo]; rfl)) hr18
  have hr19 : q_ir (q_r f mo 19) snm := Eq.trans (hB.2.2.r hmo (by rw [kmo]; rfl)) hr19
  have hr20 : q_ir (q_r f mo 20) anm := Eq.trans (hB.2.2.r hmo (by rw [kmo]; rfl)) hr20
  have hr21 : q_ir (q_r f mo 24) hp := Eq.trans (hB.2.2.r hmo (by rw [kmo]; rfl)) hr21
  have hr22 : q_ir (q_r f mo 25) dy := Eq.trans (hB.2.2.r hmo (by rw [kmo]; rfl)) hr22
  have hr23 : q_ir (q_r f mo 29) cs := Eq.trans (hB.2.2.r hmo (by rw [kmo]; rfl)) hr23
  have hr24 : q_ir (q_r f mo 30) c1 := Eq.trans (hB.2.2.r hmo (by rw [kmo]; rfl)) hr24
  have hr25 : q_ir (q_r f mo 31) c2 := Eq.trans (hB.2.2.r hmo (by rw [kmo]; rfl)) hr25
  have hr26 : q_ir (q_r f mo 32) c3 := Eq.trans (hB.2.2.r hmo (by rw [kmo]; rfl)) hr26
  have hr27 : q_ir (q_r f mo 33) bg := Eq.trans (hB.2.2.r hmo (by rw [kmo]; rfl)) hr27
  have hr28 : q_ir (q_r f mo 34) lp := Eq.trans (hB.2.2.r hmo (by rw [kmo]; rfl)) hr28
  have hr29 : q_ir (q_r f mo 38) rp := Eq.trans (hB.2.2.r hmo (by rw [kmo]; rfl)) hr29
  have hij : tk_ij K L f nds := tk_ij_tr hij (fun i9 => hB.2.2.r hnds (by rw [knds]; rfl))
  obtain ⟨x1, ex1⟩ : ∃ zz, q_is (q_z f sr 3) zz := ⟨_, q_isr _⟩
  obtain ⟨lx1, ux1⟩ : 0 ≤ x1 ∧ x1 ≤ 9999 := q_isb ex1 ⟨(hgr 3 (by decide)).1, ht3⟩
  obtain ⟨x2, ex2⟩ : ∃ zz, q_is (q_z f sr 4) zz := ⟨_, q_isr _⟩
  obtain ⟨lx2, ux2⟩ : 0 ≤ x2 ∧ x2 ≤ 60 := q_isb ex2 ⟨(hgr 4 (by decide)).1, ht4⟩
  refine q_ald_n cx dL_law_869 rfl (lv_at hl 4 rfl) ?_
  refine q_ald_n cx dL_law_870 rfl (lv_at hl 5 rfl) ?_
  refine lv_iload cx.1 cx.2.1 dL_law_871 (lv_at hl 0 rfl) ?_
  refine q_iconst cx dL_law_873 ?_
  refine q_iadd cx dL_law_874 ?_
  refine va_sld cx.1 cx.2.1 hXs hbl hbA hB.1.2.2.2 (q_in (by omega) (by omega) (by omega)) dL_law_875 ?_
  obtain ⟨a3, ra3, ea3⟩ : ∃ z : Int, q_R z ∧ xs (q_i (ii + 1)).toNatClampNeg = q_i z := ⟨_, q_rng _, (q_of _).symm⟩
  rw [ea3]
  refine q_ald_n cx dL_law_876 rfl (lv_at hl 2 rfl) ?_
  refine q_cWS (As := [.ref x, .int (q_i a3), .ref out]) (rest := []) cx hX hB (fun q h => hLA q h) (fun q h1 h2 => absurd h1 (Nat.not_le_of_lt h2)) hN (w_arrives l g ad hN hB.2.1 hfl x hx kx a3 (by omega) (by omega) out hout kout so hso kso rd hrd krd scr hscr kscr fc hfc kfc hist hhist khist rep hrep krep now hnow know dr hdr kdr sv hsv ksv tr htr ktr hr0 hr1 hr2 hr3 hr4 hr5 hr6 hr7 hr8 hr9) q_cL_198 q_dL_arrives ⟨by decide, by show cells + 1 ≤ 601024; omega, by show slots + 6 ≤ 7293034; omega⟩ rfl rfl hl.1 rfl (Nat.le_of_ble_eq_true rfl) dL_law_877 (fun v9 H locs f4 h6 hF hB => ?_)
  obtain ⟨y5, rfl, ry5, h6⟩ := h6
  refine W.eq (g2 := F0 m 880 ls [.int (q_i y5)]) rfl ?_
  obtain ⟨ly5, uy5⟩ := h6
  have z7 : q_is (q_z f4 so 1) tn := Eq.trans (hF.z hso (by rw [kso]; rfl)) hn0
  have z8 : q_is (q_z f4 mo 2) tn := Eq.trans (hF.z hmo (by rw [kmo]; rfl)) hn1
  have z9 : q_is (q_z f4 sr 3) x1 := Eq.trans (hF.z hsr (by rw [ksr]; rfl)) ex1
  have z10 : q_is (q_z f4 sr 4) x2 := Eq.trans (hF.z hsr (by rw [ksr]; rfl)) ex2
  have z11 : q_ir (q_r f4 x 0) so := Eq.trans (hF.r hx (by rw [kx]; rfl)) hr0
  have z12 : q_ir (q_r f4 x 1) rd := Eq.trans (hF.r hx (by rw [kx]; rfl)) hr1
  have z13 : q_ir (q_r f4 x 2) scr := Eq.trans (hF.r hx (by rw [kx]; rfl)) hr2
  have z14 : q_ir (q_r f4 x 3) fc := Eq.trans (hF.r hx (by rw [kx]; rfl)) hr3
  have z15 : q_ir (q_r f4 x 4) hist := Eq.trans (hF.r hx (by rw [kx]; rfl)) hr4
  have z16 : q_ir (q_r f4 x 5) rep := Eq.trans (hF.r hx (by rw [kx]; rfl)) hr5
  have z17 : q_ir (q_r f4 x 6) now := Eq.trans (hF.r hx (by rw [kx]; rfl)) hr6
  have z18 : q_ir (q_r f4 x 7) dr := Eq.trans (hF.r hx (by rw [kx]; rfl)) hr7
  have z19 : q_ir (q_r f4 x 8) sv := Eq.trans (hF.r hx (by rw [kx]; rfl)) hr8
  have z20 : q_ir (q_r f4 fc 0) tr := Eq.trans (hF.r hfc (by rw [kfc]; rfl)) hr9
  have z21 : q_ir (q_r f4 so 0) ba := Eq.trans (hF.r hso (by rw [kso]; rfl)) hr10
  have z22 : q_ir (q_r f4 dr 0) nds := Eq.trans (hF.r hdr (by rw [kdr]; rfl)) hr11
  have z23 : q_ir (q_r f4 mo 1) bu := Eq.trans (hF.r hmo (by rw [kmo]; rfl)) hr12
  have z24 : q_ir (q_r f4 mo 13) sr := Eq.trans (hF.r hmo (by rw [kmo]; rfl)) hr13
  have z25 : q_ir (q_r f4 mo 14) sd := Eq.trans (hF.r hmo (by rw [kmo]; rfl)) hr14
  have z26 : q_ir (q_r f4 mo 15) as := Eq.trans (hF.r hmo (by rw [kmo]; rfl)) hr15
  have z27 : q_ir (q_r f4 mo 16) aw := Eq.trans (hF.r hmo (by rw [kmo]; rfl)) hr16
  have z28 : q_ir (q_r f4 mo 17) pa := Eq.trans (hF.r hmo (by rw [kmo]; rfl)) hr17
  have z29 : q_ir (q_r f4 mo 18) nm := Eq.trans (hF.r hmo (by rw [kmo]; rfl)) hr18
  have z30 : q_ir (q_r f4 mo 19) snm := Eq.trans (hF.r hmo (by rw [kmo]; rfl)) hr19
  have z31 : q_ir (q_r f4 mo 20) anm := Eq.trans (hF.r hmo (by rw [kmo]; rfl)) hr20
  have z32 : q_ir (q_r f4 mo 24) hp := Eq.trans (hF.r hmo (by rw [kmo]; rfl)) hr21
  have z33 : q_ir (q_r f4 mo 25) dy := Eq.trans (hF.r hmo (by rw [kmo]; rfl)) hr22
  have z34 : q_ir (q_r f4 mo 29) cs := Eq.trans (hF.r hmo (by rw [kmo]; rfl)) hr23
  have z35 : q_ir (q_r f4 mo 30) c1 := Eq.trans (hF.r hmo (by rw [kmo]; rfl)) hr24
  have z36 : q_ir (q_r f4 mo 31) c2 := Eq.trans (hF.r hmo (by rw [kmo]; rfl)) hr25
  have z37 : q_ir (q_r f4 mo 32) c3 := Eq.trans (hF.r hmo (by rw [kmo]; rfl)) hr26
  have z38 : q_ir (q_r f4 mo 33) bg := Eq.trans (hF.r hmo (by rw [kmo]; rfl)) hr27
  have z39 : q_ir (q_r f4 mo 34) lp := Eq.trans (hF.r hmo (by rw [kmo]; rfl)) hr28
  have z40 : q_ir (q_r f4 mo 38) rp := Eq.trans (hF.r hmo (by rw [kmo]; rfl)) hr29
  have g41 : q_gr f4 sr := q_gr_fr hgr (fun i9 _ => hF.z hsr (by rw [ksr]; rfl))
  have g42 : q_pk f4 mo pa := q_pk_tr hpk (hF.z hmo (by rw [kmo]; rfl)) (fun i9 => hF.z hpa (by rw [kpa]; rfl))
  have g43 : q_sv f4 mo sd := q_sv_tr hsd9 (hF.z hmo (by rw [kmo]; rfl)) (fun i9 => hF.z hsd (by rw [ksd]; rfl))
  have g44 : tk_bb f4 bu ba tn := tk_bb_tr hbb (fun i9 => hF.z hbu (by rw [kbu]; rfl)) (fun i9 => hF.z hba (by rw [kba]; rfl))
  have g45 : tk_ij K L f4 nds := tk_ij_tr hij (fun i9 => hF.r hnds (by rw [knds]; rfl))
  refine lv_istore (lv' := [(6, .int (q_i y5)), (5, .int (q_i ii)), (4, .ref outD), (3, .ref out), (2, .ref mo), (1, .ref x), (0, .ref b)]) cx.1 cx.2.1 dL_law_880 hl (by decide) rfl (fun ls hl => ?_)
  refine q_ald_n cx dL_law_882 rfl (lv_at hl 4 rfl) ?_
  refine q_ald_n cx dL_law_883 rfl (lv_at hl 6 rfl) ?_
  refine lv_iload cx.1 cx.2.1 dL_law_884 (lv_at hl 1 rfl) ?_
  refine q_iconst cx dL_law_886 ?_
  refine q_iadd cx dL_law_887 ?_
  refine va_sld cx.1 cx.2.1 hXs hbl hbA hB.1.2.2.2 (q_in (by omega) (by omega) (by omega)) dL_law_888 ?_
  rw [ea3]
  refine q_cVi (As := [.int (q_i a3)]) (rest := []) cx hB (fun q h => hLA q h) hN hmo kmo (by decide) rfl (r_arrives l g hN hB.2.1 mo hmo kmo a3 (by omega) (by omega) sr hsr ksr hp hhp khp dy hdy kdy aw haw kaw x1 (by omega) (by omega) x2 (by omega) (by omega) z9 z10 z24 z32 z33 z27 g41) q_cL_200 q_dX12_arrives ⟨by decide, by show cells + 1 ≤ 601024; omega, by show slots + 6 ≤ 7293034; omega⟩ rfl rfl hl.1 rfl (Nat.le_of_ble_eq_true rfl) dL_law_889 (fun y47 H locs f46 ry47 h48 hF hB => ?_)
  obtain ⟨ly47, uy47, lz49, uz49, lz50, uz50, g51⟩ := h48
  have z52 : q_is (q_z f46 so 1) tn := Eq.trans (hF.z hso (by rw [kso]; rfl)) z7
  have z53 : q_is (q_z f46 mo 2) tn := Eq.trans (hF.z hmo (by rw [kmo]; rfl)) z8
  have z54 : q_ir (q_r f46 x 0) so := Eq.trans (hF.r hx (by rw [kx]; rfl)) z11
  have z55 : q_ir (q_r f46 x 1) rd := Eq.trans (hF.r hx (by rw [kx]; rfl)) z12
  have z56 : q_ir (q_r f46 x 2) scr := Eq.trans (hF.r hx (by rw [kx]; rfl)) z13
  have z57 : q_ir (q_r f46 x 3) fc := Eq.trans (hF.r hx (by rw [kx]; rfl)) z14
  have z58 : q_ir (q_r f46 x 4) hist := Eq.trans (hF.r hx (by rw [kx]; rfl)) z15
  have z59 : q_ir (q_r f46 x 5) rep := Eq.trans (hF.r hx (by rw [kx]; rfl)) z16
  have z60 : q_ir (q_r f46 x 6) now := Eq.trans (hF.r hx (by rw [kx]; rfl)) z17
  have z61 : q_ir (q_r f46 x 7) dr := Eq.trans (hF.r hx (by rw [kx]; rfl)) z18
  have z62 : q_ir (q_r f46 x 8) sv := Eq.trans (hF.r hx (by rw [kx]; rfl)) z19
  have z63 : q_ir (q_r f46 fc 0) tr := Eq.trans (hF.r hfc (by rw [kfc]; rfl)) z20
  have z64 : q_ir (q_r f46 so 0) ba := Eq.trans (hF.r hso (by rw [kso]; rfl)) z21
  have z65 : q_ir (q_r f46 dr 0) nds := Eq.trans (hF.r hdr (by rw [kdr]; rfl)) z22
  have z66 : q_ir (q_r f46 mo 1) bu := Eq.trans (hF.r hmo (by rw [kmo]; rfl)) z23
  have z67 : q_ir (q_r f46 mo 13) sr := Eq.trans (hF.r hmo (by rw [kmo]; rfl)) z24
  have z68 : q_ir (q_r f46 mo 14) sd := Eq.trans (hF.r hmo (by rw [kmo]; rfl)) z25
  have z69 : q_ir (q_r f46 mo 15) as := Eq.trans (hF.r hmo (by rw [kmo]; rfl)) z26
  have z70 : q_ir (q_r f46 mo 16) aw := Eq.trans (hF.r hmo (by rw [kmo]; rfl)) z27
  have z71 : q_ir (q_r f46 mo 17) pa := Eq.trans (hF.r hmo (by rw [kmo]; rfl)) z28
  have z72 : q_ir (q_r f46 mo 18) nm := Eq.trans (hF.r hmo (by rw [kmo]; rfl)) z29
  have z73 : q_ir (q_r f46 mo 19) snm := Eq.trans (hF.r hmo (by rw [kmo]; rfl)) z30
  have z74 : q_ir (q_r f46 mo 20) anm := Eq.trans (hF.r hmo (by rw [kmo]; rfl)) z31
  have z75 : q_ir (q_r f46 mo 24) hp := Eq.trans (hF.r hmo (by rw [kmo]; rfl)) z32
  have z76 : q_ir (q_r f46 mo 25) dy := Eq.trans (hF.r hmo (by rw [kmo]; rfl)) z33
  have z77 : q_ir (q_r f46 mo 29) cs := Eq.trans (hF.r hmo (by rw [kmo]; rfl)) z34
  have z78 : q_ir (q_r f46 mo 30) c1 := Eq.trans (hF.r hmo (by rw [kmo]; rfl)) z35
  have z79 : q_ir (q_r f46 mo 31) c2 := Eq.trans (hF.r hmo (by rw [kmo]; rfl)) z36
  have z80 : q_ir (q_r f46 mo 32) c3 := Eq.trans (hF.r hmo (by rw [kmo]; rfl)) z37
  have z81 : q_ir (q_r f46 mo 33) bg := Eq.trans (hF.r hmo (by rw [kmo]; rfl)) z38
  have z82 : q_ir (q_r f46 mo 34) lp := Eq.trans (hF.r hmo (by rw [kmo]; rfl)) z39
  have z83 : q_ir (q_r f46 mo 38) rp := Eq.trans (hF.r hmo (by rw [kmo]; rfl)) z40
  have g84 : q_pk f46 mo pa := q_pk_tr g42 (hF.z hmo (by rw [kmo]; rfl)) (fun i9 => hF.z hpa (by rw [kpa]; rfl))
  have g85 : q_sv f46 mo sd := q_sv_tr g43 (hF.z hmo (by rw [kmo]; rfl)) (fun i9 => hF.z hsd (by rw [ksd]; rfl))
  have g86 : tk_bb f46 bu ba tn := tk_bb_tr g44 (fun i9 => hF.z hbu (by rw [kbu]; rfl)) (fun i9 => hF.z hba (by rw [kba]; rfl))
  have g87 : tk_ij K L f46 nds := tk_ij_tr g45 (fun i9 => hF.r hnds (by rw [knds]; rfl))
  obtain ⟨x88, ex88⟩ : ∃ zz, q_is (q_z f46 sr 3) zz := ⟨_, q_isr _⟩
  obtain ⟨lx88, ux88⟩ := q_isb ex88 ⟨lz49, uz49⟩
  obtain ⟨x89, ex89⟩ : ∃ zz, q_is (q_z f46 sr 4) zz := ⟨_, q_isr _⟩
  obtain ⟨lx89, ux89⟩ := q_isb ex89 ⟨lz50, uz50⟩
  refine lv_istore (lv' := [(7, .int (q_i y47)), (6, .int (q_i y5)), (5, .int (q_i ii)), (4, .ref outD), (3, .ref out), (2, .ref mo), (1, .ref x), (0, .ref b)]) cx.1 cx.2.1 dL_law_892 hl (by decide) rfl (fun ls hl => ?_)
  refine lv_goto (tgt := 1521) cx.1 cx.2.1 dL_law_894 (by decide) ?_
  refine W.widen (k := cells + 6) (n := slots + 36) (by omega) (by omega) ?_
  exact kk f46 H locs ls tn hB ⟨⟨z52, (Eq.trans z53 (by omega)), by omega, by omega⟩, g51, g84, g85, q_isu ex88 (by omega), q_isu ex89 (by omega), tk_bb_le g86 (by omega)⟩ (lv_sub hl [2, 3, 4, 5, 6, 7] rfl)
set_option maxHeartbeats 4000000 in
set_option maxRecDepth 100000 in
theorem law_c897 {p : Program} {l : Launch} {e : Env} {s : State} {m : MethodId} {below : List Frame} {meth : Method} {c : Code} {b N9 : Nat} {xs : Nat → Int32} (hfl : l.stackTraces = false) (hN9 : N9 ≤ 3072) (C0 : lw_At p s m meth c b N9 xs) (cx : CallFix p m c cL_law 10 s #[Value.ref b] q_al RL) {g : q_G} {ad : Nat → Nat} {K : Nat → Nat} {L : List Nat} (hN : L.Nodup) (hLA : ∀ q, q ∈ L → s.heap.size ≤ q) (hX : q_X ad (fun q => q ∈ L) s) {f0 : Nat → va_E} {x : Nat} (hx : x ∈ L) (kx : K x = 11) {so : Nat} (hso : so ∈ L) (kso : K so = 8) {rd : Nat} (hrd : rd ∈ L) (krd : K rd = 9) {scr : Nat} (hscr : scr ∈ L) (kscr : K scr = 7) {fc : Nat} (hfc : fc ∈ L) (kfc : K fc = 1) {hist : Nat} (hhist : hist ∈ L) (khist : K hist = 2) {rep : Nat} (hrep : rep ∈ L) (krep : K rep = 6) {now : Nat} (hnow : now ∈ L) (know : K now = 10) {dr : Nat} (hdr : dr ∈ L) (kdr : K dr = 13) {sv : Nat} (hsv : sv ∈ L) (ksv : K sv = 14) {tr : Nat} (htr : tr ∈ L) (ktr : K tr = 15) {ba : Nat} (hba : ba ∈ L) (kba : K ba = 142) {nds : Nat} (hnds : nds ∈ L) (knds : K nds = 111) {mo : Nat} (hmo : mo ∈ L) (kmo : K mo = 12) {bu : Nat} (hbu : bu ∈ L) (kbu : K bu = 150) {sr : Nat} (hsr : sr ∈ L) (ksr : K sr = 151) {sd : Nat} (hsd : sd ∈ L) (ksd : K sd = 152) {as : Nat} (has : as ∈ L) (kas : K as = 153) {aw : Nat} (haw : aw ∈ L) (kaw : K aw = 154) {pa : Nat} (hpa : pa ∈ L) (kpa : K pa = 155) {nm : Nat} (hnm : nm ∈ L) (knm : K nm = 156) {snm : Nat} (hsnm : snm ∈ L) (ksnm : K snm = 157) {anm : Nat} (hanm : anm ∈ L) (kanm : K anm = 158) {hp : Nat} (hhp : hp ∈ L) (khp : K hp = 159) {dy : Nat} (hdy : dy ∈ L) (kdy : K dy = 160) {cs : Nat} (hcs : cs ∈ L) (kcs : K cs = 161) {c1 : Nat} (hc1 : c1 ∈ L) (kc1 : K c1 = 162) {c2 : Nat} (hc2 : c2 ∈ L) (kc2 : K c2 = 163) {c3 : Nat} (hc3 : c3 ∈ L) (kc3 : K c3 = 164) {bg : Nat} (hbg : bg ∈ L) (kbg : K bg = 165) {lp : Nat} (hlp : lp ∈ L) (klp : K lp = 166) {rp : Nat} (hrp : rp ∈ L) (krp : K rp = 167) {out : Nat} (hout : out ∈ L) (kout : K out = 168) {outD : Nat} (houtD : outD ∈ L) (koutD : K outD = 169) (hr0 : q_ir (q_r f0 x 0) so) (hr1 : q_ir (q_r f0 x 1) rd) (hr2 : q_ir (q_r f0 x 2) scr) (hr3 : q_ir (q_r f0 x 3) fc) (hr4 : q_ir (q_r f0 x 4) hist) (hr5 : q_ir (q_r f0 x 5) rep) (hr6 : q_ir (q_r f0 x 6) now) (hr7 : q_ir (q_r f0 x 7) dr) (hr8 : q_ir (q_r f0 x 8) sv) (hr9 : q_ir (q_r f0 fc 0) tr) (hr10 : q_ir (q_r f0 so 0) ba) (hr11 : q_ir (q_r f0 dr 0) nds) (hr12 : q_ir (q_r f0 mo 1) bu) (hr13 : q_ir (q_r f0 mo 13) sr) (hr14 : q_ir (q_r f0 mo 14) sd) (hr15 : q_ir (q_r f0 mo 15) as) (hr16 : q_ir (q_r f0 mo 16) aw) (hr17 : q_ir (q_r f0 mo 17) pa) (hr18 : q_ir (q_r f0 mo 18) nm) (hr19 : q_ir (q_r f0 mo 19) snm) (hr20 : q_ir (q_r f0 mo 20) anm) (hr21 : q_ir (q_r f0 mo 24) hp) (hr22 : q_ir (q_r f0 mo 25) dy) (hr23 : q_ir (q_r f0 mo 29) cs) (hr24 : q_ir (q_r f0 mo 30) c1) (hr25 : q_ir (q_r f0 mo 31) c2) (hr26 : q_ir (q_r f0 mo 32) c3) (hr27 : q_ir (q_r f0 mo 33) bg) (hr28 : q_ir (q_r f0 mo 34) lp) (hr29 : q_ir (q_r f0 mo 38) rp) (hij : tk_ij K L f0 nds) {f : Nat → va_E} {H : Heap} {locs : List Loc} {ls : Array Slot} {cells slots : Nat} {ii tn : Int} (hB : q_B g K L (fun q => s.heap.size ≤ q) [(0, 0, 6), (2, 1, 2), (3, 0, 4), (4, 0, 7), (5, 0, 9), (6, 1, 1), (7, 1, 4), (8, 1, 9), (9, 0, 2), (10, 3, 15), (11, 9, 9), (12, 0, 0), (12, 2, 12), (12, 21, 23), (12, 26, 28), (12, 35, 37), (12, 39, 40), (13, 3, 15), (14, 3, 15), (15, 3, 15), (16, 3, 15), (17, 0, 9), (18, 0, 9), (19, 0, 9), (20, 0, 9), (21, 0, 4), (22, 0, 4), (23, 0, 4), (24, 0, 4), (25, 0, 7), (26, 0, 7), (27, 0, 7), (28, 0, 7), (142, 0, 599), (143, 0, 599), (150, 0, 599), (151, 0, 657), (152, 0, 657), (153, 0, 657), (154, 0, 657), (155, 0, 3947), (156, 0, 9), (157, 0, 9), (158, 0, 9), (159, 0, 9), (160, 0, 9), (161, 0, 59), (162, 0, 58), (163, 0, 58), (164, 0, 58), (165, 0, 1), (166, 0, 1), (167, 0, 479), (168, 0, 0), (169, 0, 0)] f0 f s H locs) (hI : q_Iv4 f so mo sr pa sd bu ba tn) (hl : lv_has ls 10 [(5, .int (q_i ii)), (4, .ref outD), (3, .ref out), (2, .ref mo), (1, .ref x), (0, .ref b)]) (hi0 : 0 ≤ ii) (hi6 : ii + 6 ≤ N9) (hce : cells + 6 ≤ 10000) (hse : slots + 36 ≤ 100000) (kk : ∀ (f1 : Nat → va_E) (H1 : Heap) (locs1 : List Loc) (ls1 : Array Slot) (tn1 : Int), q_B g K L (fun q => s.heap.size ≤ q) [(0, 0, 6), (2, 1, 2), (3, 0, 4), (4, 0, 7), (5, 0, 9), (6, 1, 1), (7, 1, 4), (8, 1, 9), (9, 0, 2), (10, 3, 15), (11, 9, 9), (12, 0, 0), (12, 2, 12), (12, 21, 23), (12, 26, 28), (12, 35, 37), (12, 39, 40), (13, 3, 15), (14, 3, 15), (15, 3, 15), (16, 3, 15), (17, 0, 9), (18, 0, 9), (19, 0, 9), (20, 0, 9), (21, 0, 4), (22, 0, 4), (23, 0, 4), (24, 0, 4), (25, 0, 7), (26, 0, 7), (27, 0, 7), (28, 0, 7), (142, 0, 599), (143, 0, 599), (150, 0, 599), (151, 0, 657), (152, 0, 657), (153, 0, 657), (154, 0, 657), (155, 0, 3947), (156, 0, 9), (157, 0, 9), (158, 0, 9), (159, 0, 9), (160, 0, 9), (161, 0, 59), (162, 0, 58), (163, 0, 58), (164, 0, 58), (165, 0, 1), (166, 0, 1), (167, 0, 479), (168, 0, 0), (169, 0, 0)] f0 f1 s H1 locs1 → q_Iv4 f1 so mo sr pa sd bu ba tn1 → lv_has ls1 10 [(5, .int (q_i ii)), (4, .ref outD), (3, .ref out), (2, .ref mo), (1, .ref x), (0, .ref b)] → W p l e room_1 s m #[Value.ref b] below meth c H1 locs1 (cells + 6) (slots + 36) (lw_Z below #[Value.ref b] s) (F0 m 1521 ls1 [])) : W p l e room_1 s m #[Value.ref b] below meth c H locs (cells) (slots) (lw_Z below #[Value.ref b] s) (F0 m 897 ls []) := by
  have hXs := C0.2.2.2.2.2.2.1
  have hbl := C0.2.2.2.2.2.2.2.1
  have hbA := q_bA hbl
  obtain ⟨⟨hn0, hn1, ltn, utn⟩, hgr, hpk, hsd9, ht3, ht4, hbb⟩ := hI
  have hr0 : q_ir (q_r f x 0) so := Eq.trans (hB.2.2.r hx (by rw [kx]; rfl)) hr0
  have hr1 : q_ir (q_r f x 1) rd := Eq.trans (hB.2.2.r hx (by rw [kx]; rfl)) hr1
  have hr2 : q_ir (q_r f x 2) scr := Eq.trans (hB.2.2.r hx (by rw [kx]; rfl)) hr2
  have hr3 : q_ir (q_r f x 3) fc := Eq.trans (hB.2.2.r hx (by rw [kx]; rfl)) hr3
  have hr4 : q_ir (q_r f x 4) hist := Eq.trans (hB.2.2.r hx (by rw [kx]; rfl)) hr4
  have hr5 : q_ir (q_r f x 5) rep := Eq.trans (hB.2.2.r hx (by rw [kx]; rfl)) hr5
  have hr6 : q_ir (q_r f x 6) now := Eq.trans (hB.2.2.r hx (by rw [kx]; rfl)) hr6
  have hr7 : q_ir (q_r f x 7) dr := Eq.trans (hB.2.2.r hx (by rw [kx]; rfl)) hr7
  have hr8 : q_ir (q_r f x 8) sv := Eq.trans (hB.2.2.r hx (by rw [kx]; rfl)) hr8
  have hr9 : q_ir (q_r f fc 0) tr := Eq.trans (hB.2.2.r hfc (by rw [kfc]; rfl)) hr9
  have hr10 : q_ir (q_r f so 0) ba := Eq.trans (hB.2.2.r hso (by rw [kso]; rfl)) hr10
  have hr11 : q_ir (q_r f dr 0) nds := Eq.trans (hB.2.2.r hdr (by rw [kdr]; rfl)) hr11
  have hr12 : q_ir (q_r f mo 1) bu := Eq.trans (hB.2.2.r hmo (by rw [kmo]; rfl)) hr12
  have hr13 : q_ir (q_r f mo 13) sr := Eq.trans (hB.2.2.r hmo (by rw [kmo]; rfl)) hr13
  have hr14 : q_ir (q_r f mo 14) sd := Eq.trans (hB.2.2.r hmo (by rw [kmo]; rfl)) hr14
  have hr15 : q_ir (q_r f mo 15) as := Eq.trans (hB.2.2.r hmo (by rw [kmo]; rfl)) hr15
  have hr16 : q_ir (q_r f mo 16) aw := Eq.trans (hB.2.2.r hmo (by rw [kmo]; rfl)) hr16
  have hr17 : q_ir (q_r f mo 17) pa := Eq.trans (hB.2.2.r hmo (by rw [kmo]; rfl)) hr17
  have hr18 : q_ir (q_r f mo 18) nm := Eq.trans (hB.2.2.r hmo (by rw [kmo]; rfl)) hr18
  have hr19 : q_ir (q_r f mo 19) snm := Eq.trans (hB.2.2.r hmo (by rw [kmo]; rfl)) hr19
  have hr20 : q_ir (q_r f mo 20) anm := Eq.trans (hB.2.2.r hmo (by rw [kmo]; rfl)) hr20
  have hr21 : q_ir (q_r f mo 24) hp := Eq.trans (hB.2.2.r hmo (by rw [kmo]; rfl)) hr21
  have hr22 : q_ir (q_r f mo 25) dy := Eq.trans (hB.2.2.r hmo (by rw [kmo]; rfl)) hr22
  have hr23 : q_ir (q_r f mo 29) cs := Eq.trans (hB.2.2.r hmo (by rw [kmo]; rfl)) hr23
  have hr24 : q_ir (q_r f mo 30) c1 := Eq.trans (hB.2.2.r hmo (by rw [kmo]; rfl)) hr24
  have hr25 : q_ir (q_r f mo 31) c2 := Eq.trans (hB.2.2.r hmo (by rw [kmo]; rfl)) hr25
  have hr26 : q_ir (q_r f mo 32) c3 := Eq.trans (hB.2.2.r hmo (by rw [kmo]; rfl)) hr26
  have hr27 : q_ir (q_r f mo 33) bg := Eq.trans (hB.2.2.r hmo (by rw [kmo]; rfl)) hr27
  have hr28 : q_ir (q_r f mo 34) lp := Eq.trans (hB.2.2.r hmo (by rw [kmo]; rfl)) hr28
  have hr29 : q_ir (q_r f mo 38) rp := Eq.trans (hB.2.2.r hmo (by rw [kmo]; rfl)) hr29
  have hij : tk_ij K L f nds := tk_ij_tr hij (fun i9 => hB.2.2.r hnds (by rw [knds]; rfl))
  obtain ⟨x1, ex1⟩ : ∃ zz, q_is (q_z f sr 3) zz := ⟨_, q_isr _⟩
  obtain ⟨lx1, ux1⟩ : 0 ≤ x1 ∧ x1 ≤ 9999 := q_isb ex1 ⟨(hgr 3 (by decide)).1, ht3⟩
  obtain ⟨x2, ex2⟩ : ∃ zz, q_is (q_z f sr 4) zz := ⟨_, q_isr _⟩
  obtain ⟨lx2, ux2⟩ : 0 ≤ x2 ∧ x2 ≤ 60 := q_isb ex2 ⟨(hgr 4 (by decide)).1, ht4⟩
  refine q_ald_n cx dL_law_897 rfl (lv_at hl 4 rfl) ?_
  refine q_ald_n cx dL_law_898 rfl (lv_at hl 5 rfl) ?_
  refine lv_iload cx.1 cx.2.1 dL_law_899 (lv_at hl 0 rfl) ?_
  refine q_iconst cx dL_law_901 ?_
  refine q_iadd cx dL_law_902 ?_
  refine va_sld cx.1 cx.2.1 hXs hbl hbA hB.1.2.2.2 (q_in (by omega) (by omega) (by omega)) dL_law_903 ?_
  obtain ⟨a3, ra3, ea3⟩ : ∃ z : Int, q_R z ∧ xs (q_i (ii + 1)).toNatClampNeg = q_i z := ⟨_, q_rng _, (q_of _).symm⟩
  rw [ea3]
  refine q_ald_n cx dL_law_904 rfl (lv_at hl 5 rfl) ?_
  refine lv_iload cx.1 cx.2.1 dL_law_905 (lv_at hl 0 rfl) ?_
  refine q_iconst cx dL_law_907 ?_
  refine q_iadd cx dL_law_908 ?_
  refine va_sld cx.1 cx.2.1 hXs hbl hbA hB.1.2.2.2 (q_in (by omega) (by omega) (by omega)) dL_law_909 ?_
  obtain ⟨a4, ra4, ea4⟩ : ∃ z : Int, q_R z ∧ xs (q_i (ii + 2)).toNatClampNeg = q_i z := ⟨_, q_rng _, (q_of _).symm⟩
  rw [ea4]
  refine q_ald_n cx dL_law_910 rfl (lv_at hl 5 rfl) ?_
  refine lv_iload cx.1 cx.2.1 dL_law_911 (lv_at hl 0 rfl) ?_
  refine q_iconst cx dL_law_913 ?_
  refine q_iadd cx dL_law_914 ?_
  refine va_sld cx.1 cx.2.1 hXs hbl hbA hB.1.2.2.2 (q_in (by omega) (by omega) (by omega)) dL_law_915 ?_
  obtain ⟨a5, ra5, ea5⟩ : ∃ z : Int, q_R z ∧ xs (q_i (ii + 3)).toNatClampNeg = q_i z := ⟨_, q_rng _, (q_of _).symm⟩
  rw [ea5]
  refine q_ifeq (tgt := 923) cx ⟨by omega, by omega⟩ dL_law_916 (by decide) (fun c6 => ?_) (fun c6 => ?_)
  · refine q_iconst cx dL_law_923 ?_
    refine q_ald_n cx dL_law_924 rfl (lv_at hl 2 rfl) ?_
    refine q_cWS (As := [.ref x, .int (q_i a3), .int (q_i a4), .int (q_i 0), .ref out]) (rest := []) cx hX hB (fun q h => hLA q h) (fun q h1 h2 => absurd h1 (Nat.not_le_of_lt h2)) hN (w_wouldArrive l g ad hN hB.2.1 hfl x hx kx a3 (by omega) (by omega) a4 (by omega) (by omega) 0 (by decide) (by decide) out hout kout so hso kso rd hrd krd scr hscr kscr fc hfc kfc hist hhist khist rep hrep krep now hnow know dr hdr kdr sv hsv ksv tr htr ktr hr0 hr1 hr2 hr3 hr4 hr5 hr6 hr7 hr8 hr9) q_cL_201 q_dL_wouldArrive ⟨by decide, by show cells + 3 ≤ 601024; omega, by show slots + 18 ≤ 7293034; omega⟩ rfl rfl hl.1 rfl (Nat.le_of_ble_eq_true rfl) dL_law_925 (fun v9 H locs f7 h9 hF hB => ?_)
    obtain ⟨y8, rfl, ry8, h9⟩ := h9
    refine W.eq (g2 := F0 m 928 ls [.int (q_i y8)]) rfl ?_
    obtain ⟨ly8, uy8⟩ := h9
    have z10 : q_is (q_z f7 so 1) tn := Eq.trans (hF.z hso (by rw [kso]; rfl)) hn0
    have z11 : q_is (q_z f7 mo 2) tn := Eq.trans (hF.z hmo (by rw [kmo]; rfl)) hn1
    have z12 : q_is (q_z f7 sr 3) x1 := Eq.trans (hF.z hsr (by rw [ksr]; rfl)) ex1
    have z13 : q_is (q_z f7 sr 4) x2 := Eq.trans (hF.z hsr (by rw [ksr]; rfl)) ex2
    have z14 : q_ir (q_r f7 x 0) so := Eq.trans (hF.r hx (by rw [kx]; rfl)) hr0
    have z15 : q_ir (q_r f7 x 1) rd := Eq.trans (hF.r hx (by rw [kx]; rfl)) hr1
    have z16 : q_ir (q_r f7 x 2) scr := Eq.trans (hF.r hx (by rw [kx]; rfl)) hr2
    have z17 : q_ir (q_r f7 x 3) fc := Eq.trans (hF.r hx (by rw [kx]; rfl)) hr3
    have z18 : q_ir (q_r f7 x 4) hist := Eq.trans (hF.r hx (by rw [kx]; rfl)) hr4
    have z19 : q_ir (q_r f7 x 5) rep := Eq.trans (hF.r hx (by rw [kx]; rfl)) hr5
    have z20 : q_ir (q_r f7 x 6) now := Eq.trans (hF.r hx (by rw [kx]; rfl)) hr6
    have z21 : q_ir (q_r f7 x 7) dr := Eq.trans (hF.r hx (by rw [kx]; rfl)) hr7
    have z22 : q_ir (q_r f7 x 8) sv := Eq.trans (hF.r hx (by rw [kx]; rfl)) hr8
    have z23 : q_ir (q_r f7 fc 0) tr := Eq.trans (hF.r hfc (by rw [kfc]; rfl)) hr9
    have z24 : q_ir (q_r f7 so 0) ba := Eq.trans (hF.r hso (by rw [kso]; rfl)) hr10
    have z25 : q_ir (q_r f7 dr 0) nds := Eq.trans (hF.r hdr (by rw [kdr]; rfl)) hr11
    have z26 : q_ir (q_r f7 mo 1) bu := Eq.trans (hF.r hmo (by rw [kmo]; rfl)) hr12
    have z27 : q_ir (q_r f7 mo 13) sr := Eq.trans (hF.r hmo (by rw [kmo]; rfl)) hr13
    have z28 : q_ir (q_r f7 mo 14) sd := Eq.trans (hF.r hmo (by rw [kmo]; rfl)) hr14
    have z29 : q_ir (q_r f7 mo 15) as := Eq.trans (hF.r hmo (by rw [kmo]; rfl)) hr15
    have z30 : q_ir (q_r f7 mo 16) aw := Eq.trans (hF.r hmo (by rw [kmo]; rfl)) hr16
    have z31 : q_ir (q_r f7 mo 17) pa := Eq.trans (hF.r hmo (by rw [kmo]; rfl)) hr17
    have z32 : q_ir (q_r f7 mo 18) nm := Eq.trans (hF.r hmo (by rw [kmo]; rfl)) hr18
    have z33 : q_ir (q_r f7 mo 19) snm := Eq.trans (hF.r hmo (by rw [kmo]; rfl)) hr19
    have z34 : q_ir (q_r f7 mo 20) anm := Eq.trans (hF.r hmo (by rw [kmo]; rfl)) hr20
    have z35 : q_ir (q_r f7 mo 24) hp := Eq.trans (hF.r hmo (by rw [kmo]; rfl)) hr21
    have z36 : q_ir (q_r f7 mo 25) dy := Eq.trans (hF.r hmo (by rw [kmo]; rfl)) hr22
    have z37 : q_ir (q_r f7 mo 29) cs := Eq.trans (hF.r hmo (by rw [kmo]; rfl)) hr23
    have z38 : q_ir (q_r f7 mo 30) c1 := Eq.trans (hF.r hmo (by rw [kmo]; rfl)) hr24
    have z39 : q_ir (q_r f7 mo 31) c2 := Eq.trans (hF.r hmo (by rw [kmo]; rfl)) hr25
    have z40 : q_ir (q_r f7 mo 32) c3 := Eq.trans (hF.r hmo (by rw [kmo]; rfl)) hr26
    have z41 : q_ir (q_r f7 mo 33) bg := Eq.trans (hF.r hmo (by rw [kmo]; rfl)) hr27
    have z42 : q_ir (q_r f7 mo 34) lp := Eq.trans (hF.r hmo (by rw [kmo]; rfl)) hr28
    have z43 : q_ir (q_r f7 mo 38) rp := Eq.trans (hF.r hmo (by rw [kmo]; rfl)) hr29
    have g44 : q_gr f7 sr := q_gr_fr hgr (fun i9 _ => hF.z hsr (by rw [ksr]; rfl))
    have g45 : q_pk f7 mo pa := q_pk_tr hpk (hF.z hmo (by rw [kmo]; rfl)) (fun i9 => hF.z hpa (by rw [kpa]; rfl))
    have g46 : q_sv f7 mo sd := q_sv_tr hsd9 (hF.z hmo (by rw [kmo]; rfl)) (fun i9 => hF.z hsd (by rw [ksd]; rfl))
    have g47 : tk_bb f7 bu ba tn := tk_bb_tr hbb (fun i9 => hF.z hbu (by rw [kbu]; rfl)) (fun i9 => hF.z hba (by rw [kba]; rfl))
    have g48 : tk_ij K L f7 nds := tk_ij_tr hij (fun i9 => hF.r hnds (by rw [knds]; rfl))
    refine lv_istore (lv' := [(6, .int (q_i y8)), (5, .int (q_i ii)), (4, .ref outD), (3, .ref out), (2, .ref mo), (1, .ref x), (0, .ref b)]) cx.1 cx.2.1 dL_law_928 hl (by decide) rfl (fun ls hl => ?_)
    refine q_ald_n cx dL_law_930 rfl (lv_at hl 4 rfl) ?_
    refine q_ald_n cx dL_law_931 rfl (lv_at hl 6 rfl) ?_
    refine lv_iload cx.1 cx.2.1 dL_law_932 (lv_at hl 1 rfl) ?_
    refine q_iconst cx dL_law_934 ?_
    refine q_iadd cx dL_law_935 ?_
    refine va_sld cx.1 cx.2.1 hXs hbl hbA hB.1.2.2.2 (q_in (by omega) (by omega) (by omega)) dL_law_936 ?_
    rw [ea3]
    refine q_ald_n cx dL_law_937 rfl (lv_at hl 6 rfl) ?_
    refine lv_iload cx.1 cx.2.1 dL_law_938 (lv_at hl 1 rfl) ?_
    refine q_iconst cx dL_law_940 ?_
    refine q_iadd cx dL_law_941 ?_
    refine va_sld cx.1 cx.2.1 hXs hbl hbA hB.1.2.2.2 (q_in (by omega) (by omega) (by omega)) dL_law_942 ?_
    rw [ea4]
    refine q_ald_n cx dL_law_943 rfl (lv_at hl 6 rfl) ?_
    refine lv_iload cx.1 cx.2.1 dL_law_944 (lv_at hl 1 rfl) ?_
    refine q_iconst cx dL_law_946 ?_
    refine q_iadd cx dL_law_947 ?_
    refine va_sld cx.1 cx.2.1 hXs hbl hbA hB.1.2.2.2 (q_in (by omega) (by omega) (by omega)) dL_law_948 ?_
    rw [ea5]
    refine q_ifeq (tgt := 956) cx ⟨by omega, by omega⟩ dL_law_949 (by decide) (fun c49 => ?_) (fun c49 => ?_)
    · refine q_iconst cx dL_law_956 ?_
      refine q_cVi (As := [.int (q_i a3), .int (q_i a4), .int (q_i 0)]) (rest := []) cx hB (fun q h => hLA q h) hN hmo kmo (by decide) rfl (r_wouldArrive l g hN hB.2.1 mo hmo kmo a3 (by omega) (by omega) a4 (by omega) (by omega) 0 (by decide) (by decide) sr hsr ksr hp hhp khp dy hdy kdy aw haw kaw x1 (by omega) (by omega) x2 (by omega) (by omega) z12 z13 z27 z35 z36 z30 g44) q_cL_204 q_dX12_wouldArrive ⟨by decide, by show cells + 3 ≤ 601024; omega, by show slots + 18 ≤ 7293034; omega⟩ rfl rfl hl.1 rfl (Nat.le_of_ble_eq_true rfl) dL_law_957 (fun y51 H locs f50 ry51 h52 hF hB => ?_)
      obtain ⟨ly51, uy51, lz53, uz53, lz54, uz54, g55⟩ := h52
      have z56 : q_is (q_z f50 so 1) tn := Eq.trans (hF.z hso (by rw [kso]; rfl)) z10
      have z57 : q_is (q_z f50 mo 2) tn := Eq.trans (hF.z hmo (by rw [kmo]; rfl)) z11
      have z58 : q_ir (q_r f50 x 0) so := Eq.trans (hF.r hx (by rw [kx]; rfl)) z14
      have z59 : q_ir (q_r f50 x 1) rd := Eq.trans (hF.r hx (by rw [kx]; rfl)) z15
      have z60 : q_ir (q_r f50 x 2) scr := Eq.trans (hF.r hx (by rw [kx]; rfl)) z16
      have z61 : q_ir (q_r f50 x 3) fc := Eq.trans (hF.r hx (by rw [kx]; rfl)) z17
      have z62 : q_ir (q_r f50 x 4) hist := Eq.trans (hF.r hx (by rw [kx]; rfl)) z18
      have z63 : q_ir (q_r f50 x 5) rep := Eq.trans (hF.r hx (by rw [kx]; rfl)) z19
      have z64 : q_ir (q_r f50 x 6) now := Eq.trans (hF.r hx (by rw [kx]; rfl)) z20
      have z65 : q_ir (q_r f50 x 7) dr := Eq.trans (hF.r hx (by rw [kx]; rfl)) z21
      have z66 : q_ir (q_r f50 x 8) sv := Eq.trans (hF.r hx (by rw [kx]; rfl)) z22
      have z67 : q_ir (q_r f50 fc 0) tr := Eq.trans (hF.r hfc (by rw [kfc]; rfl)) z23
      have z68 : q_ir (q_r f50 so 0) ba := Eq.trans (hF.r hso (by rw [kso]; rfl)) z24
      have z69 : q_ir (q_r f50 dr 0) nds := Eq.trans (hF.r hdr (by rw [kdr]; rfl)) z25
      have z70 : q_ir (q_r f50 mo 1) bu := Eq.trans (hF.r hmo (by rw [kmo]; rfl)) z26
      have z71 : q_ir (q_r f50 mo 13) sr := Eq.trans (hF.r hmo (by rw [kmo]; rfl)) z27
      have z72 : q_ir (q_r f50 mo 14) sd := Eq.trans (hF.r hmo (by rw [kmo]; rfl)) z28
      have z73 : q_ir (q_r f50 mo 15) as := Eq.trans (hF.r hmo (by rw [kmo]; rfl)) z29
      have z74 : q_ir (q_r f50 mo 16) aw := Eq.trans (hF.r hmo (by rw [kmo]; rfl)) z30
      have z75 : q_ir (q_r f50 mo 17) pa := Eq.trans (hF.r hmo (by rw [kmo]; rfl)) z31
      have z76 : q_ir (q_r f50 mo 18) nm := Eq.trans (hF.r hmo (by rw [kmo]; rfl)) z32
      have z77 : q_ir (q_r f50 mo 19) snm := Eq.trans (hF.r hmo (by rw [kmo]; rfl)) z33
      have z78 : q_ir (q_r f50 mo 20) anm := Eq.trans (hF.r hmo (by rw [kmo]; rfl)) z34
      have z79 : q_ir (q_r f50 mo 24) hp := Eq.trans (hF.r hmo (by rw [kmo]; rfl)) z35
      have z80 : q_ir (q_r f50 mo 25) dy := Eq.trans (hF.r hmo (by rw [kmo]; rfl)) z36
      have z81 : q_ir (q_r f50 mo 29) cs := Eq.trans (hF.r hmo (by rw [kmo]; rfl)) z37
      have z82 : q_ir (q_r f50 mo 30) c1 := Eq.trans (hF.r hmo (by rw [kmo]; rfl)) z38
      have z83 : q_ir (q_r f50 mo 31) c2 := Eq.trans (hF.r hmo (by rw [kmo]; rfl)) z39
      have z84 : q_ir (q_r f50 mo 32) c3 := Eq.trans (hF.r hmo (by rw [kmo]; rfl)) z40
      have z85 : q_ir (q_r f50 mo 33) bg := Eq.trans (hF.r hmo (by rw [kmo]; rfl)) z41
      have z86 : q_ir (q_r f50 mo 34) lp := Eq.trans (hF.r hmo (by rw [kmo]; rfl)) z42
      have z87 : q_ir (q_r f50 mo 38) rp := Eq.trans (hF.r hmo (by rw [kmo]; rfl)) z43
      have g88 : q_pk f50 mo pa := q_pk_tr g45 (hF.z hmo (by rw [kmo]; rfl)) (fun i9 => hF.z hpa (by rw [kpa]; rfl))
      have g89 : q_sv f50 mo sd := q_sv_tr g46 (hF.z hmo (by rw [kmo]; rfl)) (fun i9 => hF.z hsd (by rw [ksd]; rfl))
      have g90 : tk_bb f50 bu ba tn := tk_bb_tr g47 (fun i9 => hF.z hbu (by rw [kbu]; rfl)) (fun i9 => hF.z hba (by rw [kba]; rfl))
      have g91 : tk_ij K L f50 nds := tk_ij_tr g48 (fun i9 => hF.r hnds (by rw [knds]; rfl))
      obtain ⟨x92, ex92⟩ : ∃ zz, q_is (q_z f50 sr 3) zz := ⟨_, q_isr _⟩
      obtain ⟨lx92, ux92⟩ := q_isb ex92 ⟨lz53, uz53⟩
      obtain ⟨x93, ex93⟩ : ∃ zz, q_is (q_z f50 sr 4) zz := ⟨_, q_isr _⟩
      obtain ⟨lx93, ux93⟩ := q_isb ex93 ⟨lz54, uz54⟩
      refine lv_istore (lv' := [(7, .int (q_i y51)), (6, .int (q_i y8)), (5, .int (q_i ii)), (4, .ref outD), (3, .ref out), (2, .ref mo), (1, .ref x), (0, .ref b)]) cx.1 cx.2.1 dL_law_960 hl (by decide) rfl (fun ls hl => ?_)
      refine lv_goto (tgt := 1521) cx.1 cx.2.1 dL_law_962 (by decide) ?_
      refine W.widen (k := cells + 6) (n := slots + 36) (by omega) (by omega) ?_
      exact kk f50 H locs ls tn hB ⟨⟨z56, (Eq.trans z57 (by omega)), by omega, by omega⟩, g55, g88, g89, q_isu ex92 (by omega), q_isu ex93 (by omega), tk_bb_le g90 (by omega)⟩ (lv_sub hl [2, 3, 4, 5, 6, 7] rfl)
    · exact absurd c49 (by omega)
  · refine q_iconst cx dL_law_919 ?_
    refine lv_goto (tgt := 924) cx.1 cx.2.1 dL_law_920 (by decide) ?_
    refine q_ald_n cx dL_law_924 rfl (lv_at hl 2 rfl) ?_
    refine q_cWS (As := [.ref x, .int (q_i a3), .int (q_i a4), .int (q_i 1), .ref out]) (rest := []) cx hX hB (fun q h => hLA q h) (fun q h1 h2 => absurd h1 (Nat.not_le_of_lt h2)) hN (w_wouldArrive l g ad hN hB.2.1 hfl x hx kx a3 (by omega) (by omega) a4 (by omega) (by omega) 1 (by decide) (by decide) out hout kout so hso kso rd hrd krd scr hscr kscr fc hfc kfc hist hhist khist rep hrep krep now hnow know dr hdr kdr sv hsv ksv tr htr ktr hr0 hr1 hr2 hr3 hr4 hr5 hr6 hr7 hr8 hr9) q_cL_201 q_dL_wouldArrive ⟨by decide, by show cells + 3 ≤ 601024; omega, by show slots + 18 ≤ 7293034; omega⟩ rfl rfl hl.1 rfl (Nat.le_of_ble_eq_true rfl) dL_law_925 (fun v9 H locs f94 h96 hF hB => ?_)
    obtain ⟨y95, rfl, ry95, h96⟩ := h96
    refine W.eq (g2 := F0 m 928 ls [.int (q_i y95)]) rfl ?_
    obtain ⟨ly95, uy95⟩ := h96
    have z97 : q_is (q_z f94 so 1) tn := Eq.trans (hF.z hso (by rw [kso]; rfl)) hn0
    have z98 : q_is (q_z f94 mo 2) tn := Eq.trans (hF.z hmo (by rw [kmo]; rfl)) hn1
    have z99 : q_is (q_z f94 sr 3) x1 := Eq.trans (hF.z hsr (by rw [ksr]; rfl)) ex1
    have z100 : q_is (q_z f94 sr 4) x2 := Eq.trans (hF.z hsr (by rw [ksr]; rfl)) ex2
    have z101 : q_ir (q_r f94 x 0) so := Eq.trans (hF.r hx (by rw [kx]; rfl)) hr0
    have z102 : q_ir (q_r f94 x 1) rd := Eq.trans (hF.r hx (by rw [kx]; rfl)) hr1
    have z103 : q_ir (q_r f94 x 2) scr := Eq.trans (hF.r hx (by rw [kx]; rfl)) hr2
    have z104 : q_ir (q_r f94 x 3) fc := Eq.trans (hF.r hx (by rw [kx]; rfl)) hr3
    have z105 : q_ir (q_r f94 x 4) hist := Eq.trans (hF.r hx (by rw [kx]; rfl)) hr4
    have z106 : q_ir (q_r f94 x 5) rep := Eq.trans (hF.r hx (by rw [kx]; rfl)) hr5
    have z107 : q_ir (q_r f94 x 6) now := Eq.trans (hF.r hx (by rw [kx]; rfl)) hr6
    have z108 : q_ir (q_r f94 x 7) dr := Eq.trans (hF.r hx (by rw [kx]; rfl)) hr7
    have z109 : q_ir (q_r f94 x 8) sv := Eq.trans (hF.r hx (by rw [kx]; rfl)) hr8
    have z110 : q_ir (q_r f94 fc 0) tr := Eq.trans (hF.r hfc (by rw [kfc]; rfl)) hr9
    have z111 : q_ir (q_r f94 so 0) ba := Eq.trans (hF.r hso (by rw [kso]; rfl)) hr10
    have z112 : q_ir (q_r f94 dr 0) nds := Eq.trans (hF.r hdr (by rw [kdr]; rfl)) hr11
    have z113 : q_ir (q_r f94 mo 1) bu := Eq.trans (hF.r hmo (by rw [kmo]; rfl)) hr12
    have z114 : q_ir (q_r f94 mo 13) sr := Eq.trans (hF.r hmo (by rw [kmo]; rfl)) hr13
    have z115 : q_ir (q_r f94 mo 14) sd := Eq.trans (hF.r hmo (by rw [kmo]; rfl)) hr14
    have z116 : q_ir (q_r f94 mo 15) as := Eq.trans (hF.r hmo (by rw [kmo]; rfl)) hr15
    have z117 : q_ir (q_r f94 mo 16) aw := Eq.trans (hF.r hmo (by rw [kmo]; rfl)) hr16
    have z118 : q_ir (q_r f94 mo 17) pa := Eq.trans (hF.r hmo (by rw [kmo]; rfl)) hr17
    have z119 : q_ir (q_r f94 mo 18) nm := Eq.trans (hF.r hmo (by rw [kmo]; rfl)) hr18
    have z120 : q_ir (q_r f94 mo 19) snm := Eq.trans (hF.r hmo (by rw [kmo]; rfl)) hr19
    have z121 : q_ir (q_r f94 mo 20) anm := Eq.trans (hF.r hmo (by rw [kmo]; rfl)) hr20
    have z122 : q_ir (q_r f94 mo 24) hp := Eq.trans (hF.r hmo (by rw [kmo]; rfl)) hr21
    have z123 : q_ir (q_r f94 mo 25) dy := Eq.trans (hF.r hmo (by rw [kmo]; rfl)) hr22
    have z124 : q_ir (q_r f94 mo 29) cs := Eq.trans (hF.r hmo (by rw [kmo]; rfl)) hr23
    have z125 : q_ir (q_r f94 mo 30) c1 := Eq.trans (hF.r hmo (by rw [kmo]; rfl)) hr24
    have z126 : q_ir (q_r f94 mo 31) c2 := Eq.trans (hF.r hmo (by rw [kmo]; rfl)) hr25
    have z127 : q_ir (q_r f94 mo 32) c3 := Eq.trans (hF.r hmo (by rw [kmo]; rfl)) hr26
    have z128 : q_ir (q_r f94 mo 33) bg := Eq.trans (hF.r hmo (by rw [kmo]; rfl)) hr27
    have z129 : q_ir (q_r f94 mo 34) lp := Eq.trans (hF.r hmo (by rw [kmo]; rfl)) hr28
    have z130 : q_ir (q_r f94 mo 38) rp := Eq.trans (hF.r hmo (by rw [kmo]; rfl)) hr29
    have g131 : q_gr f94 sr := q_gr_fr hgr (fun i9 _ => hF.z hsr (by rw [ksr]; rfl))
    have g132 : q_pk f94 mo pa := q_pk_tr hpk (hF.z hmo (by rw [kmo]; rfl)) (fun i9 => hF.z hpa (by rw [kpa]; rfl))
    have g133 : q_sv f94 mo sd := q_sv_tr hsd9 (hF.z hmo (by rw [kmo]; rfl)) (fun i9 => hF.z hsd (by rw [ksd]; rfl))
    have g134 : tk_bb f94 bu ba tn := tk_bb_tr hbb (fun i9 => hF.z hbu (by rw [kbu]; rfl)) (fun i9 => hF.z hba (by rw [kba]; rfl))
    have g135 : tk_ij K L f94 nds := tk_ij_tr hij (fun i9 => hF.r hnds (by rw [knds]; rfl))
    refine lv_istore (lv' := [(6, .int (q_i y95)), (5, .int (q_i ii)), (4, .ref outD), (3, .ref out), (2, .ref mo), (1, .ref x), (0, .ref b)]) cx.1 cx.2.1 dL_law_928 hl (by decide) rfl (fun ls hl => ?_)
    refine q_ald_n cx dL_law_930 rfl (lv_at hl 4 rfl) ?_
    refine q_ald_n cx dL_law_931 rfl (lv_at hl 6 rfl) ?_
    refine lv_iload cx.1 cx.2.1 dL_law_932 (lv_at hl 1 rfl) ?_
    refine q_iconst cx dL_law_934 ?_
    refine q_iadd cx dL_law_935 ?_
    refine va_sld cx.1 cx.2.1 hXs hbl hbA hB.1.2.2.2 (q_in (by omega) (by omega) (by omega)) dL_law_936 ?_
    rw [ea3]
    refine q_ald_n cx dL_law_937 rfl (lv_at hl 6 rfl) ?_
    refine lv_iload cx.1 cx.2.1 dL_law_938 (lv_at hl 1 rfl) ?_
    refine q_iconst cx dL_law_940 ?_
    refine q_iadd cx dL_law_941 ?_
    refine va_sld cx.1 cx.2.1 hXs hbl hbA hB.1.2.2.2 (q_in (by omega) (by omega) (by omega)) dL_law_942 ?_
    rw [ea4]
    refine q_ald_n cx dL_law_943 rfl (lv_at hl 6 rfl) ?_
    refine lv_iload cx.1 cx.2.1 dL_law_944 (lv_at hl 1 rfl) ?_
    refine q_iconst cx dL_law_946 ?_
    refine q_iadd cx dL_law_947 ?_
    refine va_sld cx.1 cx.2.1 hXs hbl hbA hB.1.2.2.2 (q_in (by omega) (by omega) (by omega)) dL_law_948 ?_
    rw [ea5]
    refine q_ifeq (tgt := 956) cx ⟨by omega, by omega⟩ dL_law_949 (by decide) (fun c136 => ?_) (fun c136 => ?_)
    · refine q_iconst cx dL_law_956 ?_
      refine q_cVi (As := [.int (q_i a3), .int (q_i a4), .int (q_i 0)]) (rest := []) cx hB (fun q h => hLA q h) hN hmo kmo (by decide) rfl (r_wouldArrive l g hN hB.2.1 mo hmo kmo a3 (by omega) (by omega) a4 (by omega) (by omega) 0 (by decide) (by decide) sr hsr ksr hp hhp khp dy hdy kdy aw haw kaw x1 (by omega) (by omega) x2 (by omega) (by omega) z99 z100 z114 z122 z123 z117 g131) q_cL_204 q_dX12_wouldArrive ⟨by decide, by show cells + 3 ≤ 601024; omega, by show slots + 18 ≤ 7293034; omega⟩ rfl rfl hl.1 rfl (Nat.le_of_ble_eq_true rfl) dL_law_957 (fun y138 H locs f137 ry138 h139 hF hB => ?_)
      obtain ⟨ly138, uy138, lz140, uz140, lz141, uz141, g142⟩ := h139
      have z143 : q_is (q_z f137 so 1) tn := Eq.trans (hF.z hso (by rw [kso]; rfl)) z97
      have z144 : q_is (q_z f137 mo 2) tn := Eq.trans (hF.z hmo (by rw [kmo]; rfl)) z98
      have z145 : q_ir (q_r f137 x 0) so := Eq.trans (hF.r hx (by rw [kx]; rfl)) z101
      have z146 : q_ir (q_r f137 x 1) rd := Eq.trans (hF.r hx (by rw [kx]; rfl)) z102
      have z147 : q_ir (q_r f137 x 2) scr := Eq.trans (hF.r hx (by rw [kx]; rfl)) z103
      have z148 : q_ir (q_r f137 x 3) fc := Eq.trans (hF.r hx (by rw [kx]; rfl)) z104
      have z149 : q_ir (q_r f137 x 4) hist := Eq.trans (hF.r hx (by rw [kx]; rfl)) z105
      have z150 : q_ir (q_r f137 x 5) rep := Eq.trans (hF.r hx (by rw [kx]; rfl)) z106
      have z151 : q_ir (q_r f137 x 6) now := Eq.trans (hF.r hx (by rw [kx]; rfl)) z107
      have z152 : q_ir (q_r f137 x 7) dr := Eq.trans (hF.r hx (by rw [kx]; rfl)) z108
      have z153 : q_ir (q_r f137 x 8) sv := Eq.trans (hF.r hx (by rw [kx]; rfl)) z109
      have z154 : q_ir (q_r f137 fc 0) tr := Eq.trans (hF.r hfc (by rw [kfc]; rfl)) z110
      have z155 : q_ir (q_r f137 so 0) ba := Eq.trans (hF.r hso (by rw [kso]; rfl)) z111
      have z156 : q_ir (q_r f137 dr 0) nds := Eq.trans (hF.r hdr (by rw [kdr]; rfl)) z112
      have z157 : q_ir (q_r f137 mo 1) bu := Eq.trans (hF.r hmo (by rw [kmo]; rfl)) z113
      have z158 : q_ir (q_r f137 mo 13) sr := Eq.trans (hF.r hmo (by rw [kmo]; rfl)) z114
      have z159 : q_ir (q_r f137 mo 14) sd := Eq.trans (hF.r hmo (by rw [kmo]; rfl)) z115
      have z160 : q_ir (q_r f137 mo 15) as := Eq.trans (hF.r hmo (by rw [kmo]; rfl)) z116
      have z161 : q_ir (q_r f137 mo 16) aw := Eq.trans (hF.r hmo (by rw [kmo]; rfl)) z117
      have z162 : q_ir (q_r f137 mo 17) pa := Eq.trans (hF.r hmo (by rw [kmo]; rfl)) z118
      have z163 : q_ir (q_r f137 mo 18) nm := Eq.trans (hF.r hmo (by rw [kmo]; rfl)) z119
      have z164 : q_ir (q_r f137 mo 19) snm := Eq.trans (hF.r hmo (by rw [kmo]; rfl)) z120
      have z165 : q_ir (q_r f137 mo 20) anm := Eq.trans (hF.r hmo (by rw [kmo]; rfl)) z121
      have z166 : q_ir (q_r f137 mo 24) hp := Eq.trans (hF.r hmo (by rw [kmo]; rfl)) z122
      have z167 : q_ir (q_r f137 mo 25) dy := Eq.trans (hF.r hmo (by rw [kmo]; rfl)) z123
      have z168 : q_ir (q_r f137 mo 29) cs := Eq.trans (hF.r hmo (by rw [kmo]; rfl)) z124
      have z169 : q_ir (q_r f137 mo 30) c1 := Eq.trans (hF.r hmo (by rw [kmo]; rfl)) z125
      have z170 : q_ir (q_r f137 mo 31) c2 := Eq.trans (hF.r hmo (by rw [kmo]; rfl)) z126
      have z171 : q_ir (q_r f137 mo 32) c3 := Eq.trans (hF.r hmo (by rw [kmo]; rfl)) z127
      have z172 : q_ir (q_r f137 mo 33) bg := Eq.trans (hF.r hmo (by rw [kmo]; rfl)) z128
      have z173 : q_ir (q_r f137 mo 34) lp := Eq.trans (hF.r hmo (by rw [kmo]; rfl)) z129
      have z174 : q_ir (q_r f137 mo 38) rp := Eq.trans (hF.r hmo (by rw [kmo]; rfl)) z130
      have g175 : q_pk f137 mo pa := q_pk_tr g132 (hF.z hmo (by rw [kmo]; rfl)) (fun i9 => hF.z hpa (by rw [kpa]; rfl))
      have g176 : q_sv f137 mo sd := q_sv_tr g133 (hF.z hmo (by rw [kmo]; rfl)) (fun i9 => hF.z hsd (by rw [ksd]; rfl))
      have g177 : tk_bb f137 bu ba tn := tk_bb_tr g134 (fun i9 => hF.z hbu (by rw [kbu]; rfl)) (fun i9 => hF.z hba (by rw [kba]; rfl))
      have g178 : tk_ij K L f137 nds := tk_ij_tr g135 (fun i9 => hF.r hnds (by rw [knds]; rfl))
      obtain ⟨x179, ex179⟩ : ∃ zz, q_is (q_z f137 sr 3) zz := ⟨_, q_isr _⟩
      obtain ⟨lx179, ux179⟩ := q_isb ex179 ⟨lz140, uz140⟩
      obtain ⟨x180, ex180⟩ : ∃ zz, q_is (q_z f137 sr 4) zz := ⟨_, q_isr _⟩
      obtain ⟨lx180, ux180⟩ := q_isb ex180 ⟨lz141, uz141⟩
      refine lv_istore (lv' := [(7, .int (q_i y138)), (6, .int (q_i y95)), (5, .int (q_i ii)), (4, .ref outD), (3, .ref out), (2, .ref mo), (1, .ref x), (0, .ref b)]) cx.1 cx.2.1 dL_law_960 hl (by decide) rfl (fun ls hl => ?_)
      refine lv_goto (tgt := 1521) cx.1 cx.2.1 dL_law_962 (by decide) ?_
      refine W.widen (k := cells + 6) (n := slots + 36) (by omega) (by omega) ?_
      exact kk f137 H locs ls tn hB ⟨⟨z143, (Eq.trans z144 (by omega)), by omega, by omega⟩, g142, g175, g176, q_isu ex179 (by omega), q_isu ex180 (by omega), tk_bb_le g177 (by omega)⟩ (lv_sub hl [2, 3, 4, 5, 6, 7] rfl)
    · refine q_iconst cx dL_law_952 ?_
      refine lv_goto (tgt := 957) cx.1 cx.2.1 dL_law_953 (by decide) ?_
      refine q_cVi (As := [.int (q_i a3), .int (q_i a4), .int (q_i 1)]) (rest := []) cx hB (fun q h => hLA q h) hN hmo kmo (by decide) rfl (r_wouldArrive l g hN hB.2.1 mo hmo kmo a3 (by omega) (by omega) a4 (by omega) (by omega) 1 (by decide) (by decide) sr hsr ksr hp hhp khp dy hdy kdy aw haw kaw x1 (by omega) (by omega) x2 (by omega) (by omega) z99 z100 z114 z122 z123 z117 g131) q_cL_204 q_dX12_wouldArrive ⟨by decide, by show cells + 3 ≤ 601024; omega, by show slots + 18 ≤ 7293034; omega⟩ rfl rfl hl.1 rfl (Nat.le_of_ble_eq_true rfl) dL_law_957 (fun y182 H locs f181 ry182 h183 hF hB => ?_)
      obtain ⟨ly182, uy182, lz184, uz184, lz185, uz185, g186⟩ := h183
      have z187 : q_is (q_z f181 so 1) tn := Eq.trans (hF.z hso (by rw [kso]; rfl)) z97
      have z188 : q_is (q_z f181 mo 2) tn := Eq.trans (hF.z hmo (by rw [kmo]; rfl)) z98
      have z189 : q_ir (q_r f181 x 0) so := Eq.trans (hF.r hx (by rw [kx]; rfl)) z101
      have z190 : q_ir (q_r f181 x 1) rd := Eq.trans (hF.r hx (by rw [kx]; rfl)) z102
      have z191 : q_ir (q_r f181 x 2) scr := Eq.trans (hF.r hx (by rw [kx]; rfl)) z103
      have z192 : q_ir (q_r f181 x 3) fc := Eq.trans (hF.r hx (by rw [kx]; rfl)) z104
      have z193 : q_ir (q_r f181 x 4) hist := Eq.trans (hF.r hx (by rw [kx]; rfl)) z105
      have z194 : q_ir (q_r f181 x 5) rep := Eq.trans (hF.r hx (by rw [kx]; rfl)) z106
      have z195 : q_ir (q_r f181 x 6) now := Eq.trans (hF.r hx (by rw [kx]; rfl)) z107
      have z196 : q_ir (q_r f181 x 7) dr := Eq.trans (hF.r hx (by rw [kx]; rfl)) z108
      have z197 : q_ir (q_r f181 x 8) sv := Eq.trans (hF.r hx (by rw [kx]; rfl)) z109
      have z198 : q_ir (q_r f181 fc 0) tr := Eq.trans (hF.r hfc (by rw [kfc]; rfl)) z110
      have z199 : q_ir (q_r f181 so 0) ba := Eq.trans (hF.r hso (by rw [kso]; rfl)) z111
      have z200 : q_ir (q_r f181 dr 0) nds := Eq.trans (hF.r hdr (by rw [kdr]; rfl)) z112
      have z201 : q_ir (q_r f181 mo 1) bu := Eq.trans (hF.r hmo (by rw [kmo]; rfl)) z113
      have z202 : q_ir (q_r f181 mo 13) sr := Eq.trans (hF.r hmo (by rw [kmo]; rfl)) z114
      have z203 : q_ir (q_r f181 mo 14) sd := Eq.trans (hF.r hmo (by rw [kmo]; rfl)) z115
      have z204 : q_ir (q_r f181 mo 15) as := Eq.trans (hF.r hmo (by rw [kmo]; rfl)) z116
      have z205 : q_ir (q_r f181 mo 16) aw := Eq.trans (hF.r hmo (by rw [kmo]; rfl)) z117
      have z206 : q_ir (q_r f181 mo 17) pa := Eq.trans (hF.r hmo (by rw [kmo]; rfl)) z118
      have z207 : q_ir (q_r f181 mo 18) nm := Eq.trans (hF.r hmo (by rw [kmo]; rfl)) z119
      have z208 : q_ir (q_r f181 mo 19) snm := Eq.trans (hF.r hmo (by rw [kmo]; rfl)) z120
      have z209 : q_ir (q_r f181 mo 20) anm := Eq.trans (hF.r hmo (by rw [kmo]; rfl)) z121
      have z210 : q_ir (q_r f181 mo 24) hp := Eq.trans (hF.r hmo (by rw [kmo]; rfl)) z122
      have z211 : q_ir (q_r f181 mo 25) dy := Eq.trans (hF.r hmo (by rw [kmo]; rfl)) z123
      have z212 : q_ir (q_r f181 mo 29) cs := Eq.trans (hF.r hmo (by rw [kmo]; rfl)) z124
      have z213 : q_ir (q_r f181 mo 30) c1 := Eq.trans (hF.r hmo (by rw [kmo]; rfl)) z125
      have z214 : q_ir (q_r f181 mo 31) c2 := Eq.trans (hF.r hmo (by rw [kmo]; rfl)) z126
      have z215 : q_ir (q_r f181 mo 32) c3 := Eq.trans (hF.r hmo (by rw [kmo]; rfl)) z127
      have z216 : q_ir (q_r f181 mo 33) bg := Eq.trans (hF.r hmo (by rw [kmo]; rfl)) z128
      have z217 : q_ir (q_r f181 mo 34) lp := Eq.trans (hF.r hmo (by rw [kmo]; rfl)) z129
      have z218 : q_ir (q_r f181 mo 38) rp := Eq.trans (hF.r hmo (by rw [kmo]; rfl)) z130
      have g219 : q_pk f181 mo pa := q_pk_tr g132 (hF.z hmo (by rw [kmo]; rfl)) (fun i9 => hF.z hpa (by rw [kpa]; rfl))
      have g220 : q_sv f181 mo sd := q_sv_tr g133 (hF.z hmo (by rw [kmo]; rfl)) (fun i9 => hF.z hsd (by rw [ksd]; rfl))
      have g221 : tk_bb f181 bu ba tn := tk_bb_tr g134 (fun i9 => hF.z hbu (by rw [kbu]; rfl)) (fun i9 => hF.z hba (by rw [kba]; rfl))
      have g222 : tk_ij K L f181 nds := tk_ij_tr g135 (fun i9 => hF.r hnds (by rw [knds]; rfl))
      obtain ⟨x223, ex223⟩ : ∃ zz, q_is (q_z f181 sr 3) zz := ⟨_, q_isr _⟩
      obtain ⟨lx223, ux223⟩ := q_isb ex223 ⟨lz184, uz184⟩
      obtain ⟨x224, ex224⟩ : ∃ zz, q_is (q_z f181 sr 4) zz := ⟨_, q_isr _⟩
      obtain ⟨lx224, ux224⟩ := q_isb ex224 ⟨lz185, uz185⟩
      refine lv_istore (lv' := [(7, .int (q_i y182)), (6, .int (q_i y95)), (5, .int (q_i ii)), (4, .ref outD), (3, .ref out), (2, .ref mo), (1, .ref x), (0, .ref b)]) cx.1 cx.2.1 dL_law_960 hl (by decide) rfl (fun ls hl => ?_)
      refine lv_goto (tgt := 1521) cx.1 cx.2.1 dL_law_962 (by decide) ?_
      refine W.widen (k := cells + 6) (n := slots + 36) (by omega) (by omega) ?_
      exact kk f181 H locs ls tn hB ⟨⟨z187, (Eq.trans z188 (by omega)), by omega, by omega⟩, g186, g219, g220, q_isu ex223 (by omega), q_isu ex224 (by omega), tk_bb_le g221 (by omega)⟩ (lv_sub hl [2, 3, 4, 5, 6, 7] rfl)
