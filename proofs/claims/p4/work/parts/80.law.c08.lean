set_option maxHeartbeats 4000000 in
set_option maxRecDepth 100000 in
theorem law_c1222 {p : Program} {l : Launch} {e : Env} {s : State} {m : MethodId} {below : List Frame} {meth : Method} {c : Code} {b N9 : Nat} {xs : Nat → Int32} (hfl : l.stackTraces = false) (hN9 : N9 ≤ 3072) (C0 : lw_At p s m meth c b N9 xs) (cx : CallFix p m c cL_law 10 s #[Value.ref b] q_al RL) {g : q_G} {ad : Nat → Nat} {K : Nat → Nat} {L : List Nat} (hN : L.Nodup) (hLA : ∀ q, q ∈ L → s.heap.size ≤ q) (hX : q_X ad (fun q => q ∈ L) s) {f0 : Nat → va_E} {x : Nat} (hx : x ∈ L) (kx : K x = 11) {so : Nat} (hso : so ∈ L) (kso : K so = 8) {rd : Nat} (hrd : rd ∈ L) (krd : K rd = 9) {scr : Nat} (hscr : scr ∈ L) (kscr : K scr = 7) {fc : Nat} (hfc : fc ∈ L) (kfc : K fc = 1) {hist : Nat} (hhist : hist ∈ L) (khist : K hist = 2) {rep : Nat} (hrep : rep ∈ L) (krep : K rep = 6) {now : Nat} (hnow : now ∈ L) (know : K now = 10) {dr : Nat} (hdr : dr ∈ L) (kdr : K dr = 13) {sv : Nat} (hsv : sv ∈ L) (ksv : K sv = 14) {tr : Nat} (htr : tr ∈ L) (ktr : K tr = 15) {ba : Nat} (hba : ba ∈ L) (kba : K ba = 142) {nds : Nat} (hnds : nds ∈ L) (knds : K nds = 111) {mo : Nat} (hmo : mo ∈ L) (kmo : K mo = 12) {bu : Nat} (hbu : bu ∈ L) (kbu : K bu = 150) {sr : Nat} (hsr : sr ∈ L) (ksr : K sr = 151) {sd : Nat} (hsd : sd ∈ L) (ksd : K sd = 152) {as : Nat} (has : as ∈ L) (kas : K as = 153) {aw : Nat} (haw : aw ∈ L) (kaw : K aw = 154) {pa : Nat} (hpa : pa ∈ L) (kpa : K pa = 155) {nm : Nat} (hnm : nm ∈ L) (knm : K nm = 156) {snm : Nat} (hsnm : snm ∈ L) (ksnm : K snm = 157) {anm : Nat} (hanm : anm ∈ L) (kanm : K anm = 158) {hp : Nat} (hhp : hp ∈ L) (khp : K hp = 159) {dy : Nat} (hdy : dy ∈ L) (kdy : K dy = 160) {cs : Nat} (hcs : cs ∈ L) (kcs : K cs = 161) {c1 : Nat} (hc1 : c1 ∈ L) (kc1 : K c1 = 162) {c2 : Nat} (hc2 : c2 ∈ L) (kc2 : K c2 = 163) {c3 : Nat} (hc3 : c3 ∈ L) (kc3 : K c3 = 164) {bg : Nat} (hbg : bg ∈ L) (kbg : K bg = 165) {lp : Nat} (hlp : lp ∈ L) (klp : K lp = 166) {rp : Nat} (hrp : rp ∈ L) (krp : K rp = 167) {out : Nat} (hout : out ∈ L) (kout : K out = 168) {outD : Nat} (houtD : outD ∈ L) (koutD : K outD = 169) (hr0 : q_ir (q_r f0 x 0) so) (hr1 : q_ir (q_r f0 x 1) rd) (hr2 : q_ir (q_r f0 x 2) scr) (hr3 : q_ir (q_r f0 x 3) fc) (hr4 : q_ir (q_r f0 x 4) hist) (hr5 : q_ir (q_r f0 x 5) rep) (hr6 : q_ir (q_r f0 x 6) now) (hr7 : q_ir (q_r f0 x 7) dr) (hr8 : q_ir (q_r f0 x 8) sv) (hr9 : q_ir (q_r f0 fc 0) tr) (hr10 : q_ir (q_r f0 so 0) ba) (hr11 : q_ir (q_r f0 dr 0) nds) (hr12 : q_ir (q_r f0 mo 1) bu) (hr13 : q_ir (q_r f0 mo 13) sr) (hr14 : q_ir (q_r f0 mo 14) sd) (hr15 : q_ir (q_r f0 mo 15) as) (hr16 : q_ir (q_r f0 mo 16) aw) (hr17 : q_ir (q_r f0 mo 17) pa) (hr18 : q_ir (q_r f0 mo 18) nm) (hr19 : q_ir (q_r f0 mo 19) snm) (hr20 : q_ir (q_r f0 mo 20) anm) (hr21 : q_ir (q_r f0 mo 24) hp) (hr22 : q_ir (q_r f0 mo 25) dy) (hr23 : q_ir (q_r f0 mo 29) cs) (hr24 : q_ir (q_r f0 mo 30) c1) (hr25 : q_ir (q_r f0 mo 31) c2) (hr26 : q_ir (q_r f0 mo 32) c3) (hr27 : q_ir (q_r f0 mo 33) bg) (hr28 : q_ir (q_r f0 mo 34) lp) (hr29 : q_ir (q_r f0 mo 38) rp) (hij : tk_ij K L f0 nds) {f : Nat → va_E} {H : Heap} {locs : List Loc} {ls : Array Slot} {cells slots : Nat} {ii tn : Int} (hB : q_B g K L (fun q => s.heap.size ≤ q) [(0, 0, 6), (2, 1, 2), (3, 0, 4), (4, 0, 7), (5, 0, 9), (6, 1, 1), (7, 1, 4), (8, 1, 9), (9, 0, 2), (10, 3, 15), (11, 9, 9), (12, 0, 0), (12, 2, 12), (12, 21, 23), (12, 26, 28), (12, 35, 37), (12, 39, 40), (13, 3, 15), (14, 3, 15), (15, 3, 15), (16, 3, 15), (17, 0, 9), (18, 0, 9), (19, 0, 9), (20, 0, 9), (21, 0, 4), (22, 0, 4), (23, 0, 4), (24, 0, 4), (25, 0, 7), (26, 0, 7), (27, 0, 7), (28, 0, 7), (142, 0, 599), (143, 0, 599), (150, 0, 599), (151, 0, 657), (152, 0, 657), (153, 0, 657), (154, 0, 657), (155, 0, 3947), (156, 0, 9), (157, 0, 9), (158, 0, 9), (159, 0, 9), (160, 0, 9), (161, 0, 59), (162, 0, 58), (163, 0, 58), (164, 0, 58), (165, 0, 1), (166, 0, 1), (167, 0, 479), (168, 0, 0), (169, 0, 0)] f0 f s H locs) (hI : q_Iv4 f so mo sr pa sd bu ba tn) (hl : lv_has ls 10 [(5, .int (q_i ii)), (4, .ref outD), (3, .ref out), (2, .ref mo), (1, .ref x), (0, .ref b)]) (hi0 : 0 ≤ ii) (hi6 : ii + 6 ≤ N9) (hce : cells + 6 ≤ 10000) (hse : slots + 36 ≤ 100000) (kk : ∀ (f1 : Nat → va_E) (H1 : Heap) (locs1 : List Loc) (ls1 : Array Slot) (tn1 : Int), q_B g K L (fun q => s.heap.size ≤ q) [(0, 0, 6), (2, 1, 2), (3, 0, 4), (4, 0, 7), (5, 0, 9), (6, 1, 1), (7, 1, 4), (8, 1, 9), (9, 0, 2), (10, 3, 15), (11, 9, 9), (12, 0, 0), (12, 2, 12), (12, 21, 23), (12, 26, 28), (12, 35, 37), (12, 39, 40), (13, 3, 15), (14, 3, 15), (15, 3, 15), (16, 3, 15), (17, 0, 9), (18, 0, 9), (19, 0, 9), (20, 0, 9), (21, 0, 4), (22, 0, 4), (23, 0, 4), (24, 0, 4), (25, 0, 7), (26, 0, 7), (27, 0, 7), (28, 0, 7), (142, 0, 599), (143, 0, 599), (150, 0, 599), (151, 0, 657), (152, 0, 657), (153, 0, 657), (154, 0, 657), (155, 0, 3947), (156, 0, 9), (157, 0, 9), (158, 0, 9), (159, 0, 9), (160, 0, 9), (161, 0, 59), (162, 0, 58), (163, 0, 58), (164, 0, 58), (165, 0, 1), (166, 0, 1), (167, 0, 479), (168, 0, 0), (169, 0, 0)] f0 f1 s H1 locs1 → q_Iv4 f1 so mo sr pa sd bu ba tn1 → lv_has ls1 10 [(5, .int (q_i ii)), (4, .ref outD), (3, .ref out), (2, .ref mo), (1, .ref x), (0, .ref b)] → W p l e room_1 s m #[Value.ref b] below meth c H1 locs1 (cells + 6) (slots + 36) (lw_Z below #[Value.ref b] s) (F0 m 1521 ls1 [])) : W p l e room_1 s m #[Value.ref b] below meth c H locs (cells) (slots) (lw_Z below #[Value.ref b] s) (F0 m 1222 ls []) := by
  have hXs := C0.2.2.2.2.2.2.1
  have hbl := C0.2.2.2.2.2.2.2.1
  have hbA := q_bA hbl
  obtain ⟨⟨hn0, hn1, ltn, utn⟩, hgr, hpk, hsd9, ht3, ht4, hbb⟩ := hI
  have hr0 : q_ir (q_r f x 0) so := Eq.trans (hB.2.2.r hx (by rw [kx]; rfl)) hr0
  have hr1 : q_ir (q_r f x 1) rd := Eq.trans (hB.2.2.r hx (by rw [kx]; rfl)) hr1
  have hr2 : q_ir (q_r f x 2) scr := Eq.trans (hB.2.2.r hx (by rw [kx]; rfl)) hr2
  have hr3 : q_ir (q_r f x 3) fc := Eq.trans (hB.2.2.r hx (by rw [kx]; rfl)) hr3
  have hr4 : q_ir (q_r f x 4) hist := Eq.trans (hB.2.2.r hx (by rw [kx]; rfl)) hr4
  have hr5 : q_ir (q_r f x 5) rep := Eq.trans (hB.2.2.r hx (by rw [kx]; rfl)) hr5
  have hr6 : q_ir (q_r f x 6) now := Eq.trans (hB.2.2.r hx (by rw [kx]; rfl)) hr6
  have hr7 : q_ir (q_r f x 7) dr := Eq.trans (hB.2.2.r hx (by rw [kx]; rfl)) hr7
  have hr8 : q_ir (q_r f x 8) sv := Eq.trans (hB.2.2.r hx (by rw [kx]; rfl)) hr8
  have hr9 : q_ir (q_r f fc 0) tr := Eq.trans (hB.2.2.r hfc (by rw [kfc]; rfl)) hr9
  have hr10 : q_ir (q_r f so 0) ba := Eq.trans (hB.2.2.r hso (by rw [kso]; rfl)) hr10
  have hr11 : q_ir (q_r f dr 0) nds := Eq.trans (hB.2.2.r hdr (by rw [kdr]; rfl)) hr11
  have hr12 : q_ir (q_r f mo 1) bu := Eq.trans (hB.2.2.r hmo (by rw [kmo]; rfl)) hr12
  have hr13 : q_ir (q_r f mo 13) sr := Eq.trans (hB.2.2.r hmo (by rw [kmo]; rfl)) hr13
  have hr14 : q_ir (q_r f mo 14) sd := Eq.trans (hB.2.2.r hmo (by rw [kmo]; rfl)) hr14
  have hr15 : q_ir (q_r f mo 15) as := Eq.trans (hB.2.2.r hmo (by rw [kmo]; rfl)) hr15
  have hr16 : q_ir (q_r f mo 16) aw := Eq.trans (hB.2.2.r hmo (by rw [kmo]; rfl)) hr16
  have hr17 : q_ir (q_r f mo 17) pa := Eq.trans (hB.2.2.r hmo (by rw [kmo]; rfl)) hr17
  have hr18 : q_ir (q_r f mo 18) nm := Eq.trans (hB.2.2.r hmo (by rw [kmo]; rfl)) hr18
  have hr19 : q_ir (q_r f mo 19) snm := Eq.trans (hB.2.2.r hmo (by rw [kmo]; rfl)) hr19
  have hr20 : q_ir (q_r f mo 20) anm := Eq.trans (hB.2.2.r hmo (by rw [kmo]; rfl)) hr20
  have hr21 : q_ir (q_r f mo 24) hp := Eq.trans (hB.2.2.r hmo (by rw [kmo]; rfl)) hr21
  have hr22 : q_ir (q_r f mo 25) dy := Eq.trans (hB.2.2.r hmo (by rw [kmo]; rfl)) hr22
  have hr23 : q_ir (q_r f mo 29) cs := Eq.trans (hB.2.2.r hmo (by rw [kmo]; rfl)) hr23
  have hr24 : q_ir (q_r f mo 30) c1 := Eq.trans (hB.2.2.r hmo (by rw [kmo]; rfl)) hr24
  have hr25 : q_ir (q_r f mo 31) c2 := Eq.trans (hB.2.2.r hmo (by rw [kmo]; rfl)) hr25
  have hr26 : q_ir (q_r f mo 32) c3 := Eq.trans (hB.2.2.r hmo (by rw [kmo]; rfl)) hr26
  have hr27 : q_ir (q_r f mo 33) bg := Eq.trans (hB.2.2.r hmo (by rw [kmo]; rfl)) hr27
  have hr28 : q_ir (q_r f mo 34) lp := Eq.trans (hB.2.2.r hmo (by rw [kmo]; rfl)) hr28
  have hr29 : q_ir (q_r f mo 38) rp := Eq.trans (hB.2.2.r hmo (by rw [kmo]; rfl)) hr29
  have hij : tk_ij K L f nds := tk_ij_tr hij (fun i9 => hB.2.2.r hnds (by rw [knds]; rfl))
  obtain ⟨x1, ex1⟩ : ∃ zz, q_is (q_z f sr 3) zz := ⟨_, q_isr _⟩
  obtain ⟨lx1, ux1⟩ : 0 ≤ x1 ∧ x1 ≤ 9999 := q_isb ex1 ⟨(hgr 3 (by decide)).1, ht3⟩
  obtain ⟨x2, ex2⟩ : ∃ zz, q_is (q_z f sr 4) zz := ⟨_, q_isr _⟩
  obtain ⟨lx2, ux2⟩ : 0 ≤ x2 ∧ x2 ≤ 60 := q_isb ex2 ⟨(hgr 4 (by decide)).1, ht4⟩
  refine q_ald_n cx dL_law_1222 rfl (lv_at hl 4 rfl) ?_
  refine q_ald_n cx dL_law_1223 rfl (lv_at hl 5 rfl) ?_
  refine lv_iload cx.1 cx.2.1 dL_law_1224 (lv_at hl 0 rfl) ?_
  refine q_iconst cx dL_law_1226 ?_
  refine q_iadd cx dL_law_1227 ?_
  refine va_sld cx.1 cx.2.1 hXs hbl hbA hB.1.2.2.2 (q_in (by omega) (by omega) (by omega)) dL_law_1228 ?_
  obtain ⟨a3, ra3, ea3⟩ : ∃ z : Int, q_R z ∧ xs (q_i (ii + 1)).toNatClampNeg = q_i z := ⟨_, q_rng _, (q_of _).symm⟩
  rw [ea3]
  refine q_ald_n cx dL_law_1229 rfl (lv_at hl 5 rfl) ?_
  refine lv_iload cx.1 cx.2.1 dL_law_1230 (lv_at hl 0 rfl) ?_
  refine q_iconst cx dL_law_1232 ?_
  refine q_iadd cx dL_law_1233 ?_
  refine va_sld cx.1 cx.2.1 hXs hbl hbA hB.1.2.2.2 (q_in (by omega) (by omega) (by omega)) dL_law_1234 ?_
  obtain ⟨a4, ra4, ea4⟩ : ∃ z : Int, q_R z ∧ xs (q_i (ii + 2)).toNatClampNeg = q_i z := ⟨_, q_rng _, (q_of _).symm⟩
  rw [ea4]
  refine q_ald_n cx dL_law_1235 rfl (lv_at hl 2 rfl) ?_
  refine q_cWS (As := [.ref x, .int (q_i a3), .int (q_i a4), .ref out]) (rest := []) cx hX hB (fun q h => hLA q h) (fun q h1 h2 => absurd h1 (Nat.not_le_of_lt h2)) hN (w_setShift l g ad hN hB.2.1 hfl x hx kx a3 (by omega) (by omega) a4 (by omega) (by omega) out hout kout so hso kso rd hrd krd scr hscr kscr fc hfc kfc hist hhist khist rep hrep krep now hnow know dr hdr kdr sv hsv ksv tr htr ktr hr0 hr1 hr2 hr3 hr4 hr5 hr6 hr7 hr8 hr9) q_cL_228 q_dL_setShift ⟨by decide, by show cells + 2 ≤ 601024; omega, by show slots + 12 ≤ 7293034; omega⟩ rfl rfl hl.1 rfl (Nat.le_of_ble_eq_true rfl) dL_law_1236 (fun v9 H locs f5 h7 hF hB => ?_)
  obtain ⟨y6, rfl, ry6, h7⟩ := h7
  refine W.eq (g2 := F0 m 1239 ls [.int (q_i y6)]) rfl ?_
  obtain ⟨ly6, uy6⟩ := h7
  have z8 : q_is (q_z f5 so 1) tn := Eq.trans (hF.z hso (by rw [kso]; rfl)) hn0
  have z9 : q_is (q_z f5 mo 2) tn := Eq.trans (hF.z hmo (by rw [kmo]; rfl)) hn1
  have z10 : q_is (q_z f5 sr 3) x1 := Eq.trans (hF.z hsr (by rw [ksr]; rfl)) ex1
  have z11 : q_is (q_z f5 sr 4) x2 := Eq.trans (hF.z hsr (by rw [ksr]; rfl)) ex2
  have z12 : q_ir (q_r f5 x 0) so := Eq.trans (hF.r hx (by rw [kx]; rfl)) hr0
  have z13 : q_ir (q_r f5 x 1) rd := Eq.trans (hF.r hx (by rw [kx]; rfl)) hr1
  have z14 : q_ir (q_r f5 x 2) scr := Eq.trans (hF.r hx (by rw [kx]; rfl)) hr2
  have z15 : q_ir (q_r f5 x 3) fc := Eq.trans (hF.r hx (by rw [kx]; rfl)) hr3
  have z16 : q_ir (q_r f5 x 4) hist := Eq.trans (hF.r hx (by rw [kx]; rfl)) hr4
  have z17 : q_ir (q_r f5 x 5) rep := Eq.trans (hF.r hx (by rw [kx]; rfl)) hr5
  have z18 : q_ir (q_r f5 x 6) now := Eq.trans (hF.r hx (by rw [kx]; rfl)) hr6
  have z19 : q_ir (q_r f5 x 7) dr := Eq.trans (hF.r hx (by rw [kx]; rfl)) hr7
  have z20 : q_ir (q_r f5 x 8) sv := Eq.trans (hF.r hx (by rw [kx]; rfl)) hr8
  have z21 : q_ir (q_r f5 fc 0) tr := Eq.trans (hF.r hfc (by rw [kfc]; rfl)) hr9
  have z22 : q_ir (q_r f5 so 0) ba := Eq.trans (hF.r hso (by rw [kso]; rfl)) hr10
  have z23 : q_ir (q_r f5 dr 0) nds := Eq.trans (hF.r hdr (by rw [kdr]; rfl)) hr11
  have z24 : q_ir (q_r f5 mo 1) bu := Eq.trans (hF.r hmo (by rw [kmo]; rfl)) hr12
  have z25 : q_ir (q_r f5 mo 13) sr := Eq.trans (hF.r hmo (by rw [kmo]; rfl)) hr13
  have z26 : q_ir (q_r f5 mo 14) sd := Eq.trans (hF.r hmo (by rw [kmo]; rfl)) hr14
  have z27 : q_ir (q_r f5 mo 15) as := Eq.trans (hF.r hmo (by rw [kmo]; rfl)) hr15
  have z28 : q_ir (q_r f5 mo 16) aw := Eq.trans (hF.r hmo (by rw [kmo]; rfl)) hr16
  have z29 : q_ir (q_r f5 mo 17) pa := Eq.trans (hF.r hmo (by rw [kmo]; rfl)) hr17
  have z30 : q_ir (q_r f5 mo 18) nm := Eq.trans (hF.r hmo (by rw [kmo]; rfl)) hr18
  have z31 : q_ir (q_r f5 mo 19) snm := Eq.trans (hF.r hmo (by rw [kmo]; rfl)) hr19
  have z32 : q_ir (q_r f5 mo 20) anm := Eq.trans (hF.r hmo (by rw [kmo]; rfl)) hr20
  have z33 : q_ir (q_r f5 mo 24) hp := Eq.trans (hF.r hmo (by rw [kmo]; rfl)) hr21
  have z34 : q_ir (q_r f5 mo 25) dy := Eq.trans (hF.r hmo (by rw [kmo]; rfl)) hr22
  have z35 : q_ir (q_r f5 mo 29) cs := Eq.trans (hF.r hmo (by rw [kmo]; rfl)) hr23
  have z36 : q_ir (q_r f5 mo 30) c1 := Eq.trans (hF.r hmo (by rw [kmo]; rfl)) hr24
  have z37 : q_ir (q_r f5 mo 31) c2 := Eq.trans (hF.r hmo (by rw [kmo]; rfl)) hr25
  have z38 : q_ir (q_r f5 mo 32) c3 := Eq.trans (hF.r hmo (by rw [kmo]; rfl)) hr26
  have z39 : q_ir (q_r f5 mo 33) bg := Eq.trans (hF.r hmo (by rw [kmo]; rfl)) hr27
  have z40 : q_ir (q_r f5 mo 34) lp := Eq.trans (hF.r hmo (by rw [kmo]; rfl)) hr28
  have z41 : q_ir (q_r f5 mo 38) rp := Eq.trans (hF.r hmo (by rw [kmo]; rfl)) hr29
  have g42 : q_gr f5 sr := q_gr_fr hgr (fun i9 _ => hF.z hsr (by rw [ksr]; rfl))
  have g43 : q_pk f5 mo pa := q_pk_tr hpk (hF.z hmo (by rw [kmo]; rfl)) (fun i9 => hF.z hpa (by rw [kpa]; rfl))
  have g44 : q_sv f5 mo sd := q_sv_tr hsd9 (hF.z hmo (by rw [kmo]; rfl)) (fun i9 => hF.z hsd (by rw [ksd]; rfl))
  have g45 : tk_bb f5 bu ba tn := tk_bb_tr hbb (fun i9 => hF.z hbu (by rw [kbu]; rfl)) (fun i9 => hF.z hba (by rw [kba]; rfl))
  have g46 : tk_ij K L f5 nds := tk_ij_tr hij (fun i9 => hF.r hnds (by rw [knds]; rfl))
  refine lv_istore (lv' := [(6, .int (q_i y6)), (5, .int (q_i ii)), (4, .ref outD), (3, .ref out), (2, .ref mo), (1, .ref x), (0, .ref b)]) cx.1 cx.2.1 dL_law_1239 hl (by decide) rfl (fun ls hl => ?_)
  refine q_ald_n cx dL_law_1241 rfl (lv_at hl 4 rfl) ?_
  refine q_ald_n cx dL_law_1242 rfl (lv_at hl 6 rfl) ?_
  refine lv_iload cx.1 cx.2.1 dL_law_1243 (lv_at hl 1 rfl) ?_
  refine q_iconst cx dL_law_1245 ?_
  refine q_iadd cx dL_law_1246 ?_
  refine va_sld cx.1 cx.2.1 hXs hbl hbA hB.1.2.2.2 (q_in (by omega) (by omega) (by omega)) dL_law_1247 ?_
  rw [ea3]
  refine q_ald_n cx dL_law_1248 rfl (lv_at hl 6 rfl) ?_
  refine lv_iload cx.1 cx.2.1 dL_law_1249 (lv_at hl 1 rfl) ?_
  refine q_iconst cx dL_law_1251 ?_
  refine q_iadd cx dL_law_1252 ?_
  refine va_sld cx.1 cx.2.1 hXs hbl hbA hB.1.2.2.2 (q_in (by omega) (by omega) (by omega)) dL_law_1253 ?_
  rw [ea4]
  refine q_cVi (As := [.int (q_i a3), .int (q_i a4)]) (rest := []) cx hB (fun q h => hLA q h) hN hmo kmo (by decide) rfl (r_setShift l g hN hB.2.1 mo hmo kmo a3 (by omega) (by omega) a4 (by omega) (by omega) sr hsr ksr as has kas pa hpa kpa x1 (by omega) (by omega) x2 (by omega) (by omega) z10 z11 z25 z27 z29 g42 g43) q_cL_230 q_dX12_setShift ⟨by decide, by show cells + 2 ≤ 601024; omega, by show slots + 12 ≤ 7293034; omega⟩ rfl rfl hl.1 rfl (Nat.le_of_ble_eq_true rfl) dL_law_1254 (fun y48 H locs f47 ry48 h49 hF hB => ?_)
  obtain ⟨ly48, uy48, lz50, uz50, lz51, uz51, g52, g53⟩ := h49
  have z54 : q_is (q_z f47 so 1) tn := Eq.trans (hF.z hso (by rw [kso]; rfl)) z8
  have z55 : q_is (q_z f47 mo 2) tn := Eq.trans (hF.z hmo (by rw [kmo]; rfl)) z9
  have z56 : q_is (q_z f47 sr 3) x1 := Eq.trans (hF.z hsr (by rw [ksr]; rfl)) z10
  have z57 : q_is (q_z f47 sr 4) x2 := Eq.trans (hF.z hsr (by rw [ksr]; rfl)) z11
  have z58 : q_ir (q_r f47 x 0) so := Eq.trans (hF.r hx (by rw [kx]; rfl)) z12
  have z59 : q_ir (q_r f47 x 1) rd := Eq.trans (hF.r hx (by rw [kx]; rfl)) z13
  have z60 : q_ir (q_r f47 x 2) scr := Eq.trans (hF.r hx (by rw [kx]; rfl)) z14
  have z61 : q_ir (q_r f47 x 3) fc := Eq.trans (hF.r hx (by rw [kx]; rfl)) z15
  have z62 : q_ir (q_r f47 x 4) hist := Eq.trans (hF.r hx (by rw [kx]; rfl)) z16
  have z63 : q_ir (q_r f47 x 5) rep := Eq.trans (hF.r hx (by rw [kx]; rfl)) z17
  have z64 : q_ir (q_r f47 x 6) now := Eq.trans (hF.r hx (by rw [kx]; rfl)) z18
  have z65 : q_ir (q_r f47 x 7) dr := Eq.trans (hF.r hx (by rw [kx]; rfl)) z19
  have z66 : q_ir (q_r f47 x 8) sv := Eq.trans (hF.r hx (by rw [kx]; rfl)) z20
  have z67 : q_ir (q_r f47 fc 0) tr := Eq.trans (hF.r hfc (by rw [kfc]; rfl)) z21
  have z68 : q_ir (q_r f47 so 0) ba := Eq.trans (hF.r hso (by rw [kso]; rfl)) z22
  have z69 : q_ir (q_r f47 dr 0) nds := Eq.trans (hF.r hdr (by rw [kdr]; rfl)) z23
  have z70 : q_ir (q_r f47 mo 1) bu := Eq.trans (hF.r hmo (by rw [kmo]; rfl)) z24
  have z71 : q_ir (q_r f47 mo 13) sr := Eq.trans (hF.r hmo (by rw [kmo]; rfl)) z25
  have z72 : q_ir (q_r f47 mo 14) sd := Eq.trans (hF.r hmo (by rw [kmo]; rfl)) z26
  have z73 : q_ir (q_r f47 mo 15) as := Eq.trans (hF.r hmo (by rw [kmo]; rfl)) z27
  have z74 : q_ir (q_r f47 mo 16) aw := Eq.trans (hF.r hmo (by rw [kmo]; rfl)) z28
  have z75 : q_ir (q_r f47 mo 17) pa := Eq.trans (hF.r hmo (by rw [kmo]; rfl)) z29
  have z76 : q_ir (q_r f47 mo 18) nm := Eq.trans (hF.r hmo (by rw [kmo]; rfl)) z30
  have z77 : q_ir (q_r f47 mo 19) snm := Eq.trans (hF.r hmo (by rw [kmo]; rfl)) z31
  have z78 : q_ir (q_r f47 mo 20) anm := Eq.trans (hF.r hmo (by rw [kmo]; rfl)) z32
  have z79 : q_ir (q_r f47 mo 24) hp := Eq.trans (hF.r hmo (by rw [kmo]; rfl)) z33
  have z80 : q_ir (q_r f47 mo 25) dy := Eq.trans (hF.r hmo (by rw [kmo]; rfl)) z34
  have z81 : q_ir (q_r f47 mo 29) cs := Eq.trans (hF.r hmo (by rw [kmo]; rfl)) z35
  have z82 : q_ir (q_r f47 mo 30) c1 := Eq.trans (hF.r hmo (by rw [kmo]; rfl)) z36
  have z83 : q_ir (q_r f47 mo 31) c2 := Eq.trans (hF.r hmo (by rw [kmo]; rfl)) z37
  have z84 : q_ir (q_r f47 mo 32) c3 := Eq.trans (hF.r hmo (by rw [kmo]; rfl)) z38
  have z85 : q_ir (q_r f47 mo 33) bg := Eq.trans (hF.r hmo (by rw [kmo]; rfl)) z39
  have z86 : q_ir (q_r f47 mo 34) lp := Eq.trans (hF.r hmo (by rw [kmo]; rfl)) z40
  have z87 : q_ir (q_r f47 mo 38) rp := Eq.trans (hF.r hmo (by rw [kmo]; rfl)) z41
  have g88 : q_sv f47 mo sd := q_sv_tr g44 (hF.z hmo (by rw [kmo]; rfl)) (fun i9 => hF.z hsd (by rw [ksd]; rfl))
  have g89 : tk_bb f47 bu ba tn := tk_bb_tr g45 (fun i9 => hF.z hbu (by rw [kbu]; rfl)) (fun i9 => hF.z hba (by rw [kba]; rfl))
  have g90 : tk_ij K L f47 nds := tk_ij_tr g46 (fun i9 => hF.r hnds (by rw [knds]; rfl))
  obtain ⟨x91, ex91⟩ : ∃ zz, q_is (q_z f47 sr 3) zz := ⟨_, q_isr _⟩
  obtain ⟨lx91, ux91⟩ := q_isb ex91 ⟨lz50, uz50⟩
  obtain ⟨x92, ex92⟩ : ∃ zz, q_is (q_z f47 sr 4) zz := ⟨_, q_isr _⟩
  obtain ⟨lx92, ux92⟩ := q_isb ex92 ⟨lz51, uz51⟩
  refine lv_istore (lv' := [(7, .int (q_i y48)), (6, .int (q_i y6)), (5, .int (q_i ii)), (4, .ref outD), (3, .ref out), (2, .ref mo), (1, .ref x), (0, .ref b)]) cx.1 cx.2.1 dL_law_1257 hl (by decide) rfl (fun ls hl => ?_)
  refine lv_goto (tgt := 1521) cx.1 cx.2.1 dL_law_1259 (by decide) ?_
  refine W.widen (k := cells + 6) (n := slots + 36) (by omega) (by omega) ?_
  exact kk f47 H locs ls tn hB ⟨⟨z54, (Eq.trans z55 (by omega)), by omega, by omega⟩, g52, g53, g88, q_isu ex91 (by omega), q_isu ex92 (by omega), tk_bb_le g89 (by omega)⟩ (lv_sub hl [2, 3, 4, 5, 6, 7] rfl)
set_option maxHeartbeats 4000000 in
set_option maxRecDepth 100000 in
theorem law_c1262 {p : Program} {l : Launch} {e : Env} {s : State} {m : MethodId} {below : List Frame} {meth : Method} {c : Code} {b N9 : Nat} {xs : Nat → Int32} (hfl : l.stackTraces = false) (hN9 : N9 ≤ 3072) (C0 : lw_At p s m meth c b N9 xs) (cx : CallFix p m c cL_law 10 s #[Value.ref b] q_al RL) {g : q_G} {ad : Nat → Nat} {K : Nat → Nat} {L : List Nat} (hN : L.Nodup) (hLA : ∀ q, q ∈ L → s.heap.size ≤ q) (hX : q_X ad (fun q => q ∈ L) s) {f0 : Nat → va_E} {x : Nat} (hx : x ∈ L) (kx : K x = 11) {so : Nat} (hso : so ∈ L) (kso : K so = 8) {rd : Nat} (hrd : rd ∈ L) (krd : K rd = 9) {scr : Nat} (hscr : scr ∈ L) (kscr : K scr = 7) {fc : Nat} (hfc : fc ∈ L) (kfc : K fc = 1) {hist : Nat} (hhist : hist ∈ L) (khist : K hist = 2) {rep : Nat} (hrep : rep ∈ L) (krep : K rep = 6) {now : Nat} (hnow : now ∈ L) (know : K now = 10) {dr : Nat} (hdr : dr ∈ L) (kdr : K dr = 13) {sv : Nat} (hsv : sv ∈ L) (ksv : K sv = 14) {tr : Nat} (htr : tr ∈ L) (ktr : K tr = 15) {ba : Nat} (hba : ba ∈ L) (kba : K ba = 142) {nds : Nat} (hnds : nds ∈ L) (knds : K nds = 111) {mo : Nat} (hmo : mo ∈ L) (kmo : K mo = 12) {bu : Nat} (hbu : bu ∈ L) (kbu : K bu = 150) {sr : Nat} (hsr : sr ∈ L) (ksr : K sr = 151) {sd : Nat} (hsd : sd ∈ L) (ksd : K sd = 152) {as : Nat} (has : as ∈ L) (kas : K as = 153) {aw : Nat} (haw : aw ∈ L) (kaw : K aw = 154) {pa : Nat} (hpa : pa ∈ L) (kpa : K pa = 155) {nm : Nat} (hnm : nm ∈ L) (knm : K nm = 156) {snm : Nat} (hsnm : snm ∈ L) (ksnm : K snm = 157) {anm : Nat} (hanm : anm ∈ L) (kanm : K anm = 158) {hp : Nat} (hhp : hp ∈ L) (khp : K hp = 159) {dy : Nat} (hdy : dy ∈ L) (kdy : K dy = 160) {cs : Nat} (hcs : cs ∈ L) (kcs : K cs = 161) {c1 : Nat} (hc1 : c1 ∈ L) (kc1 : K c1 = 162) {c2 : Nat} (hc2 : c2 ∈ L) (kc2 : K c2 = 163) {c3 : Nat} (hc3 : c3 ∈ L) (kc3 : K c3 = 164) {bg : Nat} (hbg : bg ∈ L) (kbg : K bg = 165) {lp : Nat} (hlp : lp ∈ L) (klp : K lp = 166) {rp : Nat} (hrp : rp ∈ L) (krp : K rp = 167) {out : Nat} (hout : out ∈ L) (kout : K out = 168) {outD : Nat} (houtD : outD ∈ L) (koutD : K outD = 169) (hr0 : q_ir (q_r f0 x 0) so) (hr1 : q_ir (q_r f0 x 1) rd) (hr2 : q_ir (q_r f0 x 2) scr) (hr3 : q_ir (q_r f0 x 3) fc) (hr4 : q_ir (q_r f0 x 4) hist) (hr5 : q_ir (q_r f0 x 5) rep) (hr6 : q_ir (q_r f0 x 6) now) (hr7 : q_ir (q_r f0 x 7) dr) (hr8 : q_ir (q_r f0 x 8) sv) (hr9 : q_ir (q_r f0 fc 0) tr) (hr10 : q_ir (q_r f0 so 0) ba) (hr11 : q_ir (q_r f0 dr 0) nds) (hr12 : q_ir (q_r f0 mo 1) bu) (hr13 : q_ir (q_r f0 mo 13) sr) (hr14 : q_ir (q_r f0 mo 14) sd) (hr15 : q_ir (q_r f0 mo 15) as) (hr16 : q_ir (q_r f0 mo 16) aw) (hr17 : q_ir (q_r f0 mo 17) pa) (hr18 : q_ir (q_r f0 mo 18) nm) (hr19 : q_ir (q_r f0 mo 19) snm) (hr20 : q_ir (q_r f0 mo 20) anm) (hr21 : q_ir (q_r f0 mo 24) hp) (hr22 : q_ir (q_r f0 mo 25) dy) (hr23 : q_ir (q_r f0 mo 29) cs) (hr24 : q_ir (q_r f0 mo 30) c1) (hr25 : q_ir (q_r f0 mo 31) c2) (hr26 : q_ir (q_r f0 mo 32) c3) (hr27 : q_ir (q_r f0 mo 33) bg) (hr28 : q_ir (q_r f0 mo 34) lp) (hr29 : q_ir (q_r f0 mo 38) rp) (hij : tk_ij K L f0 nds) {f : Nat → va_E} {H : Heap} {locs : List Loc} {ls : Array Slot} {cells slots : Nat} {ii tn : Int} (hB : q_B g K L (fun q => s.heap.size ≤ q) [(0, 0, 6), (2, 1, 2), (3, 0, 4), (4, 0, 7), (5, 0, 9), (6, 1, 1), (7, 1, 4), (8, 1, 9), (9, 0, 2), (10, 3, 15), (11, 9, 9), (12, 0, 0), (12, 2, 12), (12, 21, 23), (12, 26, 28), (12, 35, 37), (12, 39, 40), (13, 3, 15), (14, 3, 15), (15, 3, 15), (16, 3, 15), (17, 0, 9), (18, 0, 9), (19, 0, 9), (20, 0, 9), (21, 0, 4), (22, 0, 4), (23, 0, 4), (24, 0, 4), (25, 0, 7), (26, 0, 7), (27, 0, 7), (28, 0, 7), (142, 0, 599), (143, 0, 599), (150, 0, 599), (151, 0, 657), (152, 0, 657), (153, 0, 657), (154, 0, 657), (155, 0, 3947), (156, 0, 9), (157, 0, 9), (158, 0, 9), (159, 0, 9), (160, 0, 9), (161, 0, 59), (162, 0, 58), (163, 0, 58), (164, 0, 58), (165, 0, 1), (166, 0, 1), (167, 0, 479), (168, 0, 0), (169, 0, 0)] f0 f s H locs) (hI : q_Iv4 f so mo sr pa sd bu ba tn) (hl : lv_has ls 10 [(5, .int (q_i ii)), (4, .ref outD), (3, .ref out), (2, .ref mo), (1, .ref x), (0, .ref b)]) (hi0 : 0 ≤ ii) (hi6 : ii + 6 ≤ N9) (hce : cells + 6 ≤ 10000) (hse : slots + 36 ≤ 100000) (kk : ∀ (f1 : Nat → va_E) (H1 : Heap) (locs1 : List Loc) (ls1 : Array Slot) (tn1 : Int), q_B g K L (fun q => s.heap.size ≤ q) [(0, 0, 6), (2, 1, 2), (3, 0, 4), (4, 0, 7), (5, 0, 9), (6, 1, 1), (7, 1, 4), (8, 1, 9), (9, 0, 2), (10, 3, 15), (11, 9, 9), (12, 0, 0), (12, 2, 12), (12, 21, 23), (12, 26, 28), (12, 35, 37), (12, 39, 40), (13, 3, 15), (14, 3, 15), (15, 3, 15), (16, 3, 15), (17, 0, 9), (18, 0, 9), (19, 0, 9), (20, 0, 9), (21, 0, 4), (22, 0, 4), (23, 0, 4), (24, 0, 4), (25, 0, 7), (26, 0, 7), (27, 0, 7), (28, 0, 7), (142, 0, 599), (143, 0, 599), (150, 0, 599), (151, 0, 657), (152, 0, 657), (153, 0, 657), (154, 0, 657), (155, 0, 3947), (156, 0, 9), (157, 0, 9), (158, 0, 9), (159, 0, 9), (160, 0, 9), (161, 0, 59), (162, 0, 58), (163, 0, 58), (164, 0, 58), (165, 0, 1), (166, 0, 1), (167, 0, 479), (168, 0, 0), (169, 0, 0)] f0 f1 s H1 locs1 → q_Iv4 f1 so mo sr pa sd bu ba tn1 → lv_has ls1 10 [(5, .int (q_i ii)), (4, .ref outD), (3, .ref out), (2, .ref mo), (1, .ref x), (0, .ref b)] → W p l e room_1 s m #[Value.ref b] below meth c H1 locs1 (cells + 6) (slots + 36) (lw_Z below #[Value.ref b] s) (F0 m 1521 ls1 [])) : W p l e room_1 s m #[Value.ref b] below meth c H locs (cells) (slots) (lw_Z below #[Value.ref b] s) (F0 m 1262 ls []) := by
  have hXs := C0.2.2.2.2.2.2.1
  have hbl := C0.2.2.2.2.2.2.2.1
  have hbA := q_bA hbl
  obtain ⟨⟨hn0, hn1, ltn, utn⟩, hgr, hpk, hsd9, ht3, ht4, hbb⟩ := hI
  have hr0 : q_ir (q_r f x 0) so := Eq.trans (hB.2.2.r hx (by rw [kx]; rfl)) hr0
  have hr1 : q_ir (q_r f x 1) rd := Eq.trans (hB.2.2.r hx (by rw [kx]; rfl)) hr1
  have hr2 : q_ir (q_r f x 2) scr := Eq.trans (hB.2.2.r hx (by rw [kx]; rfl)) hr2
  have hr3 : q_ir (q_r f x 3) fc := Eq.trans (hB.2.2.r hx (by rw [kx]; rfl)) hr3
  have hr4 : q_ir (q_r f x 4) hist := Eq.trans (hB.2.2.r hx (by rw [kx]; rfl)) hr4
  have hr5 : q_ir (q_r f x 5) rep := Eq.trans (hB.2.2.r hx (by rw [kx]; rfl)) hr5
  have hr6 : q_ir (q_r f x 6) now := Eq.trans (hB.2.2.r hx (by rw [kx]; rfl)) hr6
  have hr7 : q_ir (q_r f x 7) dr := Eq.trans (hB.2.2.r hx (by rw [kx]; rfl)) hr7
  have hr8 : q_ir (q_r f x 8) sv := Eq.trans (hB.2.2.r hx (by rw [kx]; rfl)) hr8
  have hr9 : q_ir (q_r f fc 0) tr := Eq.trans (hB.2.2.r hfc (by rw [kfc]; rfl)) hr9
  have hr10 : q_ir (q_r f so 0) ba := Eq.trans (hB.2.2.r hso (by rw [kso]; rfl)) hr10
  have hr11 : q_ir (q_r f dr 0) nds := Eq.trans (hB.2.2.r hdr (by rw [kdr]; rfl)) hr11
  have hr12 : q_ir (q_r f mo 1) bu := Eq.trans (hB.2.2.r hmo (by rw [kmo]; rfl)) hr12
  have hr13 : q_ir (q_r f mo 13) sr := Eq.trans (hB.2.2.r hmo (by rw [kmo]; rfl)) hr13
  have hr14 : q_ir (q_r f mo 14) sd := Eq.trans (hB.2.2.r hmo (by rw [kmo]; rfl)) hr14
  have hr15 : q_ir (q_r f mo 15) as := Eq.trans (hB.2.2.r hmo (by rw [kmo]; rfl)) hr15
  have hr16 : q_ir (q_r f mo 16) aw := Eq.trans (hB.2.2.r hmo (by rw [kmo]; rfl)) hr16
  have hr17 : q_ir (q_r f mo 17) pa := Eq.trans (hB.2.2.r hmo (by rw [kmo]; rfl)) hr17
  have hr18 : q_ir (q_r f mo 18) nm := Eq.trans (hB.2.2.r hmo (by rw [kmo]; rfl)) hr18
  have hr19 : q_ir (q_r f mo 19) snm := Eq.trans (hB.2.2.r hmo (by rw [kmo]; rfl)) hr19
  have hr20 : q_ir (q_r f mo 20) anm := Eq.trans (hB.2.2.r hmo (by rw [kmo]; rfl)) hr20
  have hr21 : q_ir (q_r f mo 24) hp := Eq.trans (hB.2.2.r hmo (by rw [kmo]; rfl)) hr21
  have hr22 : q_ir (q_r f mo 25) dy := Eq.trans (hB.2.2.r hmo (by rw [kmo]; rfl)) hr22
  have hr23 : q_ir (q_r f mo 29) cs := Eq.trans (hB.2.2.r hmo (by rw [kmo]; rfl)) hr23
  have hr24 : q_ir (q_r f mo 30) c1 := Eq.trans (hB.2.2.r hmo (by rw [kmo]; rfl)) hr24
  have hr25 : q_ir (q_r f mo 31) c2 := Eq.trans (hB.2.2.r hmo (by rw [kmo]; rfl)) hr25
  have hr26 : q_ir (q_r f mo 32) c3 := Eq.trans (hB.2.2.r hmo (by rw [kmo]; rfl)) hr26
  have hr27 : q_ir (q_r f mo 33) bg := Eq.trans (hB.2.2.r hmo (by rw [kmo]; rfl)) hr27
  have hr28 : q_ir (q_r f mo 34) lp := Eq.trans (hB.2.2.r hmo (by rw [kmo]; rfl)) hr28
  have hr29 : q_ir (q_r f mo 38) rp := Eq.trans (hB.2.2.r hmo (by rw [kmo]; rfl)) hr29
  have hij : tk_ij K L f nds := tk_ij_tr hij (fun i9 => hB.2.2.r hnds (by rw [knds]; rfl))
  obtain ⟨x1, ex1⟩ : ∃ zz, q_is (q_z f sr 3) zz := ⟨_, q_isr _⟩
  obtain ⟨lx1, ux1⟩ : 0 ≤ x1 ∧ x1 ≤ 9999 := q_isb ex1 ⟨(hgr 3 (by decide)).1, ht3⟩
  obtain ⟨x2, ex2⟩ : ∃ zz, q_is (q_z f sr 4) zz := ⟨_, q_isr _⟩
  obtain ⟨lx2, ux2⟩ : 0 ≤ x2 ∧ x2 ≤ 60 := q_isb ex2 ⟨(hgr 4 (by decide)).1, ht4⟩
  refine q_ald_n cx dL_law_1262 rfl (lv_at hl 4 rfl) ?_
  refine q_ald_n cx dL_law_1263 rfl (lv_at hl 5 rfl) ?_
  refine lv_iload cx.1 cx.2.1 dL_law_1264 (lv_at hl 0 rfl) ?_
  refine q_iconst cx dL_law_1266 ?_
  refine q_iadd cx dL_law_1267 ?_
  refine va_sld cx.1 cx.2.1 hXs hbl hbA hB.1.2.2.2 (q_in (by omega) (by omega) (by omega)) dL_law_1268 ?_
  obtain ⟨a3, ra3, ea3⟩ : ∃ z : Int, q_R z ∧ xs (q_i (ii + 1)).toNatClampNeg = q_i z := ⟨_, q_rng _, (q_of _).symm⟩
  rw [ea3]
  refine q_ald_n cx dL_law_1269 rfl (lv_at hl 5 rfl) ?_
  refine lv_iload cx.1 cx.2.1 dL_law_1270 (lv_at hl 0 rfl) ?_
  refine q_iconst cx dL_law_1272 ?_
  refine q_iadd cx dL_law_1273 ?_
  refine va_sld cx.1 cx.2.1 hXs hbl hbA hB.1.2.2.2 (q_in (by omega) (by omega) (by omega)) dL_law_1274 ?_
  obtain ⟨a4, ra4, ea4⟩ : ∃ z : Int, q_R z ∧ xs (q_i (ii + 2)).toNatClampNeg = q_i z := ⟨_, q_rng _, (q_of _).symm⟩
  rw [ea4]
  refine q_ald_n cx dL_law_1275 rfl (lv_at hl 5 rfl) ?_
  refine lv_iload cx.1 cx.2.1 dL_law_1276 (lv_at hl 0 rfl) ?_
  refine q_iconst cx dL_law_1278 ?_
  refine q_iadd cx dL_law_1279 ?_
  refine va_sld cx.1 cx.2.1 hXs hbl hbA hB.1.2.2.2 (q_in (by omega) (by omega) (by omega)) dL_law_1280 ?_
  obtain ⟨a5, ra5, ea5⟩ : ∃ z : Int, q_R z ∧ xs (q_i (ii + 3)).toNatClampNeg = q_i z := ⟨_, q_rng _, (q_of _).symm⟩
  rw [ea5]
  refine q_ifeq (tgt := 1288) cx ⟨by omega, by omega⟩ dL_law_1281 (by decide) (fun c6 => ?_) (fun c6 => ?_)
  · refine q_iconst cx dL_law_1288 ?_
    refine q_ald_n cx dL_law_1289 rfl (lv_at hl 2 rfl) ?_
    refine q_cWS (As := [.ref x, .int (q_i a3), .int (q_i a4), .int (q_i 0), .ref out]) (rest := []) cx hX hB (fun q h => hLA q h) (fun q h1 h2 => absurd h1 (Nat.not_le_of_lt h2)) hN (w_watch l g ad hN hB.2.1 hfl x hx kx a3 (by omega) (by omega) a4 (by omega) (by omega) 0 (by decide) (by decide) out hout kout so hso kso rd hrd krd scr hscr kscr fc hfc kfc hist hhist khist rep hrep krep now hnow know dr hdr kdr sv hsv ksv tr htr ktr hr0 hr1 hr2 hr3 hr4 hr5 hr6 hr7 hr8 hr9) q_cL_231 q_dL_watch ⟨by decide, by show cells + 2 ≤ 601024; omega, by show slots + 12 ≤ 7293034; omega⟩ rfl rfl hl.1 rfl (Nat.le_of_ble_eq_true rfl) dL_law_1290 (fun v9 H locs f7 h9 hF hB => ?_)
    obtain ⟨y8, rfl, ry8, h9⟩ := h9
    refine W.eq (g2 := F0 m 1293 ls [.int (q_i y8)]) rfl ?_
    obtain ⟨ly8, uy8⟩ := h9
    have z10 : q_is (q_z f7 so 1) tn := Eq.trans (hF.z hso (by rw [kso]; rfl)) hn0
    have z11 : q_is (q_z f7 mo 2) tn := Eq.trans (hF.z hmo (by rw [kmo]; rfl)) hn1
    have z12 : q_is (q_z f7 sr 3) x1 := Eq.trans (hF.z hsr (by rw [ksr]; rfl)) ex1
    have z13 : q_is (q_z f7 sr 4) x2 := Eq.trans (hF.z hsr (by rw [ksr]; rfl)) ex2
    have z14 : q_ir (q_r f7 x 0) so := Eq.trans (hF.r hx (by rw [kx]; rfl)) hr0
    have z15 : q_ir (q_r f7 x 1) rd := Eq.trans (hF.r hx (by rw [kx]; rfl)) hr1
    have z16 : q_ir (q_r f7 x 2) scr := Eq.trans (hF.r hx (by rw [kx]; rfl)) hr2
    have z17 : q_ir (q_r f7 x 3) fc := Eq.trans (hF.r hx (by rw [kx]; rfl)) hr3
    have z18 : q_ir (q_r f7 x 4) hist := Eq.trans (hF.r hx (by rw [kx]; rfl)) hr4
    have z19 : q_ir (q_r f7 x 5) rep := Eq.trans (hF.r hx (by rw [kx]; rfl)) hr5
    have z20 : q_ir (q_r f7 x 6) now := Eq.trans (hF.r hx (by rw [kx]; rfl)) hr6
    have z21 : q_ir (q_r f7 x 7) dr := Eq.trans (hF.r hx (by rw [kx]; rfl)) hr7
    have z22 : q_ir (q_r f7 x 8) sv := Eq.trans (hF.r hx (by rw [kx]; rfl)) hr8
    have z23 : q_ir (q_r f7 fc 0) tr := Eq.trans (hF.r hfc (by rw [kfc]; rfl)) hr9
    have z24 : q_ir (q_r f7 so 0) ba := Eq.trans (hF.r hso (by rw [kso]; rfl)) hr10
    have z25 : q_ir (q_r f7 dr 0) nds := Eq.trans (hF.r hdr (by rw [kdr]; rfl)) hr11
    have z26 : q_ir (q_r f7 mo 1) bu := Eq.trans (hF.r hmo (by rw [kmo]; rfl)) hr12
    have z27 : q_ir (q_r f7 mo 13) sr := Eq.trans (hF.r hmo (by rw [kmo]; rfl)) hr13
    have z28 : q_ir (q_r f7 mo 14) sd := Eq.trans (hF.r hmo (by rw [kmo]; rfl)) hr14
    have z29 : q_ir (q_r f7 mo 15) as := Eq.trans (hF.r hmo (by rw [kmo]; rfl)) hr15
    have z30 : q_ir (q_r f7 mo 16) aw := Eq.trans (hF.r hmo (by rw [kmo]; rfl)) hr16
    have z31 : q_ir (q_r f7 mo 17) pa := Eq.trans (hF.r hmo (by rw [kmo]; rfl)) hr17
    have z32 : q_ir (q_r f7 mo 18) nm := Eq.trans (hF.r hmo (by rw [kmo]; rfl)) hr18
    have z33 : q_ir (q_r f7 mo 19) snm := Eq.trans (hF.r hmo (by rw [kmo]; rfl)) hr19
    have z34 : q_ir (q_r f7 mo 20) anm := Eq.trans (hF.r hmo (by rw [kmo]; rfl)) hr20
    have z35 : q_ir (q_r f7 mo 24) hp := Eq.trans (hF.r hmo (by rw [kmo]; rfl)) hr21
    have z36 : q_ir (q_r f7 mo 25) dy := Eq.trans (hF.r hmo (by rw [kmo]; rfl)) hr22
    have z37 : q_ir (q_r f7 mo 29) cs := Eq.trans (hF.r hmo (by rw [kmo]; rfl)) hr23
    have z38 : q_ir (q_r f7 mo 30) c1 := Eq.trans (hF.r hmo (by rw [kmo]; rfl)) hr24
    have z39 : q_ir (q_r f7 mo 31) c2 := Eq.trans (hF.r hmo (by rw [kmo]; rfl)) hr25
    have z40 : q_ir (q_r f7 mo 32) c3 := Eq.trans (hF.r hmo (by rw [kmo]; rfl)) hr26
    have z41 : q_ir (q_r f7 mo 33) bg := Eq.trans (hF.r hmo (by rw [kmo]; rfl)) hr27
    have z42 : q_ir (q_r f7 mo 34) lp := Eq.trans (hF.r hmo (by rw [kmo]; rfl)) hr28
    have z43 : q_ir (q_r f7 mo 38) rp := Eq.trans (hF.r hmo (by rw [kmo]; rfl)) hr29
    have g44 : q_gr f7 sr := q_gr_fr hgr (fun i9 _ => hF.z hsr (by rw [ksr]; rfl))
    have g45 : q_pk f7 mo pa := q_pk_tr hpk (hF.z hmo (by rw [kmo]; rfl)) (fun i9 => hF.z hpa (by rw [kpa]; rfl))
    have g46 : q_sv f7 mo sd := q_sv_tr hsd9 (hF.z hmo (by rw [kmo]; rfl)) (fun i9 => hF.z hsd (by rw [ksd]; rfl))
    have g47 : tk_bb f7 bu ba tn := tk_bb_tr hbb (fun i9 => hF.z hbu (by rw [kbu]; rfl)) (fun i9 => hF.z hba (by rw [kba]; rfl))
    have g48 : tk_ij K L f7 nds := tk_ij_tr hij (fun i9 => hF.r hnds (by rw [knds]; rfl))
    refine lv_istore (lv' := [(6, .int (q_i y8)), (5, .int (q_i ii)), (4, .ref outD), (3, .ref out), (2, .ref mo), (1, .ref x), (0, .ref b)]) cx.1 cx.2.1 dL_law_1293 hl (by decide) rfl (fun ls hl => ?_)
    refine q_ald_n cx dL_law_1295 rfl (lv_at hl 4 rfl) ?_
    refine q_ald_n cx dL_law_1296 rfl (lv_at hl 6 rfl) ?_
    refine lv_iload cx.1 cx.2.1 dL_law_1297 (lv_at hl 1 rfl) ?_
    refine q_iconst cx dL_law_1299 ?_
    refine q_iadd cx dL_law_1300 ?_
    refine va_sld cx.1 cx.2.1 hXs hbl hbA hB.1.2.2.2 (q_in (by omega) (by omega) (by omega)) dL_law_1301 ?_
    rw [ea3]
    refine q_ald_n cx dL_law_1302 rfl (lv_at hl 6 rfl) ?_
    refine lv_iload cx.1 cx.2.1 dL_law_1303 (lv_at hl 1 rfl) ?_
    refine q_iconst cx dL_law_1305 ?_
    refine q_iadd cx dL_law_1306 ?_
    refine va_sld cx.1 cx.2.1 hXs hbl hbA hB.1.2.2.2 (q_in (by omega) (by omega) (by omega)) dL_law_1307 ?_
    rw [ea4]
    refine q_ald_n cx dL_law_1308 rfl (lv_at hl 6 rfl) ?_
    refine lv_iload cx.1 cx.2.1 dL_law_1309 (lv_at hl 1 rfl) ?_
    refine q_iconst cx dL_law_1311 ?_
    refine q_iadd cx dL_law_1312 ?_
    refine va_sld cx.1 cx.2.1 hXs hbl hbA hB.1.2.2.2 (q_in (by omega) (by omega) (by omega)) dL_law_1313 ?_
    rw [ea5]
    refine q_ifeq (tgt := 1321) cx ⟨by omega, by omega⟩ dL_law_1314 (by decide) (fun c49 => ?_) (fun c49 => ?_)
    · refine q_iconst cx dL_law_1321 ?_
      refine q_cVi (As := [.int (q_i a3), .int (q_i a4), .int (q_i 0)]) (rest := []) cx hB (fun q h => hLA q h) hN hmo kmo (by decide) rfl (r_watch l g hN hB.2.1 mo hmo kmo a3 (by omega) (by omega) a4 (by omega) (by omega) 0 (by decide) (by decide) sr hsr ksr as has kas pa hpa kpa x1 (by omega) (by omega) x2 (by omega) (by omega) z12 z13 z27 z29 z31 g44 g45) q_cL_233 q_dX12_watch ⟨by decide, by show cells + 2 ≤ 601024; omega, by show slots + 12 ≤ 7293034; omega⟩ rfl rfl hl.1 rfl (Nat.le_of_ble_eq_true rfl) dL_law_1322 (fun y51 H locs f50 ry51 h52 hF hB => ?_)
      obtain ⟨ly51, uy51, lz53, uz53, lz54, uz54, g55, g56⟩ := h52
      have z57 : q_is (q_z f50 so 1) tn := Eq.trans (hF.z hso (by rw [kso]; rfl)) z10
      have z58 : q_is (q_z f50 mo 2) tn := Eq.trans (hF.z hmo (by rw [kmo]; rfl)) z11
      have z59 : q_is (q_z f50 sr 3) x1 := Eq.trans (hF.z hsr (by rw [ksr]; rfl)) z12
      have z60 : q_is (q_z f50 sr 4) x2 := Eq.trans (hF.z hsr (by rw [ksr]; rfl)) z13
      have z61 : q_ir (q_r f50 x 0) so := Eq.trans (hF.r hx (by rw [kx]; rfl)) z14
      have z62 : q_ir (q_r f50 x 1) rd := Eq.trans (hF.r hx (by rw [kx]; rfl)) z15
      have z63 : q_ir (q_r f50 x 2) scr := Eq.trans (hF.r hx (by rw [kx]; rfl)) z16
      have z64 : q_ir (q_r f50 x 3) fc := Eq.trans (hF.r hx (by rw [kx]; rfl)) z17
      have z65 : q_ir (q_r f50 x 4) hist := Eq.trans (hF.r hx (by rw [kx]; rfl)) z18
      have z66 : q_ir (q_r f50 x 5) rep := Eq.trans (hF.r hx (by rw [kx]; rfl)) z19
      have z67 : q_ir (q_r f50 x 6) now := Eq.trans (hF.r hx (by rw [kx]; rfl)) z20
      have z68 : q_ir (q_r f50 x 7) dr := Eq.trans (hF.r hx (by rw [kx]; rfl)) z21
      have z69 : q_ir (q_r f50 x 8) sv := Eq.trans (hF.r hx (by rw [kx]; rfl)) z22
      have z70 : q_ir (q_r f50 fc 0) tr := Eq.trans (hF.r hfc (by rw [kfc]; rfl)) z23
      have z71 : q_ir (q_r f50 so 0) ba := Eq.trans (hF.r hso (by rw [kso]; rfl)) z24
      have z72 : q_ir (q_r f50 dr 0) nds := Eq.trans (hF.r hdr (by rw [kdr]; rfl)) z25
      have z73 : q_ir (q_r f50 mo 1) bu := Eq.trans (hF.r hmo (by rw [kmo]; rfl)) z26
      have z74 : q_ir (q_r f50 mo 13) sr := Eq.trans (hF.r hmo (by rw [kmo]; rfl)) z27
      have z75 : q_ir (q_r f50 mo 14) sd := Eq.trans (hF.r hmo (by rw [kmo]; rfl)) z28
      have z76 : q_ir (q_r f50 mo 15) as := Eq.trans (hF.r hmo (by rw [kmo]; rfl)) z29
      have z77 : q_ir (q_r f50 mo 16) aw := Eq.trans (hF.r hmo (by rw [kmo]; rfl)) z30
      have z78 : q_ir (q_r f50 mo 17) pa := Eq.trans (hF.r hmo (by rw [kmo]; rfl)) z31
      have z79 : q_ir (q_r f50 mo 18) nm := Eq.trans (hF.r hmo (by rw [kmo]; rfl)) z32
      have z80 : q_ir (q_r f50 mo 19) snm := Eq.trans (hF.r hmo (by rw [kmo]; rfl)) z33
      have z81 : q_ir (q_r f50 mo 20) anm := Eq.trans (hF.r hmo (by rw [kmo]; rfl)) z34
      have z82 : q_ir (q_r f50 mo 24) hp := Eq.trans (hF.r hmo (by rw [kmo]; rfl)) z35
      have z83 : q_ir (q_r f50 mo 25) dy := Eq.trans (hF.r hmo (by rw [kmo]; rfl)) z36
      have z84 : q_ir (q_r f50 mo 29) cs := Eq.trans (hF.r hmo (by rw [kmo]; rfl)) z37
      have z85 : q_ir (q_r f50 mo 30) c1 := Eq.trans (hF.r hmo (by rw [kmo]; rfl)) z38
      have z86 : q_ir (q_r f50 mo 31) c2 := Eq.trans (hF.r hmo (by rw [kmo]; rfl)) z39
      have z87 : q_ir (q_r f50 mo 32) c3 := Eq.trans (hF.r hmo (by rw [kmo]; rfl)) z40
      have z88 : q_ir (q_r f50 mo 33) bg := Eq.trans (hF.r hmo (by rw [kmo]; rfl)) z41
      have z89 : q_ir (q_r f50 mo 34) lp := Eq.trans (hF.r hmo (by rw [kmo]; rfl)) z42
      have z90 : q_ir (q_r f50 mo 38) rp := Eq.trans (hF.r hmo (by rw [kmo]; rfl)) z43
      have g91 : q_sv f50 mo sd := q_sv_tr g46 (hF.z hmo (by rw [kmo]; rfl)) (fun i9 => hF.z hsd (by rw [ksd]; rfl))
      have g92 : tk_bb f50 bu ba tn := tk_bb_tr g47 (fun i9 => hF.z hbu (by rw [kbu]; rfl)) (fun i9 => hF.z hba (by rw [kba]; rfl))
      have g93 : tk_ij K L f50 nds := tk_ij_tr g48 (fun i9 => hF.r hnds (by rw [knds]; rfl))
      obtain ⟨x94, ex94⟩ : ∃ zz, q_is (q_z f50 sr 3) zz := ⟨_, q_isr _⟩
      obtain ⟨lx94, ux94⟩ := q_isb ex94 ⟨lz53, uz53⟩
      obtain ⟨x95, ex95⟩ : ∃ zz, q_is (q_z f50 sr 4) zz := ⟨_, q_isr _⟩
      obtain ⟨lx95, ux95⟩ := q_isb ex95 ⟨lz54, uz54⟩
      refine lv_istore (lv' := [(7, .int (q_i y51)), (6, .int (q_i y8)), (5, .int (q_i ii)), (4, .ref outD), (3, .ref out), (2, .ref mo), (1, .ref x), (0, .ref b)]) cx.1 cx.2.1 dL_law_1325 hl (by decide) rfl (fun ls hl => ?_)
      refine lv_goto (tgt := 1521) cx.1 cx.2.1 dL_law_1327 (by decide) ?_
      refine W.widen (k := cells + 6) (n := slots + 36) (by omega) (by omega) ?_
      exact kk f50 H locs ls tn hB ⟨⟨z57, (Eq.trans z58 (by omega)), by omega, by omega⟩, g55, g56, g91, q_isu ex94 (by omega), q_isu ex95 (by omega), tk_bb_le g92 (by omega)⟩ (lv_sub hl [2, 3, 4, 5, 6, 7] rfl)
    · exact absurd c49 (by omega)
  · refine q_iconst cx dL_law_1284 ?_
    refine lv_goto (tgt := 1289) cx.1 cx.2.1 dL_law_1285 (by decide) ?_
    refine q_ald_n cx dL_law_1289 rfl (lv_at hl 2 rfl) ?_
    refine q_cWS (As := [.ref x, .int (q_i a3), .int (q_i a4), .int (q_i 1), .ref out]) (rest := []) cx hX hB (fun q h => hLA q h) (fun q h1 h2 => absurd h1 (Nat.not_le_of_lt h2)) hN (w_watch l g ad hN hB.2.1 hfl x hx kx a3 (by omega) (by omega) a4 (by omega) (by omega) 1 (by decide) (by decide) out hout kout so hso kso rd hrd krd scr hscr kscr fc hfc kfc hist hhist khist rep hrep krep now hnow know dr hdr kdr sv hsv ksv tr htr ktr hr0 hr1 hr2 hr3 hr4 hr5 hr6 hr7 hr8 hr9) q_cL_231 q_dL_watch ⟨by decide, by show cells + 2 ≤ 601024; omega, by show slots + 12 ≤ 7293034; omega⟩ rfl rfl hl.1 rfl (Nat.le_of_ble_eq_true rfl) dL_law_1290 (fun v9 H locs f96 h98 hF hB => ?_)
    obtain ⟨y97, rfl, ry97, h98⟩ := h98
    refine W.eq (g2 := F0 m 1293 ls [.int (q_i y97)]) rfl ?_
    obtain ⟨ly97, uy97⟩ := h98
    have z99 : q_is (q_z f96 so 1) tn := Eq.trans (hF.z hso (by rw [kso]; rfl)) hn0
    have z100 : q_is (q_z f96 mo 2) tn := Eq.trans (hF.z hmo (by rw [kmo]; rfl)) hn1
    have z101 : q_is (q_z f96 sr 3) x1 := Eq.trans (hF.z hsr (by rw [ksr]; rfl)) ex1
    have z102 : q_is (q_z f96 sr 4) x2 := Eq.trans (hF.z hsr (by rw [ksr]; rfl)) ex2
    have z103 : q_ir (q_r f96 x 0) so := Eq.trans (hF.r hx (by rw [kx]; rfl)) hr0
    have z104 : q_ir (q_r f96 x 1) rd := Eq.trans (hF.r hx (by rw [kx]; rfl)) hr1
    have z105 : q_ir (q_r f96 x 2) scr := Eq.trans (hF.r hx (by rw [kx]; rfl)) hr2
    have z106 : q_ir (q_r f96 x 3) fc := Eq.trans (hF.r hx (by rw [kx]; rfl)) hr3
    have z107 : q_ir (q_r f96 x 4) hist := Eq.trans (hF.r hx (by rw [kx]; rfl)) hr4
    have z108 : q_ir (q_r f96 x 5) rep := Eq.trans (hF.r hx (by rw [kx]; rfl)) hr5
    have z109 : q_ir (q_r f96 x 6) now := Eq.trans (hF.r hx (by rw [kx]; rfl)) hr6
    have z110 : q_ir (q_r f96 x 7) dr := Eq.trans (hF.r hx (by rw [kx]; rfl)) hr7
    have z111 : q_ir (q_r f96 x 8) sv := Eq.trans (hF.r hx (by rw [kx]; rfl)) hr8
    have z112 : q_ir (q_r f96 fc 0) tr := Eq.trans (hF.r hfc (by rw [kfc]; rfl)) hr9
    have z113 : q_ir (q_r f96 so 0) ba := Eq.trans (hF.r hso (by rw [kso]; rfl)) hr10
    have z114 : q_ir (q_r f96 dr 0) nds := Eq.trans (hF.r hdr (by rw [kdr]; rfl)) hr11
    have z115 : q_ir (q_r f96 mo 1) bu := Eq.trans (hF.r hmo (by rw [kmo]; rfl)) hr12
    have z116 : q_ir (q_r f96 mo 13) sr := Eq.trans (hF.r hmo (by rw [kmo]; rfl)) hr13
    have z117 : q_ir (q_r f96 mo 14) sd := Eq.trans (hF.r hmo (by rw [kmo]; rfl)) hr14
    have z118 : q_ir (q_r f96 mo 15) as := Eq.trans (hF.r hmo (by rw [kmo]; rfl)) hr15
    have z119 : q_ir (q_r f96 mo 16) aw := Eq.trans (hF.r hmo (by rw [kmo]; rfl)) hr16
    have z120 : q_ir (q_r f96 mo 17) pa := Eq.trans (hF.r hmo (by rw [kmo]; rfl)) hr17
    have z121 : q_ir (q_r f96 mo 18) nm := Eq.trans (hF.r hmo (by rw [kmo]; rfl)) hr18
    have z122 : q_ir (q_r f96 mo 19) snm := Eq.trans (hF.r hmo (by rw [kmo]; rfl)) hr19
    have z123 : q_ir (q_r f96 mo 20) anm := Eq.trans (hF.r hmo (by rw [kmo]; rfl)) hr20
    have z124 : q_ir (q_r f96 mo 24) hp := Eq.trans (hF.r hmo (by rw [kmo]; rfl)) hr21
    have z125 : q_ir (q_r f96 mo 25) dy := Eq.trans (hF.r hmo (by rw [kmo]; rfl)) hr22
    have z126 : q_ir (q_r f96 mo 29) cs := Eq.trans (hF.r hmo (by rw [kmo]; rfl)) hr23
    have z127 : q_ir (q_r f96 mo 30) c1 := Eq.trans (hF.r hmo (by rw [kmo]; rfl)) hr24
    have z128 : q_ir (q_r f96 mo 31) c2 := Eq.trans (hF.r hmo (by rw [kmo]; rfl)) hr25
    have z129 : q_ir (q_r f96 mo 32) c3 := Eq.trans (hF.r hmo (by rw [kmo]; rfl)) hr26
    have z130 : q_ir (q_r f96 mo 33) bg := Eq.trans (hF.r hmo (by rw [kmo]; rfl)) hr27
    have z131 : q_ir (q_r f96 mo 34) lp := Eq.trans (hF.r hmo (by rw [kmo]; rfl)) hr28
    have z132 : q_ir (q_r f96 mo 38) rp := Eq.trans (hF.r hmo (by rw [kmo]; rfl)) hr29
    have g133 : q_gr f96 sr := q_gr_fr hgr (fun i9 _ => hF.z hsr (by rw [ksr]; rfl))
    have g134 : q_pk f96 mo pa := q_pk_tr hpk (hF.z hmo (by rw [kmo]; rfl)) (fun i9 => hF.z hpa (by rw [kpa]; rfl))
    have g135 : q_sv f96 mo sd := q_sv_tr hsd9 (hF.z hmo (by rw [kmo]; rfl)) (fun i9 => hF.z hsd (by rw [ksd]; rfl))
    have g136 : tk_bb f96 bu ba tn := tk_bb_tr hbb (fun i9 => hF.z hbu (by rw [kbu]; rfl)) (fun i9 => hF.z hba (by rw [kba]; rfl))
    have g137 : tk_ij K L f96 nds := tk_ij_tr hij (fun i9 => hF.r hnds (by rw [knds]; rfl))
    refine lv_istore (lv' := [(6, .int (q_i y97)), (5, .int (q_i ii)), (4, .ref outD), (3, .ref out), (2, .ref mo), (1, .ref x), (0, .ref b)]) cx.1 cx.2.1 dL_law_1293 hl (by decide) rfl (fun ls hl => ?_)
    refine q_ald_n cx dL_law_1295 rfl (lv_at hl 4 rfl) ?_
    refine q_ald_n cx dL_law_1296 rfl (lv_at hl 6 rfl) ?_
    refine lv_iload cx.1 cx.2.1 dL_law_1297 (lv_at hl 1 rfl) ?_
    refine q_iconst cx dL_law_1299 ?_
    refine q_iadd cx dL_law_1300 ?_
    refine va_sld cx.1 cx.2.1 hXs hbl hbA hB.1.2.2.2 (q_in (by omega) (by omega) (by omega)) dL_law_1301 ?_
    rw [ea3]
    refine q_ald_n cx dL_law_1302 rfl (lv_at hl 6 rfl) ?_
    refine lv_iload cx.1 cx.2.1 dL_law_1303 (lv_at hl 1 rfl) ?_
    refine q_iconst cx dL_law_1305 ?_
    refine q_iadd cx dL_law_1306 ?_
    refine va_sld cx.1 cx.2.1 hXs hbl hbA hB.1.2.2.2 (q_in (by omega) (by omega) (by omega)) dL_law_1307 ?_
    rw [ea4]
    refine q_ald_n cx dL_law_1308 rfl (lv_at hl 6 rfl) ?_
    refine lv_iload cx.1 cx.2.1 dL_law_1309 (lv_at hl 1 rfl) ?_
    refine q_iconst cx dL_law_1311 ?_
    refine q_iadd cx dL_law_1312 ?_
    refine va_sld cx.1 cx.2.1 hXs hbl hbA hB.1.2.2.2 (q_in (by omega) (by omega) (by omega)) dL_law_1313 ?_
    rw [ea5]
    refine q_ifeq (tgt := 1321) cx ⟨by omega, by omega⟩ dL_law_1314 (by decide) (fun c138 => ?_) (fun c138 => ?_)
    · refine q_iconst cx dL_law_1321 ?_
      refine q_cVi (As := [.int (q_i a3), .int (q_i a4), .int (q_i 0)]) (rest := []) cx hB (fun q h => hLA q h) hN hmo kmo (by decide) rfl (r_watch l g hN hB.2.1 mo hmo kmo a3 (by omega) (by omega) a4 (by omega) (by omega) 0 (by decide) (by decide) sr hsr ksr as has kas pa hpa kpa x1 (by omega) (by omega) x2 (by omega) (by omega) z101 z102 z116 z118 z120 g133 g134) q_cL_233 q_dX12_watch ⟨by decide, by show cells + 2 ≤ 601024; omega, by show slots + 12 ≤ 7293034; omega⟩ rfl rfl hl.1 rfl (Nat.le_of_ble_eq_true rfl) dL_law_1322 (fun y140 H locs f139 ry140 h141 hF hB => ?_)
      obtain ⟨ly140, uy140, lz142, uz142, lz143, uz143, g144, g145⟩ := h141
      have z146 : q_is (q_z f139 so 1) tn := Eq.trans (hF.z hso (by rw [kso]; rfl)) z99
      have z147 : q_is (q_z f139 mo 2) tn := Eq.trans (hF.z hmo (by rw [kmo]; rfl)) z100
      have z148 : q_is (q_z f139 sr 3) x1 := Eq.trans (hF.z hsr (by rw [ksr]; rfl)) z101
      have z149 : q_is (q_z f139 sr 4) x2 := Eq.trans (hF.z hsr (by rw [ksr]; rfl)) z102
      have z150 : q_ir (q_r f139 x 0) so := Eq.trans (hF.r hx (by rw [kx]; rfl)) z103
      have z151 : q_ir (q_r f139 x 1) rd := Eq.trans (hF.r hx (by rw [kx]; rfl)) z104
      have z152 : q_ir (q_r f139 x 2) scr := Eq.trans (hF.r hx (by rw [kx]; rfl)) z105
      have z153 : q_ir (q_r f139 x 3) fc := Eq.trans (hF.r hx (by rw [kx]; rfl)) z106
      have z154 : q_ir (q_r f139 x 4) hist := Eq.trans (hF.r hx (by rw [kx]; rfl)) z107
      have z155 : q_ir (q_r f139 x 5) rep := Eq.trans (hF.r hx (by rw [kx]; rfl)) z108
      have z156 : q_ir (q_r f139 x 6) now := Eq.trans (hF.r hx (by rw [kx]; rfl)) z109
      have z157 : q_ir (q_r f139 x 7) dr := Eq.trans (hF.r hx (by rw [kx]; rfl)) z110
      have z158 : q_ir (q_r f139 x 8) sv := Eq.trans (hF.r hx (by rw [kx]; rfl)) z111
      have z159 : q_ir (q_r f139 fc 0) tr := Eq.trans (hF.r hfc (by rw [kfc]; rfl)) z112
      have z160 : q_ir (q_r f139 so 0) ba := Eq.trans (hF.r hso (by rw [kso]; rfl)) z113
      have z161 : q_ir (q_r f139 dr 0) nds := Eq.trans (hF.r hdr (by rw [kdr]; rfl)) z114
      have z162 : q_ir (q_r f139 mo 1) bu := Eq.trans (hF.r hmo (by rw [kmo]; rfl)) z115
      have z163 : q_ir (q_r f139 mo 13) sr := Eq.trans (hF.r hmo (by rw [kmo]; rfl)) z116
      have z164 : q_ir (q_r f139 mo 14) sd := Eq.trans (hF.r hmo (by rw [kmo]; rfl)) z117
      have z165 : q_ir (q_r f139 mo 15) as := Eq.trans (hF.r hmo (by rw [kmo]; rfl)) z118
      have z166 : q_ir (q_r f139 mo 16) aw := Eq.trans (hF.r hmo (by rw [kmo]; rfl)) z119
      have z167 : q_ir (q_r f139 mo 17) pa := Eq.trans (hF.r hmo (by rw [kmo]; rfl)) z120
      have z168 : q_ir (q_r f139 mo 18) nm := Eq.trans (hF.r hmo (by rw [kmo]; rfl)) z121
      have z169 : q_ir (q_r f139 mo 19) snm := Eq.trans (hF.r hmo (by rw [kmo]; rfl)) z122
      have z170 : q_ir (q_r f139 mo 20) anm := Eq.trans (hF.r hmo (by rw [kmo]; rfl)) z123
      have z171 : q_ir (q_r f139 mo 24) hp := Eq.trans (hF.r hmo (by rw [kmo]; rfl)) z124
      have z172 : q_ir (q_r f139 mo 25) dy := Eq.trans (hF.r hmo (by rw [kmo]; rfl)) z125
      have z173 : q_ir (q_r f139 mo 29) cs := Eq.trans (hF.r hmo (by rw [kmo]; rfl)) z126
      have z174 : q_ir (q_r f139 mo 30) c1 := Eq.trans (hF.r hmo (by rw [kmo]; rfl)) z127
      have z175 : q_ir (q_r f139 mo 31) c2 := Eq.trans (hF.r hmo (by rw [kmo]; rfl)) z128
      have z176 : q_ir (q_r f139 mo 32) c3 := Eq.trans (hF.r hmo (by rw [kmo]; rfl)) z129
      have z177 : q_ir (q_r f139 mo 33) bg := Eq.trans (hF.r hmo (by rw [kmo]; rfl)) z130
      have z178 : q_ir (q_r f139 mo 34) lp := Eq.trans (hF.r hmo (by rw [kmo]; rfl)) z131
      have z179 : q_ir (q_r f139 mo 38) rp := Eq.trans (hF.r hmo (by rw [kmo]; rfl)) z132
      have g180 : q_sv f139 mo sd := q_sv_tr g135 (hF.z hmo (by rw [kmo]; rfl)) (fun i9 => hF.z hsd (by rw [ksd]; rfl))
      have g181 : tk_bb f139 bu ba tn := tk_bb_tr g136 (fun i9 => hF.z hbu (by rw [kbu]; rfl)) (fun i9 => hF.z hba (by rw [kba]; rfl))
      have g182 : tk_ij K L f139 nds := tk_ij_tr g137 (fun i9 => hF.r hnds (by rw [knds]; rfl))
      obtain ⟨x183, ex183⟩ : ∃ zz, q_is (q_z f139 sr 3) zz := ⟨_, q_isr _⟩
      obtain ⟨lx183, ux183⟩ := q_isb ex183 ⟨lz142, uz142⟩
      obtain ⟨x184, ex184⟩ : ∃ zz, q_is (q_z f139 sr 4) zz := ⟨_, q_isr _⟩
      obtain ⟨lx184, ux184⟩ := q_isb ex184 ⟨lz143, uz143⟩
      refine lv_istore (lv' := [(7, .int (q_i y140)), (6, .int (q_i y97)), (5, .int (q_i ii)), (4, .ref outD), (3, .ref out), (2, .ref mo), (1, .ref x), (0, .ref b)]) cx.1 cx.2.1 dL_law_1325 hl (by decide) rfl (fun ls hl => ?_)
      refine lv_goto (tgt := 1521) cx.1 cx.2.1 dL_law_1327 (by decide) ?_
      refine W.widen (k := cells + 6) (n := slots + 36) (by omega) (by omega) ?_
      exact kk f139 H locs ls tn hB ⟨⟨z146, (Eq.trans z147 (by omega)), by omega, by omega⟩, g144, g145, g180, q_isu ex183 (by omega), q_isu ex184 (by omega), tk_bb_le g181 (by omega)⟩ (lv_sub hl [2, 3, 4, 5, 6, 7] rfl)
    · refine q_iconst cx dL_law_1317 ?_
      refine lv_goto (tgt := 1322) cx.1 cx.2.1 dL_law_1318 (by decide) ?_
      refine q_cVi (As := [.int (q_i a3), .int (q_i a4), .int (q_i 1)]) (rest := []) cx hB (fun q h => hLA q h) hN hmo kmo (by decide) rfl (r_watch l g hN hB.2.1 mo hmo kmo a3 (by omega) (by omega) a4 (by omega) (by omega) 1 (by decide) (by decide) sr hsr ksr as has kas pa hpa kpa x1 (by omega) (by omega) x2 (by omega) (by omega) z101 z102 z116 z118 z120 g133 g134) q_cL_233 q_dX12_watch ⟨by decide, by show cells + 2 ≤ 601024; omega, by show slots + 12 ≤ 7293034; omega⟩ rfl rfl hl.1 rfl (Nat.le_of_ble_eq_true rfl) dL_law_1322 (fun y186 H locs f185 ry186 h187 hF hB => ?_)
      obtain ⟨ly186, uy186, lz188, uz188, lz189, uz189, g190, g191⟩ := h187
      have z192 : q_is (q_z f185 so 1) tn := Eq.trans (hF.z hso (by rw [kso]; rfl)) z99
      have z193 : q_is (q_z f185 mo 2) tn := Eq.trans (hF.z hmo (by rw [kmo]; rfl)) z100
      have z194 : q_is (q_z f185 sr 3) x1 := Eq.trans (hF.z hsr (by rw [ksr]; rfl)) z101
      have z195 : q_is (q_z f185 sr 4) x2 := Eq.trans (hF.z hsr (by rw [ksr]; rfl)) z102
      have z196 : q_ir (q_r f185 x 0) so := Eq.trans (hF.r hx (by rw [kx]; rfl)) z103
      have z197 : q_ir (q_r f185 x 1) rd := Eq.trans (hF.r hx (by rw [kx]; rfl)) z104
      have z198 : q_ir (q_r f185 x 2) scr := Eq.trans (hF.r hx (by rw [kx]; rfl)) z105
      have z199 : q_ir (q_r f185 x 3) fc := Eq.trans (hF.r hx (by rw [kx]; rfl)) z106
      have z200 : q_ir (q_r f185 x 4) hist := Eq.trans (hF.r hx (by rw [kx]; rfl)) z107
      have z201 : q_ir (q_r f185 x 5) rep := Eq.trans (hF.r hx (by rw [kx]; rfl)) z108
      have z202 : q_ir (q_r f185 x 6) now := Eq.trans (hF.r hx (by rw [kx]; rfl)) z109
      have z203 : q_ir (q_r f185 x 7) dr := Eq.trans (hF.r hx (by rw [kx]; rfl)) z110
      have z204 : q_ir (q_r f185 x 8) sv := Eq.trans (hF.r hx (by rw [kx]; rfl)) z111
      have z205 : q_ir (q_r f185 fc 0) tr := Eq.trans (hF.r hfc (by rw [kfc]; rfl)) z112
      have z206 : q_ir (q_r f185 so 0) ba := Eq.trans (hF.r hso (by rw [kso]; rfl)) z113
      have z207 : q_ir (q_r f185 dr 0) nds := Eq.trans (hF.r hdr (by rw [kdr]; rfl)) z114
      have z208 : q_ir (q_r f185 mo 1) bu := Eq.trans (hF.r hmo (by rw [kmo]; rfl)) z115
      have z209 : q_ir (q_r f185 mo 13) sr := Eq.trans (hF.r hmo (by rw [kmo]; rfl)) z116
      have z210 : q_ir (q_r f185 mo 14) sd := Eq.trans (hF.r hmo (by rw [kmo]; rfl)) z117
      have z211 : q_ir (q_r f185 mo 15) as := Eq.trans (hF.r hmo (by rw [kmo]; rfl)) z118
      have z212 : q_ir (q_r f185 mo 16) aw := Eq.trans (hF.r hmo (by rw [kmo]; rfl)) z119
      have z213 : q_ir (q_r f185 mo 17) pa := Eq.trans (hF.r hmo (by rw [kmo]; rfl)) z120
      have z214 : q_ir (q_r f185 mo 18) nm := Eq.trans (hF.r hmo (by rw [kmo]; rfl)) z121
      have z215 : q_ir (q_r f185 mo 19) snm := Eq.trans (hF.r hmo (by rw [kmo]; rfl)) z122
      have z216 : q_ir (q_r f185 mo 20) anm := Eq.trans (hF.r hmo (by rw [kmo]; rfl)) z123
      have z217 : q_ir (q_r f185 mo 24) hp := Eq.trans (hF.r hmo (by rw [kmo]; rfl)) z124
      have z218 : q_ir (q_r f185 mo 25) dy := Eq.trans (hF.r hmo (by rw [kmo]; rfl)) z125
      have z219 : q_ir (q_r f185 mo 29) cs := Eq.trans (hF.r hmo (by rw [kmo]; rfl)) z126
      have z220 : q_ir (q_r f185 mo 30) c1 := Eq.trans (hF.r hmo (by rw [kmo]; rfl)) z127
      have z221 : q_ir (q_r f185 mo 31) c2 := Eq.trans (hF.r hmo (by rw [kmo]; rfl)) z128
      have z222 : q_ir (q_r f185 mo 32) c3 := Eq.trans (hF.r hmo (by rw [kmo]; rfl)) z129
      have z223 : q_ir (q_r f185 mo 33) bg := Eq.trans (hF.r hmo (by rw [kmo]; rfl)) z130
      have z224 : q_ir (q_r f185 mo 34) lp := Eq.trans (hF.r hmo (by rw [kmo]; rfl)) z131
      have z225 : q_ir (q_r f185 mo 38) rp := Eq.trans (hF.r hmo (by rw [kmo]; rfl)) z132
      have g226 : q_sv f185 mo sd := q_sv_tr g135 (hF.z hmo (by rw [kmo]; rfl)) (fun i9 => hF.z hsd (by rw [ksd]; rfl))
      have g227 : tk_bb f185 bu ba tn := tk_bb_tr g136 (fun i9 => hF.z hbu (by rw [kbu]; rfl)) (fun i9 => hF.z hba (by rw [kba]; rfl))
      have g228 : tk_ij K L f185 nds := tk_ij_tr g137 (fun i9 => hF.r hnds (by rw [knds]; rfl))
      obtain ⟨x229, ex229⟩ : ∃ zz, q_is (q_z f185 sr 3) zz := ⟨_, q_isr _⟩
      obtain ⟨lx229, ux229⟩ := q_isb ex229 ⟨lz188, uz188⟩
      obtain ⟨x230, ex230⟩ : ∃ zz, q_is (q_z f185 sr 4) zz := ⟨_, q_isr _⟩
      obtain ⟨lx230, ux230⟩ := q_isb ex230 ⟨lz189, uz189⟩
      refine lv_istore (lv' := [(7, .int (q_i y186)), (6, .int (q_i y97)), (5, .int (q_i ii)), (4, .ref outD), (3, .ref out), (2, .ref mo), (1, .ref x), (0, .ref b)]) cx.1 cx.2.1 dL_law_1325 hl (by decide) rfl (fun ls hl => ?_)
      refine lv_goto (tgt := 1521) cx.1 cx.2.1 dL_law_1327 (by decide) ?_
      refine W.widen (k := cells + 6) (n := slots + 36) (by omega) (by omega) ?_
      exact kk f185 H locs ls tn hB ⟨⟨z192, (Eq.trans z193 (by omega)), by omega, by omega⟩, g190, g191, g226, q_isu ex229 (by omega), q_isu ex230 (by omega), tk_bb_le g227 (by omega)⟩ (lv_sub hl [2, 3, 4, 5, 6, 7] rfl)
set_option maxHeartbeats 4000000 in
set_option maxRecDepth 100000 in
theorem law_c1330 {p : Program} {l : Launch} {e : Env} {s : State} {m : MethodId} {below : List Frame} {meth : Method} {c : Code} {b N9 : Nat} {xs : Nat → Int32} (hfl : l.stackTraces = false) (hN9 : N9 ≤ 3072) (C0 : lw_At p s m meth c b N9 xs) (cx : CallFix p m c cL_law 10 s #[Value.ref b] q_al RL) {g : q_G} {ad : Nat → Nat} {K : Nat → Nat} {L : List Nat} (hN : L.Nodup) (hLA : ∀ q, q ∈ L → s.heap.size ≤ q) (hX : q_X ad (fun q => q ∈ L) s) {f0 : Nat → va_E} {x : Nat} (hx : x ∈ L) (kx : K x = 11) {so : Nat} (hso : so ∈ L) (kso : K so = 8) {rd : Nat} (hrd : rd ∈ L) (krd : K rd = 9) {scr : Nat} (hscr : scr ∈ L) (kscr : K scr = 7) {fc : Nat} (hfc : fc ∈ L) (kfc : K fc = 1) {hist : Nat} (hhist : hist ∈ L) (khist : K hist = 2) {rep : Nat} (hrep : rep ∈ L) (krep : K rep = 6) {now : Nat} (hnow : now ∈ L) (know : K now = 10) {dr : Nat} (hdr : dr ∈ L) (kdr : K dr = 13) {sv : Nat} (hsv : sv ∈ L) (ksv : K sv = 14) {tr : Nat} (htr : tr ∈ L) (ktr : K tr = 15) {ba : Nat} (hba : ba ∈ L) (kba : K ba = 142) {nds : Nat} (hnds : nds ∈ L) (knds : K nds = 111) {mo : Nat} (hmo : mo ∈ L) (kmo : K mo = 12) {bu : Nat} (hbu : bu ∈ L) (kbu : K bu = 150) {sr : Nat} (hsr : sr ∈ L) (ksr : K sr = 151) {sd : Nat} (hsd : sd ∈ L) (ksd : K sd = 152) {as : Nat} (has : as ∈ L) (kas : K as = 153) {aw : Nat} (haw : aw ∈ L) (kaw : K aw = 154) {pa : Nat} (hpa : pa ∈ L) (kpa : K pa = 155) {nm : Nat} (hnm : nm ∈ L) (knm : K nm = 156) {snm : Nat} (hsnm : snm ∈ L) (ksnm : K snm = 157) {anm : Nat} (hanm : anm ∈ L) (kanm : K anm = 158) {hp : Nat} (hhp : hp ∈ L) (khp : K hp = 159) {dy : Nat} (hdy : dy ∈ L) (kdy : K dy = 160) {cs : Nat} (hcs : cs ∈ L) (kcs : K cs = 161) {c1 : Nat} (hc1 : c1 ∈ L) (kc1 : K c1 = 162) {c2 : Nat} (hc2 : c2 ∈ L) (kc2 : K c2 = 163) {c3 : Nat} (hc3 : c3 ∈ L) (kc3 : K c3 = 164) {bg : Nat} (hbg : bg ∈ L) (kbg : K bg = 165) {lp : Nat} (hlp : lp ∈ L) (klp : K lp = 166) {rp : Nat} (hrp : rp ∈ L) (krp : K rp = 167) {out : Nat} (hout : out ∈ L) (kout : K out = 168) {outD : Nat} (houtD : outD ∈ L) (koutD : K outD = 169) (hr0 : q_ir (q_r f0 x 0) so) (hr1 : q_ir (q_r f0 x 1) rd) (hr2 : q_ir (q_r f0 x 2) scr) (hr3 : q_ir (q_r f0 x 3) fc) (hr4 : q_ir (q_r f0 x 4) hist) (hr5 : q_ir (q_r f0 x 5) rep) (hr6 : q_ir (q_r f0 x 6) now) (hr7 : q_ir (q_r f0 x 7) dr) (hr8 : q_ir (q_r f0 x 8) sv) (hr9 : q_ir (q_r f0 fc 0) tr) (hr10 : q_ir (q_r f0 so 0) ba) (hr11 : q_ir (q_r f0 dr 0) nds) (hr12 : q_ir (q_r f0 mo 1) bu) (hr13 : q_ir (q_r f0 mo 13) sr) (hr14 : q_ir (q_r f0 mo 14) sd) (hr15 : q_ir (q_r f0 mo 15) as) (hr16 : q_ir (q_r f0 mo 16) aw) (hr17 : q_ir (q_r f0 mo 17) pa) (hr18 : q_ir (q_r f0 mo 18) nm) (hr19 : q_ir (q_r f0 mo 19) snm) (hr20 : q_ir (q_r f0 mo 20) anm) (hr21 : q_ir (q_r f0 mo 24) hp) (hr22 : q_ir (q_r f0 mo 25) dy) (hr23 : q_ir (q_r f0 mo 29) cs) (hr24 : q_ir (q_r f0 mo 30) c1) (hr25 : q_ir (q_r f0 mo 31) c2) (hr26 : q_ir (q_r f0 mo 32) c3) (hr27 : q_ir (q_r f0 mo 33) bg) (hr28 : q_ir (q_r f0 mo 34) lp) (hr29 : q_ir (q_r f0 mo 38) rp) (hij : tk_ij K L f0 nds) {f : Nat → va_E} {H : Heap} {locs : List Loc} {ls : Array Slot} {cells slots : Nat} {ii tn : Int} (hB : q_B g K L (fun q => s.heap.size ≤ q) [(0, 0, 6), (2, 1, 2), (3, 0, 4), (4, 0, 7), (5, 0, 9), (6, 1, 1), (7, 1, 4), (8, 1, 9), (9, 0, 2), (10, 3, 15), (11, 9, 9), (12, 0, 0), (12, 2, 12), (12, 21, 23), (12, 26, 28), (12, 35, 37), (12, 39, 40), (13, 3, 15), (14, 3, 15), (15, 3, 15), (16, 3, 15), (17, 0, 9), (18, 0, 9), (19, 0, 9), (20, 0, 9), (21, 0, 4), (22, 0, 4), (23, 0, 4), (24, 0, 4), (25, 0, 7), (26, 0, 7), (27, 0, 7), (28, 0, 7), (142, 0, 599), (143, 0, 599), (150, 0, 599), (151, 0, 657), (152, 0, 657), (153, 0, 657), (154, 0, 657), (155, 0, 3947), (156, 0, 9), (157, 0, 9), (158, 0, 9), (159, 0, 9), (160, 0, 9), (161, 0, 59), (162, 0, 58), (163, 0, 58), (164, 0, 58), (165, 0, 1), (166, 0, 1), (167, 0, 479), (168, 0, 0), (169, 0, 0)] f0 f s H locs) (hI : q_Iv4 f so mo sr pa sd bu ba tn) (hl : lv_has ls 10 [(5, .int (q_i ii)), (4, .ref outD), (3, .ref out), (2, .ref mo), (1, .ref x), (0, .ref b)]) (hi0 : 0 ≤ ii) (hi6 : ii + 6 ≤ N9) (hce : cells + 6 ≤ 10000) (hse : slots + 36 ≤ 100000) (kk : ∀ (f1 : Nat → va_E) (H1 : Heap) (locs1 : List Loc) (ls1 : Array Slot) (tn1 : Int), q_B g K L (fun q => s.heap.size ≤ q) [(0, 0, 6), (2, 1, 2), (3, 0, 4), (4, 0, 7), (5, 0, 9), (6, 1, 1), (7, 1, 4), (8, 1, 9), (9, 0, 2), (10, 3, 15), (11, 9, 9), (12, 0, 0), (12, 2, 12), (12, 21, 23), (12, 26, 28), (12, 35, 37), (12, 39, 40), (13, 3, 15), (14, 3, 15), (15, 3, 15), (16, 3, 15), (17, 0, 9), (18, 0, 9), (19, 0, 9), (20, 0, 9), (21, 0, 4), (22, 0, 4), (23, 0, 4), (24, 0, 4), (25, 0, 7), (26, 0, 7), (27, 0, 7), (28, 0, 7), (142, 0, 599), (143, 0, 599), (150, 0, 599), (151, 0, 657), (152, 0, 657), (153, 0, 657), (154, 0, 657), (155, 0, 3947), (156, 0, 9), (157, 0, 9), (158, 0, 9), (159, 0, 9), (160, 0, 9), (161, 0, 59), (162, 0, 58), (163, 0, 58), (164, 0, 58), (165, 0, 1), (166, 0, 1), (167, 0, 479), (168, 0, 0), (169, 0, 0)] f0 f1 s H1 locs1 → q_Iv4 f1 so mo sr pa sd bu ba tn1 → lv_has ls1 10 [(5, .int (q_i ii)), (4, .ref outD), (3, .ref out), (2, .ref mo), (1, .ref x), (0, .ref b)] → W p l e room_1 s m #[Value.ref b] below meth c H1 locs1 (cells + 6) (slots + 36) (lw_Z below #[Value.ref b] s) (F0 m 1521 ls1 [])) : W p l e room_1 s m #[Value.ref b] below meth c H locs (cells) (slots) (lw_Z below #[Value.ref b] s) (F0 m 1330 ls []) := by
  have hXs := C0.2.2.2.2.2.2.1
  have hbl := C0.2.2.2.2.2.2.2.1
  have hbA := q_bA hbl
  obtain ⟨⟨hn0, hn1, ltn, utn⟩, hgr, hpk, hsd9, ht3, ht4, hbb⟩ := hI
  have hr0 : q_ir (q_r f x 0) so := Eq.trans (hB.2.2.r hx (by rw [kx]; rfl)) hr0
  have hr1 : q_ir (q_r f x 1) rd := Eq.trans (hB.2.2.r hx (by rw [kx]; rfl)) hr1
  have hr2 : q_ir (q_r f x 2) scr := Eq.trans (hB.2.2.r hx (by rw [kx]; rfl)) hr2
  have hr3 : q_ir (q_r f x 3) fc := Eq.trans (hB.2.2.r hx (by rw [kx]; rfl)) hr3
  have hr4 : q_ir (q_r f x 4) hist := Eq.trans (hB.2.2.r hx (by rw [kx]; rfl)) hr4
  have hr5 : q_ir (q_r f x 5) rep := Eq.trans (hB.2.2.r hx (by rw [kx]; rfl)) hr5
  have hr6 : q_ir (q_r f x 6) now := Eq.trans (hB.2.2.r hx (by rw [kx]; rfl)) hr6
  have hr7 : q_ir (q_r f x 7) dr := Eq.trans (hB.2.2.r hx (by rw [kx]; rfl)) hr7
  have hr8 : q_ir (q_r f x 8) sv := Eq.trans (hB.2.2.r hx (by rw [kx]; rfl)) hr8
  have hr9 : q_ir (q_r f fc 0) tr := Eq.trans (hB.2.2.r hfc (by rw [kfc]; rfl)) hr9
  have hr10 : q_ir (q_r f so 0) ba := Eq.trans (hB.2.2.r hso (by rw [kso]; rfl)) hr10
  have hr11 : q_ir (q_r f dr 0) nds := Eq.trans (hB.2.2.r hdr (by rw [kdr]; rfl)) hr11
  have hr12 : q_ir (q_r f mo 1) bu := Eq.trans (hB.2.2.r hmo (by rw [kmo]; rfl)) hr12
  have hr13 : q_ir (q_r f mo 13) sr := Eq.trans (hB.2.2.r hmo (by rw [kmo]; rfl)) hr13
  have hr14 : q_ir (q_r f mo 14) sd := Eq.trans (hB.2.2.r hmo (by rw [kmo]; rfl)) hr14
  have hr15 : q_ir (q_r f mo 15) as := Eq.trans (hB.2.2.r hmo (by rw [kmo]; rfl)) hr15
  have hr16 : q_ir (q_r f mo 16) aw := Eq.trans (hB.2.2.r hmo (by rw [kmo]; rfl)) hr16
  have hr17 : q_ir (q_r f mo 17) pa := Eq.trans (hB.2.2.r hmo (by rw [kmo]; rfl)) hr17
  have hr18 : q_ir (q_r f mo 18) nm := Eq.trans (hB.2.2.r hmo (by rw [kmo]; rfl)) hr18
  have hr19 : q_ir (q_r f mo 19) snm := Eq.trans (hB.2.2.r hmo (by rw [kmo]; rfl)) hr19
  have hr20 : q_ir (q_r f mo 20) anm := Eq.trans (hB.2.2.r hmo (by rw [kmo]; rfl)) hr20
  have hr21 : q_ir (q_r f mo 24) hp := Eq.trans (hB.2.2.r hmo (by rw [kmo]; rfl)) hr21
  have hr22 : q_ir (q_r f mo 25) dy := Eq.trans (hB.2.2.r hmo (by rw [kmo]; rfl)) hr22
  have hr23 : q_ir (q_r f mo 29) cs := Eq.trans (hB.2.2.r hmo (by rw [kmo]; rfl)) hr23
  have hr24 : q_ir (q_r f mo 30) c1 := Eq.trans (hB.2.2.r hmo (by rw [kmo]; rfl)) hr24
  have hr25 : q_ir (q_r f mo 31) c2 := Eq.trans (hB.2.2.r hmo (by rw [kmo]; rfl)) hr25
  have hr26 : q_ir (q_r f mo 32) c3 := Eq.trans (hB.2.2.r hmo (by rw [kmo]; rfl)) hr26
  have hr27 : q_ir (q_r f mo 33) bg := Eq.trans (hB.2.2.r hmo (by rw [kmo]; rfl)) hr27
  have hr28 : q_ir (q_r f mo 34) lp := Eq.trans (hB.2.2.r hmo (by rw [kmo]; rfl)) hr28
  have hr29 : q_ir (q_r f mo 38) rp := Eq.trans (hB.2.2.r hmo (by rw [kmo]; rfl)) hr29
  have hij : tk_ij K L f nds := tk_ij_tr hij (fun i9 => hB.2.2.r hnds (by rw [knds]; rfl))
  obtain ⟨x1, ex1⟩ : ∃ zz, q_is (q_z f sr 3) zz := ⟨_, q_isr _⟩
  obtain ⟨lx1, ux1⟩ : 0 ≤ x1 ∧ x1 ≤ 9999 := q_isb ex1 ⟨(hgr 3 (by decide)).1, ht3⟩
  obtain ⟨x2, ex2⟩ : ∃ zz, q_is (q_z f sr 4) zz := ⟨_, q_isr _⟩
  obtain ⟨lx2, ux2⟩ : 0 ≤ x2 ∧ x2 ≤ 60 := q_isb ex2 ⟨(hgr 4 (by decide)).1, ht4⟩
  refine q_ald_n cx dL_law_1330 rfl (lv_at hl 4 rfl) ?_
  refine q_ald_n cx dL_law_1331 rfl (lv_at hl 5 rfl) ?_
  refine lv_iload cx.1 cx.2.1 dL_law_1332 (lv_at hl 0 rfl) ?_
  refine q_iconst cx dL_law_1334 ?_
  refine q_iadd cx dL_law_1335 ?_
  refine va_sld cx.1 cx.2.1 hXs hbl hbA hB.1.2.2.2 (q_in (by omega) (by omega) (by omega)) dL_law_1336 ?_
  obtain ⟨a3, ra3, ea3⟩ : ∃ z : Int, q_R z ∧ xs (q_i (ii + 1)).toNatClampNeg = q_i z := ⟨_, q_rng _, (q_of _).symm⟩
  rw [ea3]
  refine q_ald_n cx dL_law_1337 rfl (lv_at hl 5 rfl) ?_
  refine lv_iload cx.1 cx.2.1 dL_law_1338 (lv_at hl 0 rfl) ?_
  refine q_iconst cx dL_law_1340 ?_
  refine q_iadd cx dL_law_1341 ?_
  refine va_sld cx.1 cx.2.1 hXs hbl hbA hB.1.2.2.2 (q_in (by omega) (by omega) (by omega)) dL_law_1342 ?_
  obtain ⟨a4, ra4, ea4⟩ : ∃ z : Int, q_R z ∧ xs (q_i (ii + 2)).toNatClampNeg = q_i z := ⟨_, q_rng _, (q_of _).symm⟩
  rw [ea4]
  refine q_ald_n cx dL_law_1343 rfl (lv_at hl 2 rfl) ?_
  refine q_cWS (As := [.ref x, .int (q_i a3), .int (q_i a4), .ref out]) (rest := []) cx hX hB (fun q h => hLA q h) (fun q h1 h2 => absurd h1 (Nat.not_le_of_lt h2)) hN (w_setBorn l g ad hN hB.2.1 hfl x hx kx a3 (by omega) (by omega) a4 (by omega) (by omega) out hout kout so hso kso rd hrd krd scr hscr kscr fc hfc kfc hist hhist khist rep hrep krep now hnow know dr hdr kdr sv hsv ksv tr htr ktr hr0 hr1 hr2 hr3 hr4 hr5 hr6 hr7 hr8 hr9) q_cL_234 q_dL_setBorn ⟨by decide, by show cells + 2 ≤ 601024; omega, by show slots + 12 ≤ 7293034; omega⟩ rfl rfl hl.1 rfl (Nat.le_of_ble_eq_true rfl) dL_law_1344 (fun v9 H locs f5 h7 hF hB => ?_)
  obtain ⟨y6, rfl, ry6, h7⟩ := h7
  refine W.eq (g2 := F0 m 1347 ls [.int (q_i y6)]) rfl ?_
  obtain ⟨ly6, uy6⟩ := h7
  have z8 : q_is (q_z f5 so 1) tn := Eq.trans (hF.z hso (by rw [kso]; rfl)) hn0
  have z9 : q_is (q_z f5 mo 2) tn := Eq.trans (hF.z hmo (by rw [kmo]; rfl)) hn1
  have z10 : q_is (q_z f5 sr 3) x1 := Eq.trans (hF.z hsr (by rw [ksr]; rfl)) ex1
  have z11 : q_is (q_z f5 sr 4) x2 := Eq.trans (hF.z hsr (by rw [ksr]; rfl)) ex2
  have z12 : q_ir (q_r f5 x 0) so := Eq.trans (hF.r hx (by rw [kx]; rfl)) hr0
  have z13 : q_ir (q_r f5 x 1) rd := Eq.trans (hF.r hx (by rw [kx]; rfl)) hr1
  have z14 : q_ir (q_r f5 x 2) scr := Eq.trans (hF.r hx (by rw [kx]; rfl)) hr2
  have z15 : q_ir (q_r f5 x 3) fc := Eq.trans (hF.r hx (by rw [kx]; rfl)) hr3
  have z16 : q_ir (q_r f5 x 4) hist := Eq.trans (hF.r hx (by rw [kx]; rfl)) hr4
  have z17 : q_ir (q_r f5 x 5) rep := Eq.trans (hF.r hx (by rw [kx]; rfl)) hr5
  have z18 : q_ir (q_r f5 x 6) now := Eq.trans (hF.r hx (by rw [kx]; rfl)) hr6
  have z19 : q_ir (q_r f5 x 7) dr := Eq.trans (hF.r hx (by rw [kx]; rfl)) hr7
  have z20 : q_ir (q_r f5 x 8) sv := Eq.trans (hF.r hx (by rw [kx]; rfl)) hr8
  have z21 : q_ir (q_r f5 fc 0) tr := Eq.trans (hF.r hfc (by rw [kfc]; rfl)) hr9
  have z22 : q_ir (q_r f5 so 0) ba := Eq.trans (hF.r hso (by rw [kso]; rfl)) hr10
  have z23 : q_ir (q_r f5 dr 0) nds := Eq.trans (hF.r hdr (by rw [kdr]; rfl)) hr11
  have z24 : q_ir (q_r f5 mo 1) bu := Eq.trans (hF.r hmo (by rw [kmo]; rfl)) hr12
  have z25 : q_ir (q_r f5 mo 13) sr := Eq.trans (hF.r hmo (by rw [kmo]; rfl)) hr13
  have z26 : q_ir (q_r f5 mo 14) sd := Eq.trans (hF.r hmo (by rw [kmo]; rfl)) hr14
  have z27 : q_ir (q_r f5 mo 15) as := Eq.trans (hF.r hmo (by rw [kmo]; rfl)) hr15
  have z28 : q_ir (q_r f5 mo 16) aw := Eq.trans (hF.r hmo (by rw [kmo]; rfl)) hr16
  have z29 : q_ir (q_r f5 mo 17) pa := Eq.trans (hF.r hmo (by rw [kmo]; rfl)) hr17
  have z30 : q_ir (q_r f5 mo 18) nm := Eq.trans (hF.r hmo (by rw [kmo]; rfl)) hr18
  have z31 : q_ir (q_r f5 mo 19) snm := Eq.trans (hF.r hmo (by rw [kmo]; rfl)) hr19
  have z32 : q_ir (q_r f5 mo 20) anm := Eq.trans (hF.r hmo (by rw [kmo]; rfl)) hr20
  have z33 : q_ir (q_r f5 mo 24) hp := Eq.trans (hF.r hmo (by rw [kmo]; rfl)) hr21
  have z34 : q_ir (q_r f5 mo 25) dy := Eq.trans (hF.r hmo (by rw [kmo]; rfl)) hr22
  have z35 : q_ir (q_r f5 mo 29) cs := Eq.trans (hF.r hmo (by rw [kmo]; rfl)) hr23
  have z36 : q_ir (q_r f5 mo 30) c1 := Eq.trans (hF.r hmo (by rw [kmo]; rfl)) hr24
  have z37 : q_ir (q_r f5 mo 31) c2 := Eq.trans (hF.r hmo (by rw [kmo]; rfl)) hr25
  have z38 : q_ir (q_r f5 mo 32) c3 := Eq.trans (hF.r hmo (by rw [kmo]; rfl)) hr26
  have z39 : q_ir (q_r f5 mo 33) bg := Eq.trans (hF.r hmo (by rw [kmo]; rfl)) hr27
  have z40 : q_ir (q_r f5 mo 34) lp := Eq.trans (hF.r hmo (by rw [kmo]; rfl)) hr28
  have z41 : q_ir (q_r f5 mo 38) rp := Eq.trans (hF.r hmo (by rw [kmo]; rfl)) hr29
  have g42 : q_gr f5 sr := q_gr_fr hgr (fun i9 _ => hF.z hsr (by rw [ksr]; rfl))
  have g43 : q_pk f5 mo pa := q_pk_tr hpk (hF.z hmo (by rw [kmo]; rfl)) (fun i9 => hF.z hpa (by rw [kpa]; rfl))
  have g44 : q_sv f5 mo sd := q_sv_tr hsd9 (hF.z hmo (by rw [kmo]; rfl)) (fun i9 => hF.z hsd (by rw [ksd]; rfl))
  have g45 : tk_bb f5 bu ba tn := tk_bb_tr hbb (fun i9 => hF.z hbu (by rw [kbu]; rfl)) (fun i9 => hF.z hba (by rw [kba]; rfl))
  have g46 : tk_ij K L f5 nds := tk_ij_tr hij (fun i9 => hF.r hnds (by rw [knds]; rfl))
  refine lv_istore (lv' := [(6, .int (q_i y6)), (5, .int (q_i ii)), (4, .ref outD), (3, .ref out), (2, .ref mo), (1, .ref x), (0, .ref b)]) cx.1 cx.2.1 dL_law_1347 hl (by decide) rfl (fun ls hl => ?_)
  refine q_ald_n cx dL_law_1349 rfl (lv_at hl 4 rfl) ?_
  refine q_ald_n cx dL_law_1350 rfl (lv_at hl 6 rfl) ?_
  refine lv_iload cx.1 cx.2.1 dL_law_1351 (lv_at hl 1 rfl) ?_
  refine q_iconst cx dL_law_1353 ?_
  refine q_iadd cx dL_law_1354 ?_
  refine va_sld cx.1 cx.2.1 hXs hbl hbA hB.1.2.2.2 (q_in (by omega) (by omega) (by omega)) dL_law_1355 ?_
  rw [ea3]
  refine q_ald_n cx dL_law_1356 rfl (lv_at hl 6 rfl) ?_
  refine lv_iload cx.1 cx.2.1 dL_law_1357 (lv_at hl 1 rfl) ?_
  refine q_iconst cx dL_law_1359 ?_
  refine q_iadd cx dL_law_1360 ?_
  refine va_sld cx.1 cx.2.1 hXs hbl hbA hB.1.2.2.2 (q_in (by omega) (by omega) (by omega)) dL_law_1361 ?_
  rw [ea4]
  refine q_cVi (As := [.int (q_i a3), .int (q_i a4)]) (rest := []) cx hB (fun q h => hLA q h) hN hmo kmo (by decide) rfl (r_setBorn l g hN hB.2.1 mo hmo kmo a3 (by omega) (by omega) a4 (by omega) (by omega) sr hsr ksr as has kas pa hpa kpa x1 (by omega) (by omega) x2 (by omega) (by omega) z10 z11 z25 z27 z29 g42 g43) q_cL_236 q_dX12_setBorn ⟨by decide, by show cells + 2 ≤ 601024; omega, by show slots + 12 ≤ 7293034; omega⟩ rfl rfl hl.1 rfl (Nat.le_of_ble_eq_true rfl) dL_law_1362 (fun y48 H locs f47 ry48 h49 hF hB => ?_)
  obtain ⟨ly48, uy48, lz50, uz50, lz51, uz51, g52, g53⟩ := h49
  have z54 : q_is (q_z f47 so 1) tn := Eq.trans (hF.z hso (by rw [kso]; rfl)) z8
  have z55 : q_is (q_z f47 mo 2) tn := Eq.trans (hF.z hmo (by rw [kmo]; rfl)) z9
  have z56 : q_is (q_z f47 sr 3) x1 := Eq.trans (hF.z hsr (by rw [ksr]; rfl)) z10
  have z57 : q_is (q_z f47 sr 4) x2 := Eq.trans (hF.z hsr (by rw [ksr]; rfl)) z11
  have z58 : q_ir (q_r f47 x 0) so := Eq.trans (hF.r hx (by rw [kx]; rfl)) z12
  have z59 : q_ir (q_r f47 x 1) rd := Eq.trans (hF.r hx (by rw [kx]; rfl)) z13
  have z60 : q_ir (q_r f47 x 2) scr := Eq.trans (hF.r hx (by rw [kx]; rfl)) z14
  have z61 : q_ir (q_r f47 x 3) fc := Eq.trans (hF.r hx (by rw [kx]; rfl)) z15
  have z62 : q_ir (q_r f47 x 4) hist := Eq.trans (hF.r hx (by rw [kx]; rfl)) z16
  have z63 : q_ir (q_r f47 x 5) rep := Eq.trans (hF.r hx (by rw [kx]; rfl)) z17
  have z64 : q_ir (q_r f47 x 6) now := Eq.trans (hF.r hx (by rw [kx]; rfl)) z18
  have z65 : q_ir (q_r f47 x 7) dr := Eq.trans (hF.r hx (by rw [kx]; rfl)) z19
  have z66 : q_ir (q_r f47 x 8) sv := Eq.trans (hF.r hx (by rw [kx]; rfl)) z20
  have z67 : q_ir (q_r f47 fc 0) tr := Eq.trans (hF.r hfc (by rw [kfc]; rfl)) z21
  have z68 : q_ir (q_r f47 so 0) ba := Eq.trans (hF.r hso (by rw [kso]; rfl)) z22
  have z69 : q_ir (q_r f47 dr 0) nds := Eq.trans (hF.r hdr (by rw [kdr]; rfl)) z23
  have z70 : q_ir (q_r f47 mo 1) bu := Eq.trans (hF.r hmo (by rw [kmo]; rfl)) z24
  have z71 : q_ir (q_r f47 mo 13) sr := Eq.trans (hF.r hmo (by rw [kmo]; rfl)) z25
  have z72 : q_ir (q_r f47 mo 14) sd := Eq.trans (hF.r hmo (by rw [kmo]; rfl)) z26
  have z73 : q_ir (q_r f47 mo 15) as := Eq.trans (hF.r hmo (by rw [kmo]; rfl)) z27
  have z74 : q_ir (q_r f47 mo 16) aw := Eq.trans (hF.r hmo (by rw [kmo]; rfl)) z28
  have z75 : q_ir (q_r f47 mo 17) pa := Eq.trans (hF.r hmo (by rw [kmo]; rfl)) z29
  have z76 : q_ir (q_r f47 mo 18) nm := Eq.trans (hF.r hmo (by rw [kmo]; rfl)) z30
  have z77 : q_ir (q_r f47 mo 19) snm := Eq.trans (hF.r hmo (by rw [kmo]; rfl)) z31
  have z78 : q_ir (q_r f47 mo 20) anm := Eq.trans (hF.r hmo (by rw [kmo]; rfl)) z32
  have z79 : q_ir (q_r f47 mo 24) hp := Eq.trans (hF.r hmo (by rw [kmo]; rfl)) z33
  have z80 : q_ir (q_r f47 mo 25) dy := Eq.trans (hF.r hmo (by rw [kmo]; rfl)) z34
  have z81 : q_ir (q_r f47 mo 29) cs := Eq.trans (hF.r hmo (by rw [kmo]; rfl)) z35
  have z82 : q_ir (q_r f47 mo 30) c1 := Eq.trans (hF.r hmo (by rw [kmo]; rfl)) z36
  have z83 : q_ir (q_r f47 mo 31) c2 := Eq.trans (hF.r hmo (by rw [kmo]; rfl)) z37
  have z84 : q_ir (q_r f47 mo 32) c3 := Eq.trans (hF.r hmo (by rw [kmo]; rfl)) z38
  have z85 : q_ir (q_r f47 mo 33) bg := Eq.trans (hF.r hmo (by rw [kmo]; rfl)) z39
  have z86 : q_ir (q_r f47 mo 34) lp := Eq.trans (hF.r hmo (by rw [kmo]; rfl)) z40
  have z87 : q_ir (q_r f47 mo 38) rp := Eq.trans (hF.r hmo (by rw [kmo]; rfl)) z41
  have g88 : q_sv f47 mo sd := q_sv_tr g44 (hF.z hmo (by rw [kmo]; rfl)) (fun i9 => hF.z hsd (by rw [ksd]; rfl))
  have g89 : tk_bb f47 bu ba tn := tk_bb_tr g45 (fun i9 => hF.z hbu (by rw [kbu]; rfl)) (fun i9 => hF.z hba (by rw [kba]; rfl))
  have g90 : tk_ij K L f47 nds := tk_ij_tr g46 (fun i9 => hF.r hnds (by rw [knds]; rfl))
  obtain ⟨x91, ex91⟩ : ∃ zz, q_is (q_z f47 sr 3) zz := ⟨_, q_isr _⟩
  obtain ⟨lx91, ux91⟩ := q_isb ex91 ⟨lz50, uz50⟩
  obtain ⟨x92, ex92⟩ : ∃ zz, q_is (q_z f47 sr 4) zz := ⟨_, q_isr _⟩
  obtain ⟨lx92, ux92⟩ := q_isb ex92 ⟨lz51, uz51⟩
  refine lv_istore (lv' := [(7, .int (q_i y48)), (6, .int (q_i y6)), (5, .int (q_i ii)), (4, .ref outD), (3, .ref out), (2, .ref mo), (1, .ref x), (0, .ref b)]) cx.1 cx.2.1 dL_law_1365 hl (by decide) rfl (fun ls hl => ?_)
  refine lv_goto (tgt := 1521) cx.1 cx.2.1 dL_law_1367 (by decide) ?_
  refine W.widen (k := cells + 6) (n := slots + 36) (by omega) (by omega) ?_
  exact kk f47 H locs ls tn hB ⟨⟨z54, (Eq.trans z55 (by omega)), by omega, by omega⟩, g52, g53, g88, q_isu ex91 (by omega), q_isu ex92 (by omega), tk_bb_le g89 (by omega)⟩ (lv_sub hl [2, 3, 4, 5, 6, 7] rfl)
