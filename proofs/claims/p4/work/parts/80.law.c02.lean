set_option maxHeartbeats 4000000 in
set_option maxRecDepth 100000 in
theorem law_c410 {p : Program} {l : Launch} {e : Env} {s : State} {m : MethodId} {below : List Frame} {meth : Method} {c : Code} {b N9 : Nat} {xs : Nat → Int32} (hfl : l.stackTraces = false) (hN9 : N9 ≤ 3072) (C0 : lw_At p s m meth c b N9 xs) (cx : CallFix p m c cL_law 10 s #[Value.ref b] q_al RL) {g : q_G} {ad : Nat → Nat} {K : Nat → Nat} {L : List Nat} (hN : L.Nodup) (hLA : ∀ q, q ∈ L → s.heap.size ≤ q) (hX : q_X ad (fun q => q ∈ L) s) {f0 : Nat → va_E} {x : Nat} (hx : x ∈ L) (kx : K x = 11) {so : Nat} (hso : so ∈ L) (kso : K so = 8) {rd : Nat} (hrd : rd ∈ L) (krd : K rd = 9) {scr : Nat} (hscr : scr ∈ L) (kscr : K scr = 7) {fc : Nat} (hfc : fc ∈ L) (kfc : K fc = 1) {hist : Nat} (hhist : hist ∈ L) (khist : K hist = 2) {rep : Nat} (hrep : rep ∈ L) (krep : K rep = 6) {now : Nat} (hnow : now ∈ L) (know : K now = 10) {dr : Nat} (hdr : dr ∈ L) (kdr : K dr = 13) {sv : Nat} (hsv : sv ∈ L) (ksv : K sv = 14) {tr : Nat} (htr : tr ∈ L) (ktr : K tr = 15) {ba : Nat} (hba : ba ∈ L) (kba : K ba = 142) {nds : Nat} (hnds : nds ∈ L) (knds : K nds = 111) {mo : Nat} (hmo : mo ∈ L) (kmo : K mo = 12) {bu : Nat} (hbu : bu ∈ L) (kbu : K bu = 150) {sr : Nat} (hsr : sr ∈ L) (ksr : K sr = 151) {sd : Nat} (hsd : sd ∈ L) (ksd : K sd = 152) {as : Nat} (has : as ∈ L) (kas : K as = 153) {aw : Nat} (haw : aw ∈ L) (kaw : K aw = 154) {pa : Nat} (hpa : pa ∈ L) (kpa : K pa = 155) {nm : Nat} (hnm : nm ∈ L) (knm : K nm = 156) {snm : Nat} (hsnm : snm ∈ L) (ksnm : K snm = 157) {anm : Nat} (hanm : anm ∈ L) (kanm : K anm = 158) {hp : Nat} (hhp : hp ∈ L) (khp : K hp = 159) {dy : Nat} (hdy : dy ∈ L) (kdy : K dy = 160) {cs : Nat} (hcs : cs ∈ L) (kcs : K cs = 161) {c1 : Nat} (hc1 : c1 ∈ L) (kc1 : K c1 = 162) {c2 : Nat} (hc2 : c2 ∈ L) (kc2 : K c2 = 163) {c3 : Nat} (hc3 : c3 ∈ L) (kc3 : K c3 = 164) {bg : Nat} (hbg : bg ∈ L) (kbg : K bg = 165) {lp : Nat} (hlp : lp ∈ L) (klp : K lp = 166) {rp : Nat} (hrp : rp ∈ L) (krp : K rp = 167) {out : Nat} (hout : out ∈ L) (kout : K out = 168) {outD : Nat} (houtD : outD ∈ L) (koutD : K outD = 169) (hr0 : q_ir (q_r f0 x 0) so) (hr1 : q_ir (q_r f0 x 1) rd) (hr2 : q_ir (q_r f0 x 2) scr) (hr3 : q_ir (q_r f0 x 3) fc) (hr4 : q_ir (q_r f0 x 4) hist) (hr5 : q_ir (q_r f0 x 5) rep) (hr6 : q_ir (q_r f0 x 6) now) (hr7 : q_ir (q_r f0 x 7) dr) (hr8 : q_ir (q_r f0 x 8) sv) (hr9 : q_ir (q_r f0 fc 0) tr) (hr10 : q_ir (q_r f0 so 0) ba) (hr11 : q_ir (q_r f0 dr 0) nds) (hr12 : q_ir (q_r f0 mo 1) bu) (hr13 : q_ir (q_r f0 mo 13) sr) (hr14 : q_ir (q_r f0 mo 14) sd) (hr15 : q_ir (q_r f0 mo 15) as) (hr16 : q_ir (q_r f0 mo 16) aw) (hr17 : q_ir (q_r f0 mo 17) pa) (hr18 : q_ir (q_r f0 mo 18) nm) (hr19 : q_ir (q_r f0 mo 19) snm) (hr20 : q_ir (q_r f0 mo 20) anm) (hr21 : q_ir (q_r f0 mo 24) hp) (hr22 : q_ir (q_r f0 mo 25) dy) (hr23 : q_ir (q_r f0 mo 29) cs) (hr24 : q_ir (q_r f0 mo 30) c1) (hr25 : q_ir (q_r f0 mo 31) c2) (hr26 : q_ir (q_r f0 mo 32) c3) (hr27 : q_ir (q_r f0 mo 33) bg) (hr28 : q_ir (q_r f0 mo 34) lp) (hr29 : q_ir (q_r f0 mo 38) rp) (hij : tk_ij K L f0 nds) {f : Nat → va_E} {H : Heap} {locs : List Loc} {ls : Array Slot} {cells slots : Nat} {ii tn : Int} (hB : q_B g K L (fun q => s.heap.size ≤ q) [(0, 0, 6), (2, 1, 2), (3, 0, 4), (4, 0, 7), (5, 0, 9), (6, 1, 1), (7, 1, 4), (8, 1, 9), (9, 0, 2), (10, 3, 15), (11, 9, 9), (12, 0, 0), (12, 2, 12), (12, 21, 23), (12, 26, 28), (12, 35, 37), (12, 39, 40), (13, 3, 15), (14, 3, 15), (15, 3, 15), (16, 3, 15), (17, 0, 9), (18, 0, 9), (19, 0, 9), (20, 0, 9), (21, 0, 4), (22, 0, 4), (23, 0, 4), (24, 0, 4), (25, 0, 7), (26, 0, 7), (27, 0, 7), (28, 0, 7), (142, 0, 599), (143, 0, 599), (150, 0, 599), (151, 0, 657), (152, 0, 657), (153, 0, 657), (154, 0, 657), (155, 0, 3947), (156, 0, 9), (157, 0, 9), (158, 0, 9), (159, 0, 9), (160, 0, 9), (161, 0, 59), (162, 0, 58), (163, 0, 58), (164, 0, 58), (165, 0, 1), (166, 0, 1), (167, 0, 479), (168, 0, 0), (169, 0, 0)] f0 f s H locs) (hI : q_Iv4 f so mo sr pa sd bu ba tn) (hl : lv_has ls 10 [(5, .int (q_i ii)), (4, .ref outD), (3, .ref out), (2, .ref mo), (1, .ref x), (0, .ref b)]) (hi0 : 0 ≤ ii) (hi6 : ii + 6 ≤ N9) (hce : cells + 6 ≤ 10000) (hse : slots + 36 ≤ 100000) (kk : ∀ (f1 : Nat → va_E) (H1 : Heap) (locs1 : List Loc) (ls1 : Array Slot) (tn1 : Int), q_B g K L (fun q => s.heap.size ≤ q) [(0, 0, 6), (2, 1, 2), (3, 0, 4), (4, 0, 7), (5, 0, 9), (6, 1, 1), (7, 1, 4), (8, 1, 9), (9, 0, 2), (10, 3, 15), (11, 9, 9), (12, 0, 0), (12, 2, 12), (12, 21, 23), (12, 26, 28), (12, 35, 37), (12, 39, 40), (13, 3, 15), (14, 3, 15), (15, 3, 15), (16, 3, 15), (17, 0, 9), (18, 0, 9), (19, 0, 9), (20, 0, 9), (21, 0, 4), (22, 0, 4), (23, 0, 4), (24, 0, 4), (25, 0, 7), (26, 0, 7), (27, 0, 7), (28, 0, 7), (142, 0, 599), (143, 0, 599), (150, 0, 599), (151, 0, 657), (152, 0, 657), (153, 0, 657), (154, 0, 657), (155, 0, 3947), (156, 0, 9), (157, 0, 9), (158, 0, 9), (159, 0, 9), (160, 0, 9), (161, 0, 59), (162, 0, 58), (163, 0, 58), (164, 0, 58), (165, 0, 1), (166, 0, 1), (167, 0, 479), (168, 0, 0), (169, 0, 0)] f0 f1 s H1 locs1 → q_Iv4 f1 so mo sr pa sd bu ba tn1 → lv_has ls1 10 [(5, .int (q_i ii)), (4, .ref outD), (3, .ref out), (2, .ref mo), (1, .ref x), (0, .ref b)] → W p l e room_1 s m #[Value.ref b] below meth c H1 locs1 (cells + 6) (slots + 36) (lw_Z below #[Value.ref b] s) (F0 m 1521 ls1 [])) : W p l e room_1 s m #[Value.ref b] below meth c H locs (cells) (slots) (lw_Z below #[Value.ref b] s) (F0 m 410 ls []) := by
  have hXs := C0.2.2.2.2.2.2.1
  have hbl := C0.2.2.2.2.2.2.2.1
  have hbA := q_bA hbl
  obtain ⟨⟨hn0, hn1, ltn, utn⟩, hgr, hpk, hsd9, ht3, ht4, hbb⟩ := hI
  have hr0 : q_ir (q_r f x 0) so := Eq.trans (hB.2.2.r hx (by rw [kx]; rfl)) hr0
  have hr1 : q_ir (q_r f x 1) rd := Eq.trans (hB.2.2.r hx (by rw [kx]; rfl)) hr1
  have hr2 : q_ir (q_r f x 2) scr := Eq.trans (hB.2.2.r hx (by rw [kx]; rfl)) hr2
  have hr3 : q_ir (q_r f x 3) fc := Eq.trans (hB.2.2.r hx (by rw [kx]; rfl)) hr3
  have hr4 : q_ir (q_r f x 4) hist := Eq.trans (hB.2.2.r hx (by rw [kx]; rfl)) hr4
  have hr5 : q_ir (q_r f x 5) rep := Eq.trans (hB.2.2.r hx (by rw [kx]; rfl)) hr5
  have hr6 : q_ir (q_r f x 6) now := Eq.trans (hB.2.2.r hx (by rw [kx]; rfl)) hr6
  have hr7 : q_ir (q_r f x 7) dr := Eq.trans (hB.2.2.r hx (by rw [kx]; rfl)) hr7
  have hr8 : q_ir (q_r f x 8) sv := Eq.trans (hB.2.2.r hx (by rw [kx]; rfl)) hr8
  have hr9 : q_ir (q_r f fc 0) tr := Eq.trans (hB.2.2.r hfc (by rw [kfc]; rfl)) hr9
  have hr10 : q_ir (q_r f so 0) ba := Eq.trans (hB.2.2.r hso (by rw [kso]; rfl)) hr10
  have hr11 : q_ir (q_r f dr 0) nds := Eq.trans (hB.2.2.r hdr (by rw [kdr]; rfl)) hr11
  have hr12 : q_ir (q_r f mo 1) bu := Eq.trans (hB.2.2.r hmo (by rw [kmo]; rfl)) hr12
  have hr13 : q_ir (q_r f mo 13) sr := Eq.trans (hB.2.2.r hmo (by rw [kmo]; rfl)) hr13
  have hr14 : q_ir (q_r f mo 14) sd := Eq.trans (hB.2.2.r hmo (by rw [kmo]; rfl)) hr14
  have hr15 : q_ir (q_r f mo 15) as := Eq.trans (hB.2.2.r hmo (by rw [kmo]; rfl)) hr15
  have hr16 : q_ir (q_r f mo 16) aw := Eq.trans (hB.2.2.r hmo (by rw [kmo]; rfl)) hr16
  have hr17 : q_ir (q_r f mo 17) pa := Eq.trans (hB.2.2.r hmo (by rw [kmo]; rfl)) hr17
  have hr18 : q_ir (q_r f mo 18) nm := Eq.trans (hB.2.2.r hmo (by rw [kmo]; rfl)) hr18
  have hr19 : q_ir (q_r f mo 19) snm := Eq.trans (hB.2.2.r hmo (by rw [kmo]; rfl)) hr19
  have hr20 : q_ir (q_r f mo 20) anm := Eq.trans (hB.2.2.r hmo (by rw [kmo]; rfl)) hr20
  have hr21 : q_ir (q_r f mo 24) hp := Eq.trans (hB.2.2.r hmo (by rw [kmo]; rfl)) hr21
  have hr22 : q_ir (q_r f mo 25) dy := Eq.trans (hB.2.2.r hmo (by rw [kmo]; rfl)) hr22
  have hr23 : q_ir (q_r f mo 29) cs := Eq.trans (hB.2.2.r hmo (by rw [kmo]; rfl)) hr23
  have hr24 : q_ir (q_r f mo 30) c1 := Eq.trans (hB.2.2.r hmo (by rw [kmo]; rfl)) hr24
  have hr25 : q_ir (q_r f mo 31) c2 := Eq.trans (hB.2.2.r hmo (by rw [kmo]; rfl)) hr25
  have hr26 : q_ir (q_r f mo 32) c3 := Eq.trans (hB.2.2.r hmo (by rw [kmo]; rfl)) hr26
  have hr27 : q_ir (q_r f mo 33) bg := Eq.trans (hB.2.2.r hmo (by rw [kmo]; rfl)) hr27
  have hr28 : q_ir (q_r f mo 34) lp := Eq.trans (hB.2.2.r hmo (by rw [kmo]; rfl)) hr28
  have hr29 : q_ir (q_r f mo 38) rp := Eq.trans (hB.2.2.r hmo (by rw [kmo]; rfl)) hr29
  have hij : tk_ij K L f nds := tk_ij_tr hij (fun i9 => hB.2.2.r hnds (by rw [knds]; rfl))
  obtain ⟨x1, ex1⟩ : ∃ zz, q_is (q_z f sr 3) zz := ⟨_, q_isr _⟩
  obtain ⟨lx1, ux1⟩ : 0 ≤ x1 ∧ x1 ≤ 9999 := q_isb ex1 ⟨(hgr 3 (by decide)).1, ht3⟩
  obtain ⟨x2, ex2⟩ : ∃ zz, q_is (q_z f sr 4) zz := ⟨_, q_isr _⟩
  obtain ⟨lx2, ux2⟩ : 0 ≤ x2 ∧ x2 ≤ 60 := q_isb ex2 ⟨(hgr 4 (by decide)).1, ht4⟩
  refine q_ald_n cx dL_law_410 rfl (lv_at hl 4 rfl) ?_
  refine q_ald_n cx dL_law_411 rfl (lv_at hl 5 rfl) ?_
  refine lv_iload cx.1 cx.2.1 dL_law_412 (lv_at hl 0 rfl) ?_
  refine q_iconst cx dL_law_414 ?_
  refine q_iadd cx dL_law_415 ?_
  refine va_sld cx.1 cx.2.1 hXs hbl hbA hB.1.2.2.2 (q_in (by omega) (by omega) (by omega)) dL_law_416 ?_
  obtain ⟨a3, ra3, ea3⟩ : ∃ z : Int, q_R z ∧ xs (q_i (ii + 1)).toNatClampNeg = q_i z := ⟨_, q_rng _, (q_of _).symm⟩
  rw [ea3]
  refine q_ald_n cx dL_law_417 rfl (lv_at hl 2 rfl) ?_
  refine q_cWS (As := [.ref x, .int (q_i a3), .ref out]) (rest := []) cx hX hB (fun q h => hLA q h) (fun q h1 h2 => absurd h1 (Nat.not_le_of_lt h2)) hN (w_setting l g ad hN hB.2.1 hfl x hx kx a3 (by omega) (by omega) out hout kout so hso kso rd hrd krd scr hscr kscr fc hfc kfc hist hhist khist rep hrep krep now hnow know dr hdr kdr sv hsv ksv tr htr ktr hr0 hr1 hr2 hr3 hr4 hr5 hr6 hr7 hr8 hr9) q_cL_146 q_dL_setting ⟨by decide, by show cells + 1 ≤ 601024; omega, by show slots + 6 ≤ 7293034; omega⟩ rfl rfl hl.1 rfl (Nat.le_of_ble_eq_true rfl) dL_law_418 (fun v9 H locs f4 h6 hF hB => ?_)
  obtain ⟨y5, rfl, ry5, h6⟩ := h6
  refine W.eq (g2 := F0 m 421 ls [.int (q_i y5)]) rfl ?_
  obtain ⟨ly5, uy5⟩ := h6
  have z7 : q_is (q_z f4 so 1) tn := Eq.trans (hF.z hso (by rw [kso]; rfl)) hn0
  have z8 : q_is (q_z f4 mo 2) tn := Eq.trans (hF.z hmo (by rw [kmo]; rfl)) hn1
  have z9 : q_is (q_z f4 sr 3) x1 := Eq.trans (hF.z hsr (by rw [ksr]; rfl)) ex1
  have z10 : q_is (q_z f4 sr 4) x2 := Eq.trans (hF.z hsr (by rw [ksr]; rfl)) ex2
  have z11 : q_ir (q_r f4 x 0) so := Eq.trans (hF.r hx (by rw [kx]; rfl)) hr0
  have z12 : q_ir (q_r f4 x 1) rd := Eq.trans (hF.r hx (by rw [kx]; rfl)) hr1
  have z13 : q_ir (q_r f4 x 2) scr := Eq.trans (hF.r hx (by rw [kx]; rfl)) hr2
  have z14 : q_ir (q_r f4 x 3) fc := Eq.trans (hF.r hx (by rw [kx]; rfl)) hr3
  have z15 : q_ir (q_r f4 x 4) hist := Eq.trans (hF.r hx (by rw [kx]; rfl)) hr4
  have z16 : q_ir (q_r f4 x 5) rep := Eq.trans (hF.r hx (by rw [kx]; rfl)) hr5
  have z17 : q_ir (q_r f4 x 6) now := Eq.trans (hF.r hx (by rw [kx]; rfl)) hr6
  have z18 : q_ir (q_r f4 x 7) dr := Eq.trans (hF.r hx (by rw [kx]; rfl)) hr7
  have z19 : q_ir (q_r f4 x 8) sv := Eq.trans (hF.r hx (by rw [kx]; rfl)) hr8
  have z20 : q_ir (q_r f4 fc 0) tr := Eq.trans (hF.r hfc (by rw [kfc]; rfl)) hr9
  have z21 : q_ir (q_r f4 so 0) ba := Eq.trans (hF.r hso (by rw [kso]; rfl)) hr10
  have z22 : q_ir (q_r f4 dr 0) nds := Eq.trans (hF.r hdr (by rw [kdr]; rfl)) hr11
  have z23 : q_ir (q_r f4 mo 1) bu := Eq.trans (hF.r hmo (by rw [kmo]; rfl)) hr12
  have z24 : q_ir (q_r f4 mo 13) sr := Eq.trans (hF.r hmo (by rw [kmo]; rfl)) hr13
  have z25 : q_ir (q_r f4 mo 14) sd := Eq.trans (hF.r hmo (by rw [kmo]; rfl)) hr14
  have z26 : q_ir (q_r f4 mo 15) as := Eq.trans (hF.r hmo (by rw [kmo]; rfl)) hr15
  have z27 : q_ir (q_r f4 mo 16) aw := Eq.trans (hF.r hmo (by rw [kmo]; rfl)) hr16
  have z28 : q_ir (q_r f4 mo 17) pa := Eq.trans (hF.r hmo (by rw [kmo]; rfl)) hr17
  have z29 : q_ir (q_r f4 mo 18) nm := Eq.trans (hF.r hmo (by rw [kmo]; rfl)) hr18
  have z30 : q_ir (q_r f4 mo 19) snm := Eq.trans (hF.r hmo (by rw [kmo]; rfl)) hr19
  have z31 : q_ir (q_r f4 mo 20) anm := Eq.trans (hF.r hmo (by rw [kmo]; rfl)) hr20
  have z32 : q_ir (q_r f4 mo 24) hp := Eq.trans (hF.r hmo (by rw [kmo]; rfl)) hr21
  have z33 : q_ir (q_r f4 mo 25) dy := Eq.trans (hF.r hmo (by rw [kmo]; rfl)) hr22
  have z34 : q_ir (q_r f4 mo 29) cs := Eq.trans (hF.r hmo (by rw [kmo]; rfl)) hr23
  have z35 : q_ir (q_r f4 mo 30) c1 := Eq.trans (hF.r hmo (by rw [kmo]; rfl)) hr24
  have z36 : q_ir (q_r f4 mo 31) c2 := Eq.trans (hF.r hmo (by rw [kmo]; rfl)) hr25
  have z37 : q_ir (q_r f4 mo 32) c3 := Eq.trans (hF.r hmo (by rw [kmo]; rfl)) hr26
  have z38 : q_ir (q_r f4 mo 33) bg := Eq.trans (hF.r hmo (by rw [kmo]; rfl)) hr27
  have z39 : q_ir (q_r f4 mo 34) lp := Eq.trans (hF.r hmo (by rw [kmo]; rfl)) hr28
  have z40 : q_ir (q_r f4 mo 38) rp := Eq.trans (hF.r hmo (by rw [kmo]; rfl)) hr29
  have g41 : q_gr f4 sr := q_gr_fr hgr (fun i9 _ => hF.z hsr (by rw [ksr]; rfl))
  have g42 : q_pk f4 mo pa := q_pk_tr hpk (hF.z hmo (by rw [kmo]; rfl)) (fun i9 => hF.z hpa (by rw [kpa]; rfl))
  have g43 : q_sv f4 mo sd := q_sv_tr hsd9 (hF.z hmo (by rw [kmo]; rfl)) (fun i9 => hF.z hsd (by rw [ksd]; rfl))
  have g44 : tk_bb f4 bu ba tn := tk_bb_tr hbb (fun i9 => hF.z hbu (by rw [kbu]; rfl)) (fun i9 => hF.z hba (by rw [kba]; rfl))
  have g45 : tk_ij K L f4 nds := tk_ij_tr hij (fun i9 => hF.r hnds (by rw [knds]; rfl))
  refine lv_istore (lv' := [(6, .int (q_i y5)), (5, .int (q_i ii)), (4, .ref outD), (3, .ref out), (2, .ref mo), (1, .ref x), (0, .ref b)]) cx.1 cx.2.1 dL_law_421 hl (by decide) rfl (fun ls hl => ?_)
  refine q_ald_n cx dL_law_423 rfl (lv_at hl 4 rfl) ?_
  refine q_ald_n cx dL_law_424 rfl (lv_at hl 6 rfl) ?_
  refine lv_iload cx.1 cx.2.1 dL_law_425 (lv_at hl 1 rfl) ?_
  refine q_iconst cx dL_law_427 ?_
  refine q_iadd cx dL_law_428 ?_
  refine va_sld cx.1 cx.2.1 hXs hbl hbA hB.1.2.2.2 (q_in (by omega) (by omega) (by omega)) dL_law_429 ?_
  rw [ea3]
  refine q_cVi (As := [.int (q_i a3)]) (rest := []) cx hB (fun q h => hLA q h) hN hmo kmo (by decide) rfl (r_setting l g hN hB.2.1 mo hmo kmo a3 (by omega) (by omega) sr hsr ksr x1 (by omega) (by omega) x2 (by omega) (by omega) z9 z10 z24 g41) q_cL_148 q_dX12_setting ⟨by decide, by show cells + 1 ≤ 601024; omega, by show slots + 6 ≤ 7293034; omega⟩ rfl rfl hl.1 rfl (Nat.le_of_ble_eq_true rfl) dL_law_430 (fun y47 H locs f46 ry47 h48 hF hB => ?_)
  have z49 : q_is (q_z f46 so 1) tn := Eq.trans (hF.z hso (by rw [kso]; rfl)) z7
  have z50 : q_is (q_z f46 mo 2) tn := Eq.trans (hF.z hmo (by rw [kmo]; rfl)) z8
  have z51 : q_is (q_z f46 sr 3) x1 := Eq.trans (hF.z hsr (by rw [ksr]; rfl)) z9
  have z52 : q_is (q_z f46 sr 4) x2 := Eq.trans (hF.z hsr (by rw [ksr]; rfl)) z10
  have z53 : q_ir (q_r f46 x 0) so := Eq.trans (hF.r hx (by rw [kx]; rfl)) z11
  have z54 : q_ir (q_r f46 x 1) rd := Eq.trans (hF.r hx (by rw [kx]; rfl)) z12
  have z55 : q_ir (q_r f46 x 2) scr := Eq.trans (hF.r hx (by rw [kx]; rfl)) z13
  have z56 : q_ir (q_r f46 x 3) fc := Eq.trans (hF.r hx (by rw [kx]; rfl)) z14
  have z57 : q_ir (q_r f46 x 4) hist := Eq.trans (hF.r hx (by rw [kx]; rfl)) z15
  have z58 : q_ir (q_r f46 x 5) rep := Eq.trans (hF.r hx (by rw [kx]; rfl)) z16
  have z59 : q_ir (q_r f46 x 6) now := Eq.trans (hF.r hx (by rw [kx]; rfl)) z17
  have z60 : q_ir (q_r f46 x 7) dr := Eq.trans (hF.r hx (by rw [kx]; rfl)) z18
  have z61 : q_ir (q_r f46 x 8) sv := Eq.trans (hF.r hx (by rw [kx]; rfl)) z19
  have z62 : q_ir (q_r f46 fc 0) tr := Eq.trans (hF.r hfc (by rw [kfc]; rfl)) z20
  have z63 : q_ir (q_r f46 so 0) ba := Eq.trans (hF.r hso (by rw [kso]; rfl)) z21
  have z64 : q_ir (q_r f46 dr 0) nds := Eq.trans (hF.r hdr (by rw [kdr]; rfl)) z22
  have z65 : q_ir (q_r f46 mo 1) bu := Eq.trans (hF.r hmo (by rw [kmo]; rfl)) z23
  have z66 : q_ir (q_r f46 mo 13) sr := Eq.trans (hF.r hmo (by rw [kmo]; rfl)) z24
  have z67 : q_ir (q_r f46 mo 14) sd := Eq.trans (hF.r hmo (by rw [kmo]; rfl)) z25
  have z68 : q_ir (q_r f46 mo 15) as := Eq.trans (hF.r hmo (by rw [kmo]; rfl)) z26
  have z69 : q_ir (q_r f46 mo 16) aw := Eq.trans (hF.r hmo (by rw [kmo]; rfl)) z27
  have z70 : q_ir (q_r f46 mo 17) pa := Eq.trans (hF.r hmo (by rw [kmo]; rfl)) z28
  have z71 : q_ir (q_r f46 mo 18) nm := Eq.trans (hF.r hmo (by rw [kmo]; rfl)) z29
  have z72 : q_ir (q_r f46 mo 19) snm := Eq.trans (hF.r hmo (by rw [kmo]; rfl)) z30
  have z73 : q_ir (q_r f46 mo 20) anm := Eq.trans (hF.r hmo (by rw [kmo]; rfl)) z31
  have z74 : q_ir (q_r f46 mo 24) hp := Eq.trans (hF.r hmo (by rw [kmo]; rfl)) z32
  have z75 : q_ir (q_r f46 mo 25) dy := Eq.trans (hF.r hmo (by rw [kmo]; rfl)) z33
  have z76 : q_ir (q_r f46 mo 29) cs := Eq.trans (hF.r hmo (by rw [kmo]; rfl)) z34
  have z77 : q_ir (q_r f46 mo 30) c1 := Eq.trans (hF.r hmo (by rw [kmo]; rfl)) z35
  have z78 : q_ir (q_r f46 mo 31) c2 := Eq.trans (hF.r hmo (by rw [kmo]; rfl)) z36
  have z79 : q_ir (q_r f46 mo 32) c3 := Eq.trans (hF.r hmo (by rw [kmo]; rfl)) z37
  have z80 : q_ir (q_r f46 mo 33) bg := Eq.trans (hF.r hmo (by rw [kmo]; rfl)) z38
  have z81 : q_ir (q_r f46 mo 34) lp := Eq.trans (hF.r hmo (by rw [kmo]; rfl)) z39
  have z82 : q_ir (q_r f46 mo 38) rp := Eq.trans (hF.r hmo (by rw [kmo]; rfl)) z40
  have g83 : q_gr f46 sr := q_gr_fr g41 (fun i9 _ => hF.z hsr (by rw [ksr]; rfl))
  have g84 : q_pk f46 mo pa := q_pk_tr g42 (hF.z hmo (by rw [kmo]; rfl)) (fun i9 => hF.z hpa (by rw [kpa]; rfl))
  have g85 : q_sv f46 mo sd := q_sv_tr g43 (hF.z hmo (by rw [kmo]; rfl)) (fun i9 => hF.z hsd (by rw [ksd]; rfl))
  have g86 : tk_bb f46 bu ba tn := tk_bb_tr g44 (fun i9 => hF.z hbu (by rw [kbu]; rfl)) (fun i9 => hF.z hba (by rw [kba]; rfl))
  have g87 : tk_ij K L f46 nds := tk_ij_tr g45 (fun i9 => hF.r hnds (by rw [knds]; rfl))
  refine lv_istore (lv' := [(7, .int (q_i y47)), (6, .int (q_i y5)), (5, .int (q_i ii)), (4, .ref outD), (3, .ref out), (2, .ref mo), (1, .ref x), (0, .ref b)]) cx.1 cx.2.1 dL_law_433 hl (by decide) rfl (fun ls hl => ?_)
  refine lv_goto (tgt := 1521) cx.1 cx.2.1 dL_law_435 (by decide) ?_
  refine W.widen (k := cells + 6) (n := slots + 36) (by omega) (by omega) ?_
  exact kk f46 H locs ls tn hB ⟨⟨z49, (Eq.trans z50 (by omega)), by omega, by omega⟩, g83, g84, g85, q_isu z51 (by omega), q_isu z52 (by omega), tk_bb_le g86 (by omega)⟩ (lv_sub hl [2, 3, 4, 5, 6, 7] rfl)
set_option maxHeartbeats 4000000 in
set_option maxRecDepth 100000 in
theorem law_c438 {p : Program} {l : Launch} {e : Env} {s : State} {m : MethodId} {below : List Frame} {meth : Method} {c : Code} {b N9 : Nat} {xs : Nat → Int32} (hfl : l.stackTraces = false) (hN9 : N9 ≤ 3072) (C0 : lw_At p s m meth c b N9 xs) (cx : CallFix p m c cL_law 10 s #[Value.ref b] q_al RL) {g : q_G} {ad : Nat → Nat} {K : Nat → Nat} {L : List Nat} (hN : L.Nodup) (hLA : ∀ q, q ∈ L → s.heap.size ≤ q) (hX : q_X ad (fun q => q ∈ L) s) {f0 : Nat → va_E} {x : Nat} (hx : x ∈ L) (kx : K x = 11) {so : Nat} (hso : so ∈ L) (kso : K so = 8) {rd : Nat} (hrd : rd ∈ L) (krd : K rd = 9) {scr : Nat} (hscr : scr ∈ L) (kscr : K scr = 7) {fc : Nat} (hfc : fc ∈ L) (kfc : K fc = 1) {hist : Nat} (hhist : hist ∈ L) (khist : K hist = 2) {rep : Nat} (hrep : rep ∈ L) (krep : K rep = 6) {now : Nat} (hnow : now ∈ L) (know : K now = 10) {dr : Nat} (hdr : dr ∈ L) (kdr : K dr = 13) {sv : Nat} (hsv : sv ∈ L) (ksv : K sv = 14) {tr : Nat} (htr : tr ∈ L) (ktr : K tr = 15) {ba : Nat} (hba : ba ∈ L) (kba : K ba = 142) {nds : Nat} (hnds : nds ∈ L) (knds : K nds = 111) {mo : Nat} (hmo : mo ∈ L) (kmo : K mo = 12) {bu : Nat} (hbu : bu ∈ L) (kbu : K bu = 150) {sr : Nat} (hsr : sr ∈ L) (ksr : K sr = 151) {sd : Nat} (hsd : sd ∈ L) (ksd : K sd = 152) {as : Nat} (has : as ∈ L) (kas : K as = 153) {aw : Nat} (haw : aw ∈ L) (kaw : K aw = 154) {pa : Nat} (hpa : pa ∈ L) (kpa : K pa = 155) {nm : Nat} (hnm : nm ∈ L) (knm : K nm = 156) {snm : Nat} (hsnm : snm ∈ L) (ksnm : K snm = 157) {anm : Nat} (hanm : anm ∈ L) (kanm : K anm = 158) {hp : Nat} (hhp : hp ∈ L) (khp : K hp = 159) {dy : Nat} (hdy : dy ∈ L) (kdy : K dy = 160) {cs : Nat} (hcs : cs ∈ L) (kcs : K cs = 161) {c1 : Nat} (hc1 : c1 ∈ L) (kc1 : K c1 = 162) {c2 : Nat} (hc2 : c2 ∈ L) (kc2 : K c2 = 163) {c3 : Nat} (hc3 : c3 ∈ L) (kc3 : K c3 = 164) {bg : Nat} (hbg : bg ∈ L) (kbg : K bg = 165) {lp : Nat} (hlp : lp ∈ L) (klp : K lp = 166) {rp : Nat} (hrp : rp ∈ L) (krp : K rp = 167) {out : Nat} (hout : out ∈ L) (kout : K out = 168) {outD : Nat} (houtD : outD ∈ L) (koutD : K outD = 169) (hr0 : q_ir (q_r f0 x 0) so) (hr1 : q_ir (q_r f0 x 1) rd) (hr2 : q_ir (q_r f0 x 2) scr) (hr3 : q_ir (q_r f0 x 3) fc) (hr4 : q_ir (q_r f0 x 4) hist) (hr5 : q_ir (q_r f0 x 5) rep) (hr6 : q_ir (q_r f0 x 6) now) (hr7 : q_ir (q_r f0 x 7) dr) (hr8 : q_ir (q_r f0 x 8) sv) (hr9 : q_ir (q_r f0 fc 0) tr) (hr10 : q_ir (q_r f0 so 0) ba) (hr11 : q_ir (q_r f0 dr 0) nds) (hr12 : q_ir (q_r f0 mo 1) bu) (hr13 : q_ir (q_r f0 mo 13) sr) (hr14 : q_ir (q_r f0 mo 14) sd) (hr15 : q_ir (q_r f0 mo 15) as) (hr16 : q_ir (q_r f0 mo 16) aw) (hr17 : q_ir (q_r f0 mo 17) pa) (hr18 : q_ir (q_r f0 mo 18) nm) (hr19 : q_ir (q_r f0 mo 19) snm) (hr20 : q_ir (q_r f0 mo 20) anm) (hr21 : q_ir (q_r f0 mo 24) hp) (hr22 : q_ir (q_r f0 mo 25) dy) (hr23 : q_ir (q_r f0 mo 29) cs) (hr24 : q_ir (q_r f0 mo 30) c1) (hr25 : q_ir (q_r f0 mo 31) c2) (hr26 : q_ir (q_r f0 mo 32) c3) (hr27 : q_ir (q_r f0 mo 33) bg) (hr28 : q_ir (q_r f0 mo 34) lp) (hr29 : q_ir (q_r f0 mo 38) rp) (hij : tk_ij K L f0 nds) {f : Nat → va_E} {H : Heap} {locs : List Loc} {ls : Array Slot} {cells slots : Nat} {ii tn : Int} (hB : q_B g K L (fun q => s.heap.size ≤ q) [(0, 0, 6), (2, 1, 2), (3, 0, 4), (4, 0, 7), (5, 0, 9), (6, 1, 1), (7, 1, 4), (8, 1, 9), (9, 0, 2), (10, 3, 15), (11, 9, 9), (12, 0, 0), (12, 2, 12), (12, 21, 23), (12, 26, 28), (12, 35, 37), (12, 39, 40), (13, 3, 15), (14, 3, 15), (15, 3, 15), (16, 3, 15), (17, 0, 9), (18, 0, 9), (19, 0, 9), (20, 0, 9), (21, 0, 4), (22, 0, 4), (23, 0, 4), (24, 0, 4), (25, 0, 7), (26, 0, 7), (27, 0, 7), (28, 0, 7), (142, 0, 599), (143, 0, 599), (150, 0, 599), (151, 0, 657), (152, 0, 657), (153, 0, 657), (154, 0, 657), (155, 0, 3947), (156, 0, 9), (157, 0, 9), (158, 0, 9), (159, 0, 9), (160, 0, 9), (161, 0, 59), (162, 0, 58), (163, 0, 58), (164, 0, 58), (165, 0, 1), (166, 0, 1), (167, 0, 479), (168, 0, 0), (169, 0, 0)] f0 f s H locs) (hI : q_Iv4 f so mo sr pa sd bu ba tn) (hl : lv_has ls 10 [(5, .int (q_i ii)), (4, .ref outD), (3, .ref out), (2, .ref mo), (1, .ref x), (0, .ref b)]) (hi0 : 0 ≤ ii) (hi6 : ii + 6 ≤ N9) (hce : cells + 6 ≤ 10000) (hse : slots + 36 ≤ 100000) (kk : ∀ (f1 : Nat → va_E) (H1 : Heap) (locs1 : List Loc) (ls1 : Array Slot) (tn1 : Int), q_B g K L (fun q => s.heap.size ≤ q) [(0, 0, 6), (2, 1, 2), (3, 0, 4), (4, 0, 7), (5, 0, 9), (6, 1, 1), (7, 1, 4), (8, 1, 9), (9, 0, 2), (10, 3, 15), (11, 9, 9), (12, 0, 0), (12, 2, 12), (12, 21, 23), (12, 26, 28), (12, 35, 37), (12, 39, 40), (13, 3, 15), (14, 3, 15), (15, 3, 15), (16, 3, 15), (17, 0, 9), (18, 0, 9), (19, 0, 9), (20, 0, 9), (21, 0, 4), (22, 0, 4), (23, 0, 4), (24, 0, 4), (25, 0, 7), (26, 0, 7), (27, 0, 7), (28, 0, 7), (142, 0, 599), (143, 0, 599), (150, 0, 599), (151, 0, 657), (152, 0, 657), (153, 0, 657), (154, 0, 657), (155, 0, 3947), (156, 0, 9), (157, 0, 9), (158, 0, 9), (159, 0, 9), (160, 0, 9), (161, 0, 59), (162, 0, 58), (163, 0, 58), (164, 0, 58), (165, 0, 1), (166, 0, 1), (167, 0, 479), (168, 0, 0), (169, 0, 0)] f0 f1 s H1 locs1 → q_Iv4 f1 so mo sr pa sd bu ba tn1 → lv_has ls1 10 [(5, .int (q_i ii)), (4, .ref outD), (3, .ref out), (2, .ref mo), (1, .ref x), (0, .ref b)] → W p l e room_1 s m #[Value.ref b] below meth c H1 locs1 (cells + 6) (slots + 36) (lw_Z below #[Value.ref b] s) (F0 m 1521 ls1 [])) : W p l e room_1 s m #[Value.ref b] below meth c H locs (cells) (slots) (lw_Z below #[Value.ref b] s) (F0 m 438 ls []) := by
  have hXs := C0.2.2.2.2.2.2.1
  have hbl := C0.2.2.2.2.2.2.2.1
  have hbA := q_bA hbl
  obtain ⟨⟨hn0, hn1, ltn, utn⟩, hgr, hpk, hsd9, ht3, ht4, hbb⟩ := hI
  have hr0 : q_ir (q_r f x 0) so := Eq.trans (hB.2.2.r hx (by rw [kx]; rfl)) hr0
  have hr1 : q_ir (q_r f x 1) rd := Eq.trans (hB.2.2.r hx (by rw [kx]; rfl)) hr1
  have hr2 : q_ir (q_r f x 2) scr := Eq.trans (hB.2.2.r hx (by rw [kx]; rfl)) hr2
  have hr3 : q_ir (q_r f x 3) fc := Eq.trans (hB.2.2.r hx (by rw [kx]; rfl)) hr3
  have hr4 : q_ir (q_r f x 4) hist := Eq.trans (hB.2.2.r hx (by rw [kx]; rfl)) hr4
  have hr5 : q_ir (q_r f x 5) rep := Eq.trans (hB.2.2.r hx (by rw [kx]; rfl)) hr5
  have hr6 : q_ir (q_r f x 6) now := Eq.trans (hB.2.2.r hx (by rw [kx]; rfl)) hr6
  have hr7 : q_ir (q_r f x 7) dr := Eq.trans (hB.2.2.r hx (by rw [kx]; rfl)) hr7
  have hr8 : q_ir (q_r f x 8) sv := Eq.trans (hB.2.2.r hx (by rw [kx]; rfl)) hr8
  have hr9 : q_ir (q_r f fc 0) tr := Eq.trans (hB.2.2.r hfc (by rw [kfc]; rfl)) hr9
  have hr10 : q_ir (q_r f so 0) ba := Eq.trans (hB.2.2.r hso (by rw [kso]; rfl)) hr10
  have hr11 : q_ir (q_r f dr 0) nds := Eq.trans (hB.2.2.r hdr (by rw [kdr]; rfl)) hr11
  have hr12 : q_ir (q_r f mo 1) bu := Eq.trans (hB.2.2.r hmo (by rw [kmo]; rfl)) hr12
  have hr13 : q_ir (q_r f mo 13) sr := Eq.trans (hB.2.2.r hmo (by rw [kmo]; rfl)) hr13
  have hr14 : q_ir (q_r f mo 14) sd := Eq.trans (hB.2.2.r hmo (by rw [kmo]; rfl)) hr14
  have hr15 : q_ir (q_r f mo 15) as := Eq.trans (hB.2.2.r hmo (by rw [kmo]; rfl)) hr15
  have hr16 : q_ir (q_r f mo 16) aw := Eq.trans (hB.2.2.r hmo (by rw [kmo]; rfl)) hr16
  have hr17 : q_ir (q_r f mo 17) pa := Eq.trans (hB.2.2.r hmo (by rw [kmo]; rfl)) hr17
  have hr18 : q_ir (q_r f mo 18) nm := Eq.trans (hB.2.2.r hmo (by rw [kmo]; rfl)) hr18
  have hr19 : q_ir (q_r f mo 19) snm := Eq.trans (hB.2.2.r hmo (by rw [kmo]; rfl)) hr19
  have hr20 : q_ir (q_r f mo 20) anm := Eq.trans (hB.2.2.r hmo (by rw [kmo]; rfl)) hr20
  have hr21 : q_ir (q_r f mo 24) hp := Eq.trans (hB.2.2.r hmo (by rw [kmo]; rfl)) hr21
  have hr22 : q_ir (q_r f mo 25) dy := Eq.trans (hB.2.2.r hmo (by rw [kmo]; rfl)) hr22
  have hr23 : q_ir (q_r f mo 29) cs := Eq.trans (hB.2.2.r hmo (by rw [kmo]; rfl)) hr23
  have hr24 : q_ir (q_r f mo 30) c1 := Eq.trans (hB.2.2.r hmo (by rw [kmo]; rfl)) hr24
  have hr25 : q_ir (q_r f mo 31) c2 := Eq.trans (hB.2.2.r hmo (by rw [kmo]; rfl)) hr25
  have hr26 : q_ir (q_r f mo 32) c3 := Eq.trans (hB.2.2.r hmo (by rw [kmo]; rfl)) hr26
  have hr27 : q_ir (q_r f mo 33) bg := Eq.trans (hB.2.2.r hmo (by rw [kmo]; rfl)) hr27
  have hr28 : q_ir (q_r f mo 34) lp := Eq.trans (hB.2.2.r hmo (by rw [kmo]; rfl)) hr28
  have hr29 : q_ir (q_r f mo 38) rp := Eq.trans (hB.2.2.r hmo (by rw [kmo]; rfl)) hr29
  have hij : tk_ij K L f nds := tk_ij_tr hij (fun i9 => hB.2.2.r hnds (by rw [knds]; rfl))
  obtain ⟨x1, ex1⟩ : ∃ zz, q_is (q_z f sr 3) zz := ⟨_, q_isr _⟩
  obtain ⟨lx1, ux1⟩ : 0 ≤ x1 ∧ x1 ≤ 9999 := q_isb ex1 ⟨(hgr 3 (by decide)).1, ht3⟩
  obtain ⟨x2, ex2⟩ : ∃ zz, q_is (q_z f sr 4) zz := ⟨_, q_isr _⟩
  obtain ⟨lx2, ux2⟩ : 0 ≤ x2 ∧ x2 ≤ 60 := q_isb ex2 ⟨(hgr 4 (by decide)).1, ht4⟩
  refine q_ald_n cx dL_law_438 rfl (lv_at hl 4 rfl) ?_
  refine q_ald_n cx dL_law_439 rfl (lv_at hl 5 rfl) ?_
  refine lv_iload cx.1 cx.2.1 dL_law_440 (lv_at hl 0 rfl) ?_
  refine q_iconst cx dL_law_442 ?_
  refine q_iadd cx dL_law_443 ?_
  refine va_sld cx.1 cx.2.1 hXs hbl hbA hB.1.2.2.2 (q_in (by omega) (by omega) (by omega)) dL_law_444 ?_
  obtain ⟨a3, ra3, ea3⟩ : ∃ z : Int, q_R z ∧ xs (q_i (ii + 1)).toNatClampNeg = q_i z := ⟨_, q_rng _, (q_of _).symm⟩
  rw [ea3]
  refine q_ald_n cx dL_law_445 rfl (lv_at hl 5 rfl) ?_
  refine lv_iload cx.1 cx.2.1 dL_law_446 (lv_at hl 0 rfl) ?_
  refine q_iconst cx dL_law_448 ?_
  refine q_iadd cx dL_law_449 ?_
  refine va_sld cx.1 cx.2.1 hXs hbl hbA hB.1.2.2.2 (q_in (by omega) (by omega) (by omega)) dL_law_450 ?_
  obtain ⟨a4, ra4, ea4⟩ : ∃ z : Int, q_R z ∧ xs (q_i (ii + 2)).toNatClampNeg = q_i z := ⟨_, q_rng _, (q_of _).symm⟩
  rw [ea4]
  refine q_ald_n cx dL_law_451 rfl (lv_at hl 2 rfl) ?_
  refine q_cWS (As := [.ref x, .int (q_i a3), .int (q_i a4), .ref out]) (rest := []) cx hX hB (fun q h => hLA q h) (fun q h1 h2 => absurd h1 (Nat.not_le_of_lt h2)) hN (w_node l g ad hN hB.2.1 hfl x hx kx a3 (by omega) (by omega) a4 (by omega) (by omega) out hout kout so hso kso rd hrd krd scr hscr kscr fc hfc kfc hist hhist khist rep hrep krep now hnow know dr hdr kdr sv hsv ksv tr htr ktr hr0 hr1 hr2 hr3 hr4 hr5 hr6 hr7 hr8 hr9) q_cL_149 q_dL_node ⟨by decide, by show cells + 2 ≤ 601024; omega, by show slots + 12 ≤ 7293034; omega⟩ rfl rfl hl.1 rfl (Nat.le_of_ble_eq_true rfl) dL_law_452 (fun v9 H locs f5 h7 hF hB => ?_)
  obtain ⟨y6, rfl, ry6, h7⟩ := h7
  refine W.eq (g2 := F0 m 455 ls [.int (q_i y6)]) rfl ?_
  obtain ⟨ly6, uy6⟩ := h7
  have z8 : q_is (q_z f5 so 1) tn := Eq.trans (hF.z hso (by rw [kso]; rfl)) hn0
  have z9 : q_is (q_z f5 mo 2) tn := Eq.trans (hF.z hmo (by rw [kmo]; rfl)) hn1
  have z10 : q_is (q_z f5 sr 3) x1 := Eq.trans (hF.z hsr (by rw [ksr]; rfl)) ex1
  have z11 : q_is (q_z f5 sr 4) x2 := Eq.trans (hF.z hsr (by rw [ksr]; rfl)) ex2
  have z12 : q_ir (q_r f5 x 0) so := Eq.trans (hF.r hx (by rw [kx]; rfl)) hr0
  have z13 : q_ir (q_r f5 x 1) rd := Eq.trans (hF.r hx (by rw [kx]; rfl)) hr1
  have z14 : q_ir (q_r f5 x 2) scr := Eq.trans (hF.r hx (by rw [kx]; rfl)) hr2
  have z15 : q_ir (q_r f5 x 3) fc := Eq.trans (hF.r hx (by rw [kx]; rfl)) hr3
  have z16 : q_ir (q_r f5 x 4) hist := Eq.trans (hF.r hx (by rw [kx]; rfl)) hr4
  have z17 : q_ir (q_r f5 x 5) rep := Eq.trans (hF.r hx (by rw [kx]; rfl)) hr5
  have z18 : q_ir (q_r f5 x 6) now := Eq.trans (hF.r hx (by rw [kx]; rfl)) hr6
  have z19 : q_ir (q_r f5 x 7) dr := Eq.trans (hF.r hx (by rw [kx]; rfl)) hr7
  have z20 : q_ir (q_r f5 x 8) sv := Eq.trans (hF.r hx (by rw [kx]; rfl)) hr8
  have z21 : q_ir (q_r f5 fc 0) tr := Eq.trans (hF.r hfc (by rw [kfc]; rfl)) hr9
  have z22 : q_ir (q_r f5 so 0) ba := Eq.trans (hF.r hso (by rw [kso]; rfl)) hr10
  have z23 : q_ir (q_r f5 dr 0) nds := Eq.trans (hF.r hdr (by rw [kdr]; rfl)) hr11
  have z24 : q_ir (q_r f5 mo 1) bu := Eq.trans (hF.r hmo (by rw [kmo]; rfl)) hr12
  have z25 : q_ir (q_r f5 mo 13) sr := Eq.trans (hF.r hmo (by rw [kmo]; rfl)) hr13
  have z26 : q_ir (q_r f5 mo 14) sd := Eq.trans (hF.r hmo (by rw [kmo]; rfl)) hr14
  have z27 : q_ir (q_r f5 mo 15) as := Eq.trans (hF.r hmo (by rw [kmo]; rfl)) hr15
  have z28 : q_ir (q_r f5 mo 16) aw := Eq.trans (hF.r hmo (by rw [kmo]; rfl)) hr16
  have z29 : q_ir (q_r f5 mo 17) pa := Eq.trans (hF.r hmo (by rw [kmo]; rfl)) hr17
  have z30 : q_ir (q_r f5 mo 18) nm := Eq.trans (hF.r hmo (by rw [kmo]; rfl)) hr18
  have z31 : q_ir (q_r f5 mo 19) snm := Eq.trans (hF.r hmo (by rw [kmo]; rfl)) hr19
  have z32 : q_ir (q_r f5 mo 20) anm := Eq.trans (hF.r hmo (by rw [kmo]; rfl)) hr20
  have z33 : q_ir (q_r f5 mo 24) hp := Eq.trans (hF.r hmo (by rw [kmo]; rfl)) hr21
  have z34 : q_ir (q_r f5 mo 25) dy := Eq.trans (hF.r hmo (by rw [kmo]; rfl)) hr22
  have z35 : q_ir (q_r f5 mo 29) cs := Eq.trans (hF.r hmo (by rw [kmo]; rfl)) hr23
  have z36 : q_ir (q_r f5 mo 30) c1 := Eq.trans (hF.r hmo (by rw [kmo]; rfl)) hr24
  have z37 : q_ir (q_r f5 mo 31) c2 := Eq.trans (hF.r hmo (by rw [kmo]; rfl)) hr25
  have z38 : q_ir (q_r f5 mo 32) c3 := Eq.trans (hF.r hmo (by rw [kmo]; rfl)) hr26
  have z39 : q_ir (q_r f5 mo 33) bg := Eq.trans (hF.r hmo (by rw [kmo]; rfl)) hr27
  have z40 : q_ir (q_r f5 mo 34) lp := Eq.trans (hF.r hmo (by rw [kmo]; rfl)) hr28
  have z41 : q_ir (q_r f5 mo 38) rp := Eq.trans (hF.r hmo (by rw [kmo]; rfl)) hr29
  have g42 : q_gr f5 sr := q_gr_fr hgr (fun i9 _ => hF.z hsr (by rw [ksr]; rfl))
  have g43 : q_pk f5 mo pa := q_pk_tr hpk (hF.z hmo (by rw [kmo]; rfl)) (fun i9 => hF.z hpa (by rw [kpa]; rfl))
  have g44 : q_sv f5 mo sd := q_sv_tr hsd9 (hF.z hmo (by rw [kmo]; rfl)) (fun i9 => hF.z hsd (by rw [ksd]; rfl))
  have g45 : tk_bb f5 bu ba tn := tk_bb_tr hbb (fun i9 => hF.z hbu (by rw [kbu]; rfl)) (fun i9 => hF.z hba (by rw [kba]; rfl))
  have g46 : tk_ij K L f5 nds := tk_ij_tr hij (fun i9 => hF.r hnds (by rw [knds]; rfl))
  refine lv_istore (lv' := [(6, .int (q_i y6)), (5, .int (q_i ii)), (4, .ref outD), (3, .ref out), (2, .ref mo), (1, .ref x), (0, .ref b)]) cx.1 cx.2.1 dL_law_455 hl (by decide) rfl (fun ls hl => ?_)
  refine q_ald_n cx dL_law_457 rfl (lv_at hl 4 rfl) ?_
  refine q_ald_n cx dL_law_458 rfl (lv_at hl 6 rfl) ?_
  refine lv_iload cx.1 cx.2.1 dL_law_459 (lv_at hl 1 rfl) ?_
  refine q_iconst cx dL_law_461 ?_
  refine q_iadd cx dL_law_462 ?_
  refine va_sld cx.1 cx.2.1 hXs hbl hbA hB.1.2.2.2 (q_in (by omega) (by omega) (by omega)) dL_law_463 ?_
  rw [ea3]
  refine q_ald_n cx dL_law_464 rfl (lv_at hl 6 rfl) ?_
  refine lv_iload cx.1 cx.2.1 dL_law_465 (lv_at hl 1 rfl) ?_
  refine q_iconst cx dL_law_467 ?_
  refine q_iadd cx dL_law_468 ?_
  refine va_sld cx.1 cx.2.1 hXs hbl hbA hB.1.2.2.2 (q_in (by omega) (by omega) (by omega)) dL_law_469 ?_
  rw [ea4]
  refine q_cVi (As := [.int (q_i a3), .int (q_i a4)]) (rest := []) cx hB (fun q h => hLA q h) hN hmo kmo (by decide) rfl (r_node l g hN hB.2.1 mo hmo kmo a3 (by omega) (by omega) a4 (by omega) (by omega) sr hsr ksr x1 (by omega) (by omega) x2 (by omega) (by omega) z10 z11 z25 g42) q_cL_152 q_dX12_node ⟨by decide, by show cells + 2 ≤ 601024; omega, by show slots + 12 ≤ 7293034; omega⟩ rfl rfl hl.1 rfl (Nat.le_of_ble_eq_true rfl) dL_law_470 (fun y48 H locs f47 ry48 h49 hF hB => ?_)
  have z50 : q_is (q_z f47 so 1) tn := Eq.trans (hF.z hso (by rw [kso]; rfl)) z8
  have z51 : q_is (q_z f47 mo 2) tn := Eq.trans (hF.z hmo (by rw [kmo]; rfl)) z9
  have z52 : q_is (q_z f47 sr 3) x1 := Eq.trans (hF.z hsr (by rw [ksr]; rfl)) z10
  have z53 : q_is (q_z f47 sr 4) x2 := Eq.trans (hF.z hsr (by rw [ksr]; rfl)) z11
  have z54 : q_ir (q_r f47 x 0) so := Eq.trans (hF.r hx (by rw [kx]; rfl)) z12
  have z55 : q_ir (q_r f47 x 1) rd := Eq.trans (hF.r hx (by rw [kx]; rfl)) z13
  have z56 : q_ir (q_r f47 x 2) scr := Eq.trans (hF.r hx (by rw [kx]; rfl)) z14
  have z57 : q_ir (q_r f47 x 3) fc := Eq.trans (hF.r hx (by rw [kx]; rfl)) z15
  have z58 : q_ir (q_r f47 x 4) hist := Eq.trans (hF.r hx (by rw [kx]; rfl)) z16
  have z59 : q_ir (q_r f47 x 5) rep := Eq.trans (hF.r hx (by rw [kx]; rfl)) z17
  have z60 : q_ir (q_r f47 x 6) now := Eq.trans (hF.r hx (by rw [kx]; rfl)) z18
  have z61 : q_ir (q_r f47 x 7) dr := Eq.trans (hF.r hx (by rw [kx]; rfl)) z19
  have z62 : q_ir (q_r f47 x 8) sv := Eq.trans (hF.r hx (by rw [kx]; rfl)) z20
  have z63 : q_ir (q_r f47 fc 0) tr := Eq.trans (hF.r hfc (by rw [kfc]; rfl)) z21
  have z64 : q_ir (q_r f47 so 0) ba := Eq.trans (hF.r hso (by rw [kso]; rfl)) z22
  have z65 : q_ir (q_r f47 dr 0) nds := Eq.trans (hF.r hdr (by rw [kdr]; rfl)) z23
  have z66 : q_ir (q_r f47 mo 1) bu := Eq.trans (hF.r hmo (by rw [kmo]; rfl)) z24
  have z67 : q_ir (q_r f47 mo 13) sr := Eq.trans (hF.r hmo (by rw [kmo]; rfl)) z25
  have z68 : q_ir (q_r f47 mo 14) sd := Eq.trans (hF.r hmo (by rw [kmo]; rfl)) z26
  have z69 : q_ir (q_r f47 mo 15) as := Eq.trans (hF.r hmo (by rw [kmo]; rfl)) z27
  have z70 : q_ir (q_r f47 mo 16) aw := Eq.trans (hF.r hmo (by rw [kmo]; rfl)) z28
  have z71 : q_ir (q_r f47 mo 17) pa := Eq.trans (hF.r hmo (by rw [kmo]; rfl)) z29
  have z72 : q_ir (q_r f47 mo 18) nm := Eq.trans (hF.r hmo (by rw [kmo]; rfl)) z30
  have z73 : q_ir (q_r f47 mo 19) snm := Eq.trans (hF.r hmo (by rw [kmo]; rfl)) z31
  have z74 : q_ir (q_r f47 mo 20) anm := Eq.trans (hF.r hmo (by rw [kmo]; rfl)) z32
  have z75 : q_ir (q_r f47 mo 24) hp := Eq.trans (hF.r hmo (by rw [kmo]; rfl)) z33
  have z76 : q_ir (q_r f47 mo 25) dy := Eq.trans (hF.r hmo (by rw [kmo]; rfl)) z34
  have z77 : q_ir (q_r f47 mo 29) cs := Eq.trans (hF.r hmo (by rw [kmo]; rfl)) z35
  have z78 : q_ir (q_r f47 mo 30) c1 := Eq.trans (hF.r hmo (by rw [kmo]; rfl)) z36
  have z79 : q_ir (q_r f47 mo 31) c2 := Eq.trans (hF.r hmo (by rw [kmo]; rfl)) z37
  have z80 : q_ir (q_r f47 mo 32) c3 := Eq.trans (hF.r hmo (by rw [kmo]; rfl)) z38
  have z81 : q_ir (q_r f47 mo 33) bg := Eq.trans (hF.r hmo (by rw [kmo]; rfl)) z39
  have z82 : q_ir (q_r f47 mo 34) lp := Eq.trans (hF.r hmo (by rw [kmo]; rfl)) z40
  have z83 : q_ir (q_r f47 mo 38) rp := Eq.trans (hF.r hmo (by rw [kmo]; rfl)) z41
  have g84 : q_gr f47 sr := q_gr_fr g42 (fun i9 _ => hF.z hsr (by rw [ksr]; rfl))
  have g85 : q_pk f47 mo pa := q_pk_tr g43 (hF.z hmo (by rw [kmo]; rfl)) (fun i9 => hF.z hpa (by rw [kpa]; rfl))
  have g86 : q_sv f47 mo sd := q_sv_tr g44 (hF.z hmo (by rw [kmo]; rfl)) (fun i9 => hF.z hsd (by rw [ksd]; rfl))
  have g87 : tk_bb f47 bu ba tn := tk_bb_tr g45 (fun i9 => hF.z hbu (by rw [kbu]; rfl)) (fun i9 => hF.z hba (by rw [kba]; rfl))
  have g88 : tk_ij K L f47 nds := tk_ij_tr g46 (fun i9 => hF.r hnds (by rw [knds]; rfl))
  refine lv_istore (lv' := [(7, .int (q_i y48)), (6, .int (q_i y6)), (5, .int (q_i ii)), (4, .ref outD), (3, .ref out), (2, .ref mo), (1, .ref x), (0, .ref b)]) cx.1 cx.2.1 dL_law_473 hl (by decide) rfl (fun ls hl => ?_)
  refine lv_goto (tgt := 1521) cx.1 cx.2.1 dL_law_475 (by decide) ?_
  refine W.widen (k := cells + 6) (n := slots + 36) (by omega) (by omega) ?_
  exact kk f47 H locs ls tn hB ⟨⟨z50, (Eq.trans z51 (by omega)), by omega, by omega⟩, g84, g85, g86, q_isu z52 (by omega), q_isu z53 (by omega), tk_bb_le g87 (by omega)⟩ (lv_sub hl [2, 3, 4, 5, 6, 7] rfl)
set_option maxHeartbeats 4000000 in
set_option maxRecDepth 100000 in
theorem law_c478 {p : Program} {l : Launch} {e : Env} {s : State} {m : MethodId} {below : List Frame} {meth : Method} {c : Code} {b N9 : Nat} {xs : Nat → Int32} (hfl : l.stackTraces = false) (hN9 : N9 ≤ 3072) (C0 : lw_At p s m meth c b N9 xs) (cx : CallFix p m c cL_law 10 s #[Value.ref b] q_al RL) {g : q_G} {ad : Nat → Nat} {K : Nat → Nat} {L : List Nat} (hN : L.Nodup) (hLA : ∀ q, q ∈ L → s.heap.size ≤ q) (hX : q_X ad (fun q => q ∈ L) s) {f0 : Nat → va_E} {x : Nat} (hx : x ∈ L) (kx : K x = 11) {so : Nat} (hso : so ∈ L) (kso : K so = 8) {rd : Nat} (hrd : rd ∈ L) (krd : K rd = 9) {scr : Nat} (hscr : scr ∈ L) (kscr : K scr = 7) {fc : Nat} (hfc : fc ∈ L) (kfc : K fc = 1) {hist : Nat} (hhist : hist ∈ L) (khist : K hist = 2) {rep : Nat} (hrep : rep ∈ L) (krep : K rep = 6) {now : Nat} (hnow : now ∈ L) (know : K now = 10) {dr : Nat} (hdr : dr ∈ L) (kdr : K dr = 13) {sv : Nat} (hsv : sv ∈ L) (ksv : K sv = 14) {tr : Nat} (htr : tr ∈ L) (ktr : K tr = 15) {ba : Nat} (hba : ba ∈ L) (kba : K ba = 142) {nds : Nat} (hnds : nds ∈ L) (knds : K nds = 111) {mo : Nat} (hmo : mo ∈ L) (kmo : K mo = 12) {bu : Nat} (hbu : bu ∈ L) (kbu : K bu = 150) {sr : Nat} (hsr : sr ∈ L) (ksr : K sr = 151) {sd : Nat} (hsd : sd ∈ L) (ksd : K sd = 152) {as : Nat} (has : as ∈ L) (kas : K as = 153) {aw : Nat} (haw : aw ∈ L) (kaw : K aw = 154) {pa : Nat} (hpa : pa ∈ L) (kpa : K pa = 155) {nm : Nat} (hnm : nm ∈ L) (knm : K nm = 156) {snm : Nat} (hsnm : snm ∈ L) (ksnm : K snm = 157) {anm : Nat} (hanm : anm ∈ L) (kanm : K anm = 158) {hp : Nat} (hhp : hp ∈ L) (khp : K hp = 159) {dy : Nat} (hdy : dy ∈ L) (kdy : K dy = 160) {cs : Nat} (hcs : cs ∈ L) (kcs : K cs = 161) {c1 : Nat} (hc1 : c1 ∈ L) (kc1 : K c1 = 162) {c2 : Nat} (hc2 : c2 ∈ L) (kc2 : K c2 = 163) {c3 : Nat} (hc3 : c3 ∈ L) (kc3 : K c3 = 164) {bg : Nat} (hbg : bg ∈ L) (kbg : K bg = 165) {lp : Nat} (hlp : lp ∈ L) (klp : K lp = 166) {rp : Nat} (hrp : rp ∈ L) (krp : K rp = 167) {out : Nat} (hout : out ∈ L) (kout : K out = 168) {outD : Nat} (houtD : outD ∈ L) (koutD : K outD = 169) (hr0 : q_ir (q_r f0 x 0) so) (hr1 : q_ir (q_r f0 x 1) rd) (hr2 : q_ir (q_r f0 x 2) scr) (hr3 : q_ir (q_r f0 x 3) fc) (hr4 : q_ir (q_r f0 x 4) hist) (hr5 : q_ir (q_r f0 x 5) rep) (hr6 : q_ir (q_r f0 x 6) now) (hr7 : q_ir (q_r f0 x 7) dr) (hr8 : q_ir (q_r f0 x 8) sv) (hr9 : q_ir (q_r f0 fc 0) tr) (hr10 : q_ir (q_r f0 so 0) ba) (hr11 : q_ir (q_r f0 dr 0) nds) (hr12 : q_ir (q_r f0 mo 1) bu) (hr13 : q_ir (q_r f0 mo 13) sr) (hr14 : q_ir (q_r f0 mo 14) sd) (hr15 : q_ir (q_r f0 mo 15) as) (hr16 : q_ir (q_r f0 mo 16) aw) (hr17 : q_ir (q_r f0 mo 17) pa) (hr18 : q_ir (q_r f0 mo 18) nm) (hr19 : q_ir (q_r f0 mo 19) snm) (hr20 : q_ir (q_r f0 mo 20) anm) (hr21 : q_ir (q_r f0 mo 24) hp) (hr22 : q_ir (q_r f0 mo 25) dy) (hr23 : q_ir (q_r f0 mo 29) cs) (hr24 : q_ir (q_r f0 mo 30) c1) (hr25 : q_ir (q_r f0 mo 31) c2) (hr26 : q_ir (q_r f0 mo 32) c3) (hr27 : q_ir (q_r f0 mo 33) bg) (hr28 : q_ir (q_r f0 mo 34) lp) (hr29 : q_ir (q_r f0 mo 38) rp) (hij : tk_ij K L f0 nds) {f : Nat → va_E} {H : Heap} {locs : List Loc} {ls : Array Slot} {cells slots : Nat} {ii tn : Int} (hB : q_B g K L (fun q => s.heap.size ≤ q) [(0, 0, 6), (2, 1, 2), (3, 0, 4), (4, 0, 7), (5, 0, 9), (6, 1, 1), (7, 1, 4), (8, 1, 9), (9, 0, 2), (10, 3, 15), (11, 9, 9), (12, 0, 0), (12, 2, 12), (12, 21, 23), (12, 26, 28), (12, 35, 37), (12, 39, 40), (13, 3, 15), (14, 3, 15), (15, 3, 15), (16, 3, 15), (17, 0, 9), (18, 0, 9), (19, 0, 9), (20, 0, 9), (21, 0, 4), (22, 0, 4), (23, 0, 4), (24, 0, 4), (25, 0, 7), (26, 0, 7), (27, 0, 7), (28, 0, 7), (142, 0, 599), (143, 0, 599), (150, 0, 599), (151, 0, 657), (152, 0, 657), (153, 0, 657), (154, 0, 657), (155, 0, 3947), (156, 0, 9), (157, 0, 9), (158, 0, 9), (159, 0, 9), (160, 0, 9), (161, 0, 59), (162, 0, 58), (163, 0, 58), (164, 0, 58), (165, 0, 1), (166, 0, 1), (167, 0, 479), (168, 0, 0), (169, 0, 0)] f0 f s H locs) (hI : q_Iv4 f so mo sr pa sd bu ba tn) (hl : lv_has ls 10 [(5, .int (q_i ii)), (4, .ref outD), (3, .ref out), (2, .ref mo), (1, .ref x), (0, .ref b)]) (hi0 : 0 ≤ ii) (hi6 : ii + 6 ≤ N9) (hce : cells + 6 ≤ 10000) (hse : slots + 36 ≤ 100000) (kk : ∀ (f1 : Nat → va_E) (H1 : Heap) (locs1 : List Loc) (ls1 : Array Slot) (tn1 : Int), q_B g K L (fun q => s.heap.size ≤ q) [(0, 0, 6), (2, 1, 2), (3, 0, 4), (4, 0, 7), (5, 0, 9), (6, 1, 1), (7, 1, 4), (8, 1, 9), (9, 0, 2), (10, 3, 15), (11, 9, 9), (12, 0, 0), (12, 2, 12), (12, 21, 23), (12, 26, 28), (12, 35, 37), (12, 39, 40), (13, 3, 15), (14, 3, 15), (15, 3, 15), (16, 3, 15), (17, 0, 9), (18, 0, 9), (19, 0, 9), (20, 0, 9), (21, 0, 4), (22, 0, 4), (23, 0, 4), (24, 0, 4), (25, 0, 7), (26, 0, 7), (27, 0, 7), (28, 0, 7), (142, 0, 599), (143, 0, 599), (150, 0, 599), (151, 0, 657), (152, 0, 657), (153, 0, 657), (154, 0, 657), (155, 0, 3947), (156, 0, 9), (157, 0, 9), (158, 0, 9), (159, 0, 9), (160, 0, 9), (161, 0, 59), (162, 0, 58), (163, 0, 58), (164, 0, 58), (165, 0, 1), (166, 0, 1), (167, 0, 479), (168, 0, 0), (169, 0, 0)] f0 f1 s H1 locs1 → q_Iv4 f1 so mo sr pa sd bu ba tn1 → lv_has ls1 10 [(5, .int (q_i ii)), (4, .ref outD), (3, .ref out), (2, .ref mo), (1, .ref x), (0, .ref b)] → W p l e room_1 s m #[Value.ref b] below meth c H1 locs1 (cells + 6) (slots + 36) (lw_Z below #[Value.ref b] s) (F0 m 1521 ls1 [])) : W p l e room_1 s m #[Value.ref b] below meth c H locs (cells) (slots) (lw_Z below #[Value.ref b] s) (F0 m 478 ls []) := by
  have hXs := C0.2.2.2.2.2.2.1
  have hbl := C0.2.2.2.2.2.2.2.1
  have hbA := q_bA hbl
  obtain ⟨⟨hn0, hn1, ltn, utn⟩, hgr, hpk, hsd9, ht3, ht4, hbb⟩ := hI
  have hr0 : q_ir (q_r f x 0) so := Eq.trans (hB.2.2.r hx (by rw [kx]; rfl)) hr0
  have hr1 : q_ir (q_r f x 1) rd := Eq.trans (hB.2.2.r hx (by rw [kx]; rfl)) hr1
  have hr2 : q_ir (q_r f x 2) scr := Eq.trans (hB.2.2.r hx (by rw [kx]; rfl)) hr2
  have hr3 : q_ir (q_r f x 3) fc := Eq.trans (hB.2.2.r hx (by rw [kx]; rfl)) hr3
  have hr4 : q_ir (q_r f x 4) hist := Eq.trans (hB.2.2.r hx (by rw [kx]; rfl)) hr4
  have hr5 : q_ir (q_r f x 5) rep := Eq.trans (hB.2.2.r hx (by rw [kx]; rfl)) hr5
  have hr6 : q_ir (q_r f x 6) now := Eq.trans (hB.2.2.r hx (by rw [kx]; rfl)) hr6
  have hr7 : q_ir (q_r f x 7) dr := Eq.trans (hB.2.2.r hx (by rw [kx]; rfl)) hr7
  have hr8 : q_ir (q_r f x 8) sv := Eq.trans (hB.2.2.r hx (by rw [kx]; rfl)) hr8
  have hr9 : q_ir (q_r f fc 0) tr := Eq.trans (hB.2.2.r hfc (by rw [kfc]; rfl)) hr9
  have hr10 : q_ir (q_r f so 0) ba := Eq.trans (hB.2.2.r hso (by rw [kso]; rfl)) hr10
  have hr11 : q_ir (q_r f dr 0) nds := Eq.trans (hB.2.2.r hdr (by rw [kdr]; rfl)) hr11
  have hr12 : q_ir (q_r f mo 1) bu := Eq.trans (hB.2.2.r hmo (by rw [kmo]; rfl)) hr12
  have hr13 : q_ir (q_r f mo 13) sr := Eq.trans (hB.2.2.r hmo (by rw [kmo]; rfl)) hr13
  have hr14 : q_ir (q_r f mo 14) sd := Eq.trans (hB.2.2.r hmo (by rw [kmo]; rfl)) hr14
  have hr15 : q_ir (q_r f mo 15) as := Eq.trans (hB.2.2.r hmo (by rw [kmo]; rfl)) hr15
  have hr16 : q_ir (q_r f mo 16) aw := Eq.trans (hB.2.2.r hmo (by rw [kmo]; rfl)) hr16
  have hr17 : q_ir (q_r f mo 17) pa := Eq.trans (hB.2.2.r hmo (by rw [kmo]; rfl)) hr17
  have hr18 : q_ir (q_r f mo 18) nm := Eq.trans (hB.2.2.r hmo (by rw [kmo]; rfl)) hr18
  have hr19 : q_ir (q_r f mo 19) snm := Eq.trans (hB.2.2.r hmo (by rw [kmo]; rfl)) hr19
  have hr20 : q_ir (q_r f mo 20) anm := Eq.trans (hB.2.2.r hmo (by rw [kmo]; rfl)) hr20
  have hr21 : q_ir (q_r f mo 24) hp := Eq.trans (hB.2.2.r hmo (by rw [kmo]; rfl)) hr21
  have hr22 : q_ir (q_r f mo 25) dy := Eq.trans (hB.2.2.r hmo (by rw [kmo]; rfl)) hr22
  have hr23 : q_ir (q_r f mo 29) cs := Eq.trans (hB.2.2.r hmo (by rw [kmo]; rfl)) hr23
  have hr24 : q_ir (q_r f mo 30) c1 := Eq.trans (hB.2.2.r hmo (by rw [kmo]; rfl)) hr24
  have hr25 : q_ir (q_r f mo 31) c2 := Eq.trans (hB.2.2.r hmo (by rw [kmo]; rfl)) hr25
  have hr26 : q_ir (q_r f mo 32) c3 := Eq.trans (hB.2.2.r hmo (by rw [kmo]; rfl)) hr26
  have hr27 : q_ir (q_r f mo 33) bg := Eq.trans (hB.2.2.r hmo (by rw [kmo]; rfl)) hr27
  have hr28 : q_ir (q_r f mo 34) lp := Eq.trans (hB.2.2.r hmo (by rw [kmo]; rfl)) hr28
  have hr29 : q_ir (q_r f mo 38) rp := Eq.trans (hB.2.2.r hmo (by rw [kmo]; rfl)) hr29
  have hij : tk_ij K L f nds := tk_ij_tr hij (fun i9 => hB.2.2.r hnds (by rw [knds]; rfl))
  obtain ⟨x1, ex1⟩ : ∃ zz, q_is (q_z f sr 3) zz := ⟨_, q_isr _⟩
  obtain ⟨lx1, ux1⟩ : 0 ≤ x1 ∧ x1 ≤ 9999 := q_isb ex1 ⟨(hgr 3 (by decide)).1, ht3⟩
  obtain ⟨x2, ex2⟩ : ∃ zz, q_is (q_z f sr 4) zz := ⟨_, q_isr _⟩
  obtain ⟨lx2, ux2⟩ : 0 ≤ x2 ∧ x2 ≤ 60 := q_isb ex2 ⟨(hgr 4 (by decide)).1, ht4⟩
  refine q_ald_n cx dL_law_478 rfl (lv_at hl 4 rfl) ?_
  refine q_ald_n cx dL_law_479 rfl (lv_at hl 5 rfl) ?_
  refine lv_iload cx.1 cx.2.1 dL_law_480 (lv_at hl 0 rfl) ?_
  refine q_iconst cx dL_law_482 ?_
  refine q_iadd cx dL_law_483 ?_
  refine va_sld cx.1 cx.2.1 hXs hbl hbA hB.1.2.2.2 (q_in (by omega) (by omega) (by omega)) dL_law_484 ?_
  obtain ⟨a3, ra3, ea3⟩ : ∃ z : Int, q_R z ∧ xs (q_i (ii + 1)).toNatClampNeg = q_i z := ⟨_, q_rng _, (q_of _).symm⟩
  rw [ea3]
  refine q_ald_n cx dL_law_485 rfl (lv_at hl 5 rfl) ?_
  refine lv_iload cx.1 cx.2.1 dL_law_486 (lv_at hl 0 rfl) ?_
  refine q_iconst cx dL_law_488 ?_
  refine q_iadd cx dL_law_489 ?_
  refine va_sld cx.1 cx.2.1 hXs hbl hbA hB.1.2.2.2 (q_in (by omega) (by omega) (by omega)) dL_law_490 ?_
  obtain ⟨a4, ra4, ea4⟩ : ∃ z : Int, q_R z ∧ xs (q_i (ii + 2)).toNatClampNeg = q_i z := ⟨_, q_rng _, (q_of _).symm⟩
  rw [ea4]
  refine q_ald_n cx dL_law_491 rfl (lv_at hl 2 rfl) ?_
  refine q_cWS (As := [.ref x, .int (q_i a3), .int (q_i a4), .ref out]) (rest := []) cx hX hB (fun q h => hLA q h) (fun q h1 h2 => absurd h1 (Nat.not_le_of_lt h2)) hN (w_link l g ad hN hB.2.1 hfl x hx kx a3 (by omega) (by omega) a4 (by omega) (by omega) out hout kout so hso kso rd hrd krd scr hscr kscr fc hfc kfc hist hhist khist rep hrep krep now hnow know dr hdr kdr sv hsv ksv tr htr ktr hr0 hr1 hr2 hr3 hr4 hr5 hr6 hr7 hr8 hr9) q_cL_153 q_dL_link ⟨by decide, by show cells + 1 ≤ 601024; omega, by show slots + 6 ≤ 7293034; omega⟩ rfl rfl hl.1 rfl (Nat.le_of_ble_eq_true rfl) dL_law_492 (fun v9 H locs f5 h7 hF hB => ?_)
  obtain ⟨y6, rfl, ry6, h7⟩ := h7
  refine W.eq (g2 := F0 m 495 ls [.int (q_i y6)]) rfl ?_
  obtain ⟨ly6, uy6⟩ := h7
  have z8 : q_is (q_z f5 so 1) tn := Eq.trans (hF.z hso (by rw [kso]; rfl)) hn0
  have z9 : q_is (q_z f5 mo 2) tn := Eq.trans (hF.z hmo (by rw [kmo]; rfl)) hn1
  have z10 : q_is (q_z f5 sr 3) x1 := Eq.trans (hF.z hsr (by rw [ksr]; rfl)) ex1
  have z11 : q_is (q_z f5 sr 4) x2 := Eq.trans (hF.z hsr (by rw [ksr]; rfl)) ex2
  have z12 : q_ir (q_r f5 x 0) so := Eq.trans (hF.r hx (by rw [kx]; rfl)) hr0
  have z13 : q_ir (q_r f5 x 1) rd := Eq.trans (hF.r hx (by rw [kx]; rfl)) hr1
  have z14 : q_ir (q_r f5 x 2) scr := Eq.trans (hF.r hx (by rw [kx]; rfl)) hr2
  have z15 : q_ir (q_r f5 x 3) fc := Eq.trans (hF.r hx (by rw [kx]; rfl)) hr3
  have z16 : q_ir (q_r f5 x 4) hist := Eq.trans (hF.r hx (by rw [kx]; rfl)) hr4
  have z17 : q_ir (q_r f5 x 5) rep := Eq.trans (hF.r hx (by rw [kx]; rfl)) hr5
  have z18 : q_ir (q_r f5 x 6) now := Eq.trans (hF.r hx (by rw [kx]; rfl)) hr6
  have z19 : q_ir (q_r f5 x 7) dr := Eq.trans (hF.r hx (by rw [kx]; rfl)) hr7
  have z20 : q_ir (q_r f5 x 8) sv := Eq.trans (hF.r hx (by rw [kx]; rfl)) hr8
  have z21 : q_ir (q_r f5 fc 0) tr := Eq.trans (hF.r hfc (by rw [kfc]; rfl)) hr9
  have z22 : q_ir (q_r f5 so 0) ba := Eq.trans (hF.r hso (by rw [kso]; rfl)) hr10
  have z23 : q_ir (q_r f5 dr 0) nds := Eq.trans (hF.r hdr (by rw [kdr]; rfl)) hr11
  have z24 : q_ir (q_r f5 mo 1) bu := Eq.trans (hF.r hmo (by rw [kmo]; rfl)) hr12
  have z25 : q_ir (q_r f5 mo 13) sr := Eq.trans (hF.r hmo (by rw [kmo]; rfl)) hr13
  have z26 : q_ir (q_r f5 mo 14) sd := Eq.trans (hF.r hmo (by rw [kmo]; rfl)) hr14
  have z27 : q_ir (q_r f5 mo 15) as := Eq.trans (hF.r hmo (by rw [kmo]; rfl)) hr15
  have z28 : q_ir (q_r f5 mo 16) aw := Eq.trans (hF.r hmo (by rw [kmo]; rfl)) hr16
  have z29 : q_ir (q_r f5 mo 17) pa := Eq.trans (hF.r hmo (by rw [kmo]; rfl)) hr17
  have z30 : q_ir (q_r f5 mo 18) nm := Eq.trans (hF.r hmo (by rw [kmo]; rfl)) hr18
  have z31 : q_ir (q_r f5 mo 19) snm := Eq.trans (hF.r hmo (by rw [kmo]; rfl)) hr19
  have z32 : q_ir (q_r f5 mo 20) anm := Eq.trans (hF.r hmo (by rw [kmo]; rfl)) hr20
  have z33 : q_ir (q_r f5 mo 24) hp := Eq.trans (hF.r hmo (by rw [kmo]; rfl)) hr21
  have z34 : q_ir (q_r f5 mo 25) dy := Eq.trans (hF.r hmo (by rw [kmo]; rfl)) hr22
  have z35 : q_ir (q_r f5 mo 29) cs := Eq.trans (hF.r hmo (by rw [kmo]; rfl)) hr23
  have z36 : q_ir (q_r f5 mo 30) c1 := Eq.trans (hF.r hmo (by rw [kmo]; rfl)) hr24
  have z37 : q_ir (q_r f5 mo 31) c2 := Eq.trans (hF.r hmo (by rw [kmo]; rfl)) hr25
  have z38 : q_ir (q_r f5 mo 32) c3 := Eq.trans (hF.r hmo (by rw [kmo]; rfl)) hr26
  have z39 : q_ir (q_r f5 mo 33) bg := Eq.trans (hF.r hmo (by rw [kmo]; rfl)) hr27
  have z40 : q_ir (q_r f5 mo 34) lp := Eq.trans (hF.r hmo (by rw [kmo]; rfl)) hr28
  have z41 : q_ir (q_r f5 mo 38) rp := Eq.trans (hF.r hmo (by rw [kmo]; rfl)) hr29
  have g42 : q_gr f5 sr := q_gr_fr hgr (fun i9 _ => hF.z hsr (by rw [ksr]; rfl))
  have g43 : q_pk f5 mo pa := q_pk_tr hpk (hF.z hmo (by rw [kmo]; rfl)) (fun i9 => hF.z hpa (by rw [kpa]; rfl))
  have g44 : q_sv f5 mo sd := q_sv_tr hsd9 (hF.z hmo (by rw [kmo]; rfl)) (fun i9 => hF.z hsd (by rw [ksd]; rfl))
  have g45 : tk_bb f5 bu ba tn := tk_bb_tr hbb (fun i9 => hF.z hbu (by rw [kbu]; rfl)) (fun i9 => hF.z hba (by rw [kba]; rfl))
  have g46 : tk_ij K L f5 nds := tk_ij_tr hij (fun i9 => hF.r hnds (by rw [knds]; rfl))
  refine lv_istore (lv' := [(6, .int (q_i y6)), (5, .int (q_i ii)), (4, .ref outD), (3, .ref out), (2, .ref mo), (1, .ref x), (0, .ref b)]) cx.1 cx.2.1 dL_law_495 hl (by decide) rfl (fun ls hl => ?_)
  refine q_ald_n cx dL_law_497 rfl (lv_at hl 4 rfl) ?_
  refine q_ald_n cx dL_law_498 rfl (lv_at hl 6 rfl) ?_
  refine lv_iload cx.1 cx.2.1 dL_law_499 (lv_at hl 1 rfl) ?_
  refine q_iconst cx dL_law_501 ?_
  refine q_iadd cx dL_law_502 ?_
  refine va_sld cx.1 cx.2.1 hXs hbl hbA hB.1.2.2.2 (q_in (by omega) (by omega) (by omega)) dL_law_503 ?_
  rw [ea3]
  refine q_ald_n cx dL_law_504 rfl (lv_at hl 6 rfl) ?_
  refine lv_iload cx.1 cx.2.1 dL_law_505 (lv_at hl 1 rfl) ?_
  refine q_iconst cx dL_law_507 ?_
  refine q_iadd cx dL_law_508 ?_
  refine va_sld cx.1 cx.2.1 hXs hbl hbA hB.1.2.2.2 (q_in (by omega) (by omega) (by omega)) dL_law_509 ?_
  rw [ea4]
  refine q_cVi (As := [.int (q_i a3), .int (q_i a4)]) (rest := []) cx hB (fun q h => hLA q h) hN hmo kmo (by decide) rfl (r_link l g hN hB.2.1 mo hmo kmo a3 (by omega) (by omega) a4 (by omega) (by omega) sr hsr ksr z25 g42) q_cL_155 q_dX12_link ⟨by decide, by show cells + 1 ≤ 601024; omega, by show slots + 6 ≤ 7293034; omega⟩ rfl rfl hl.1 rfl (Nat.le_of_ble_eq_true rfl) dL_law_510 (fun y48 H locs f47 ry48 h49 hF hB => ?_)
  have z50 : q_is (q_z f47 so 1) tn := Eq.trans (hF.z hso (by rw [kso]; rfl)) z8
  have z51 : q_is (q_z f47 mo 2) tn := Eq.trans (hF.z hmo (by rw [kmo]; rfl)) z9
  have z52 : q_is (q_z f47 sr 3) x1 := Eq.trans (hF.z hsr (by rw [ksr]; rfl)) z10
  have z53 : q_is (q_z f47 sr 4) x2 := Eq.trans (hF.z hsr (by rw [ksr]; rfl)) z11
  have z54 : q_ir (q_r f47 x 0) so := Eq.trans (hF.r hx (by rw [kx]; rfl)) z12
  have z55 : q_ir (q_r f47 x 1) rd := Eq.trans (hF.r hx (by rw [kx]; rfl)) z13
  have z56 : q_ir (q_r f47 x 2) scr := Eq.trans (hF.r hx (by rw [kx]; rfl)) z14
  have z57 : q_ir (q_r f47 x 3) fc := Eq.trans (hF.r hx (by rw [kx]; rfl)) z15
  have z58 : q_ir (q_r f47 x 4) hist := Eq.trans (hF.r hx (by rw [kx]; rfl)) z16
  have z59 : q_ir (q_r f47 x 5) rep := Eq.trans (hF.r hx (by rw [kx]; rfl)) z17
  have z60 : q_ir (q_r f47 x 6) now := Eq.trans (hF.r hx (by rw [kx]; rfl)) z18
  have z61 : q_ir (q_r f47 x 7) dr := Eq.trans (hF.r hx (by rw [kx]; rfl)) z19
  have z62 : q_ir (q_r f47 x 8) sv := Eq.trans (hF.r hx (by rw [kx]; rfl)) z20
  have z63 : q_ir (q_r f47 fc 0) tr := Eq.trans (hF.r hfc (by rw [kfc]; rfl)) z21
  have z64 : q_ir (q_r f47 so 0) ba := Eq.trans (hF.r hso (by rw [kso]; rfl)) z22
  have z65 : q_ir (q_r f47 dr 0) nds := Eq.trans (hF.r hdr (by rw [kdr]; rfl)) z23
  have z66 : q_ir (q_r f47 mo 1) bu := Eq.trans (hF.r hmo (by rw [kmo]; rfl)) z24
  have z67 : q_ir (q_r f47 mo 13) sr := Eq.trans (hF.r hmo (by rw [kmo]; rfl)) z25
  have z68 : q_ir (q_r f47 mo 14) sd := Eq.trans (hF.r hmo (by rw [kmo]; rfl)) z26
  have z69 : q_ir (q_r f47 mo 15) as := Eq.trans (hF.r hmo (by rw [kmo]; rfl)) z27
  have z70 : q_ir (q_r f47 mo 16) aw := Eq.trans (hF.r hmo (by rw [kmo]; rfl)) z28
  have z71 : q_ir (q_r f47 mo 17) pa := Eq.trans (hF.r hmo (by rw [kmo]; rfl)) z29
  have z72 : q_ir (q_r f47 mo 18) nm := Eq.trans (hF.r hmo (by rw [kmo]; rfl)) z30
  have z73 : q_ir (q_r f47 mo 19) snm := Eq.trans (hF.r hmo (by rw [kmo]; rfl)) z31
  have z74 : q_ir (q_r f47 mo 20) anm := Eq.trans (hF.r hmo (by rw [kmo]; rfl)) z32
  have z75 : q_ir (q_r f47 mo 24) hp := Eq.trans (hF.r hmo (by rw [kmo]; rfl)) z33
  have z76 : q_ir (q_r f47 mo 25) dy := Eq.trans (hF.r hmo (by rw [kmo]; rfl)) z34
  have z77 : q_ir (q_r f47 mo 29) cs := Eq.trans (hF.r hmo (by rw [kmo]; rfl)) z35
  have z78 : q_ir (q_r f47 mo 30) c1 := Eq.trans (hF.r hmo (by rw [kmo]; rfl)) z36
  have z79 : q_ir (q_r f47 mo 31) c2 := Eq.trans (hF.r hmo (by rw [kmo]; rfl)) z37
  have z80 : q_ir (q_r f47 mo 32) c3 := Eq.trans (hF.r hmo (by rw [kmo]; rfl)) z38
  have z81 : q_ir (q_r f47 mo 33) bg := Eq.trans (hF.r hmo (by rw [kmo]; rfl)) z39
  have z82 : q_ir (q_r f47 mo 34) lp := Eq.trans (hF.r hmo (by rw [kmo]; rfl)) z40
  have z83 : q_ir (q_r f47 mo 38) rp := Eq.trans (hF.r hmo (by rw [kmo]; rfl)) z41
  have g84 : q_gr f47 sr := q_gr_fr g42 (fun i9 _ => hF.z hsr (by rw [ksr]; rfl))
  have g85 : q_pk f47 mo pa := q_pk_tr g43 (hF.z hmo (by rw [kmo]; rfl)) (fun i9 => hF.z hpa (by rw [kpa]; rfl))
  have g86 : q_sv f47 mo sd := q_sv_tr g44 (hF.z hmo (by rw [kmo]; rfl)) (fun i9 => hF.z hsd (by rw [ksd]; rfl))
  have g87 : tk_bb f47 bu ba tn := tk_bb_tr g45 (fun i9 => hF.z hbu (by rw [kbu]; rfl)) (fun i9 => hF.z hba (by rw [kba]; rfl))
  have g88 : tk_ij K L f47 nds := tk_ij_tr g46 (fun i9 => hF.r hnds (by rw [knds]; rfl))
  refine lv_istore (lv' := [(7, .int (q_i y48)), (6, .int (q_i y6)), (5, .int (q_i ii)), (4, .ref outD), (3, .ref out), (2, .ref mo), (1, .ref x), (0, .ref b)]) cx.1 cx.2.1 dL_law_513 hl (by decide) rfl (fun ls hl => ?_)
  refine lv_goto (tgt := 1521) cx.1 cx.2.1 dL_law_515 (by decide) ?_
  refine W.widen (k := cells + 6) (n := slots + 36) (by omega) (by omega) ?_
  exact kk f47 H locs ls tn hB ⟨⟨z50, (Eq.trans z51 (by omega)), by omega, by omega⟩, g84, g85, g86, q_isu z52 (by omega), q_isu z53 (by omega), tk_bb_le g87 (by omega)⟩ (lv_sub hl [2, 3, 4, 5, 6, 7] rfl)
set_option maxHeartbeats 4000000 in
set_option maxRecDepth 100000 in
theorem law_c518 {p : Program} {l : Launch} {e : Env} {s : State} {m : MethodId} {below : List Frame} {meth : Method} {c : Code} {b N9 : Nat} {xs : Nat → Int32} (hfl : l.stackTraces = false) (hN9 : N9 ≤ 3072) (C0 : lw_At p s m meth c b N9 xs) (cx : CallFix p m c cL_law 10 s #[Value.ref b] q_al RL) {g : q_G} {ad : Nat → Nat} {K : Nat → Nat} {L : List Nat} (hN : L.Nodup) (hLA : ∀ q, q ∈ L → s.heap.size ≤ q) (hX : q_X ad (fun q => q ∈ L) s) {f0 : Nat → va_E} {x : Nat} (hx : x ∈ L) (kx : K x = 11) {so : Nat} (hso : so ∈ L) (kso : K so = 8) {rd : Nat} (hrd : rd ∈ L) (krd : K rd = 9) {scr : Nat} (hscr : scr ∈ L) (kscr : K scr = 7) {fc : Nat} (hfc : fc ∈ L) (kfc : K fc = 1) {hist : Nat} (hhist : hist ∈ L) (khist : K hist = 2) {rep : Nat} (hrep : rep ∈ L) (krep : K rep = 6) {now : Nat} (hnow : now ∈ L) (know : K now = 10) {dr : Nat} (hdr : dr ∈ L) (kdr : K dr = 13) {sv : Nat} (hsv : sv ∈ L) (ksv : K sv = 14) {tr : Nat} (htr : tr ∈ L) (ktr : K tr = 15) {ba : Nat} (hba : ba ∈ L) (kba : K ba = 142) {nds : Nat} (hnds : nds ∈ L) (knds : K nds = 111) {mo : Nat} (hmo : mo ∈ L) (kmo : K mo = 12) {bu : Nat} (hbu : bu ∈ L) (kbu : K bu = 150) {sr : Nat} (hsr : sr ∈ L) (ksr : K sr = 151) {sd : Nat} (hsd : sd ∈ L) (ksd : K sd = 152) {as : Nat} (has : as ∈ L) (kas : K as = 153) {aw : Nat} (haw : aw ∈ L) (kaw : K aw = 154) {pa : Nat} (hpa : pa ∈ L) (kpa : K pa = 155) {nm : Nat} (hnm : nm ∈ L) (knm : K nm = 156) {snm : Nat} (hsnm : snm ∈ L) (ksnm : K snm = 157) {anm : Nat} (hanm : anm ∈ L) (kanm : K anm = 158) {hp : Nat} (hhp : hp ∈ L) (khp : K hp = 159) {dy : Nat} (hdy : dy ∈ L) (kdy : K dy = 160) {cs : Nat} (hcs : cs ∈ L) (kcs : K cs = 161) {c1 : Nat} (hc1 : c1 ∈ L) (kc1 : K c1 = 162) {c2 : Nat} (hc2 : c2 ∈ L) (kc2 : K c2 = 163) {c3 : Nat} (hc3 : c3 ∈ L) (kc3 : K c3 = 164) {bg : Nat} (hbg : bg ∈ L) (kbg : K bg = 165) {lp : Nat} (hlp : lp ∈ L) (klp : K lp = 166) {rp : Nat} (hrp : rp ∈ L) (krp : K rp = 167) {out : Nat} (hout : out ∈ L) (kout : K out = 168) {outD : Nat} (houtD : outD ∈ L) (koutD : K outD = 169) (hr0 : q_ir (q_r f0 x 0) so) (hr1 : q_ir (q_r f0 x 1) rd) (hr2 : q_ir (q_r f0 x 2) scr) (hr3 : q_ir (q_r f0 x 3) fc) (hr4 : q_ir (q_r f0 x 4) hist) (hr5 : q_ir (q_r f0 x 5) rep) (hr6 : q_ir (q_r f0 x 6) now) (hr7 : q_ir (q_r f0 x 7) dr) (hr8 : q_ir (q_r f0 x 8) sv) (hr9 : q_ir (q_r f0 fc 0) tr) (hr10 : q_ir (q_r f0 so 0) ba) (hr11 : q_ir (q_r f0 dr 0) nds) (hr12 : q_ir (q_r f0 mo 1) bu) (hr13 : q_ir (q_r f0 mo 13) sr) (hr14 : q_ir (q_r f0 mo 14) sd) (hr15 : q_ir (q_r f0 mo 15) as) (hr16 : q_ir (q_r f0 mo 16) aw) (hr17 : q_ir (q_r f0 mo 17) pa) (hr18 : q_ir (q_r f0 mo 18) nm) (hr19 : q_ir (q_r f0 mo 19) snm) (hr20 : q_ir (q_r f0 mo 20) anm) (hr21 : q_ir (q_r f0 mo 24) hp) (hr22 : q_ir (q_r f0 mo 25) dy) (hr23 : q_ir (q_r f0 mo 29) cs) (hr24 : q_ir (q_r f0 mo 30) c1) (hr25 : q_ir (q_r f0 mo 31) c2) (hr26 : q_ir (q_r f0 mo 32) c3) (hr27 : q_ir (q_r f0 mo 33) bg) (hr28 : q_ir (q_r f0 mo 34) lp) (hr29 : q_ir (q_r f0 mo 38) rp) (hij : tk_ij K L f0 nds) {f : Nat → va_E} {H : Heap} {locs : List Loc} {ls : Array Slot} {cells slots : Nat} {ii tn : Int} (hB : q_B g K L (fun q => s.heap.size ≤ q) [(0, 0, 6), (2, 1, 2), (3, 0, 4), (4, 0, 7), (5, 0, 9), (6, 1, 1), (7, 1, 4), (8, 1, 9), (9, 0, 2), (10, 3, 15), (11, 9, 9), (12, 0, 0), (12, 2, 12), (12, 21, 23), (12, 26, 28), (12, 35, 37), (12, 39, 40), (13, 3, 15), (14, 3, 15), (15, 3, 15), (16, 3, 15), (17, 0, 9), (18, 0, 9), (19, 0, 9), (20, 0, 9), (21, 0, 4), (22, 0, 4), (23, 0, 4), (24, 0, 4), (25, 0, 7), (26, 0, 7), (27, 0, 7), (28, 0, 7), (142, 0, 599), (143, 0, 599), (150, 0, 599), (151, 0, 657), (152, 0, 657), (153, 0, 657), (154, 0, 657), (155, 0, 3947), (156, 0, 9), (157, 0, 9), (158, 0, 9), (159, 0, 9), (160, 0, 9), (161, 0, 59), (162, 0, 58), (163, 0, 58), (164, 0, 58), (165, 0, 1), (166, 0, 1), (167, 0, 479), (168, 0, 0), (169, 0, 0)] f0 f s H locs) (hI : q_Iv4 f so mo sr pa sd bu ba tn) (hl : lv_has ls 10 [(5, .int (q_i ii)), (4, .ref outD), (3, .ref out), (2, .ref mo), (1, .ref x), (0, .ref b)]) (hi0 : 0 ≤ ii) (hi6 : ii + 6 ≤ N9) (hce : cells + 6 ≤ 10000) (hse : slots + 36 ≤ 100000) (kk : ∀ (f1 : Nat → va_E) (H1 : Heap) (locs1 : List Loc) (ls1 : Array Slot) (tn1 : Int), q_B g K L (fun q => s.heap.size ≤ q) [(0, 0, 6), (2, 1, 2), (3, 0, 4), (4, 0, 7), (5, 0, 9), (6, 1, 1), (7, 1, 4), (8, 1, 9), (9, 0, 2), (10, 3, 15), (11, 9, 9), (12, 0, 0), (12, 2, 12), (12, 21, 23), (12, 26, 28), (12, 35, 37), (12, 39, 40), (13, 3, 15), (14, 3, 15), (15, 3, 15), (16, 3, 15), (17, 0, 9), (18, 0, 9), (19, 0, 9), (20, 0, 9), (21, 0, 4), (22, 0, 4), (23, 0, 4), (24, 0, 4), (25, 0, 7), (26, 0, 7), (27, 0, 7), (28, 0, 7), (142, 0, 599), (143, 0, 599), (150, 0, 599), (151, 0, 657), (152, 0, 657), (153, 0, 657), (154, 0, 657), (155, 0, 3947), (156, 0, 9), (157, 0, 9), (158, 0, 9), (159, 0, 9), (160, 0, 9), (161, 0, 59), (162, 0, 58), (163, 0, 58), (164, 0, 58), (165, 0, 1), (166, 0, 1), (167, 0, 479), (168, 0, 0), (169, 0, 0)] f0 f1 s H1 locs1 → q_Iv4 f1 so mo sr pa sd bu ba tn1 → lv_has ls1 10 [(5, .int (q_i ii)), (4, .ref outD), (3, .ref out), (2, .ref mo), (1, .ref x), (0, .ref b)] → W p l e room_1 s m #[Value.ref b] below meth c H1 locs1 (cells + 6) (slots + 36) (lw_Z below #[Value.ref b] s) (F0 m 1521 ls1 [])) : W p l e room_1 s m #[Value.ref b] below meth c H locs (cells) (slots) (lw_Z below #[Value.ref b] s) (F0 m 518 ls []) := by
  have hXs := C0.2.2.2.2.2.2.1
  have hbl := C0.2.2.2.2.2.2.2.1
  have hbA := q_bA hbl
  obtain ⟨⟨hn0, hn1, ltn, utn⟩, hgr, hpk, hsd9, ht3, ht4, hbb⟩ := hI
  have hr0 : q_ir (q_r f x 0) so := Eq.trans (hB.2.2.r hx (by rw [kx]; rfl)) hr0
  have hr1 : q_ir (q_r f x 1) rd := Eq.trans (hB.2.2.r hx (by rw [kx]; rfl)) hr1
  have hr2 : q_ir (q_r f x 2) scr := Eq.trans (hB.2.2.r hx (by rw [kx]; rfl)) hr2
  have hr3 : q_ir (q_r f x 3) fc := Eq.trans (hB.2.2.r hx (by rw [kx]; rfl)) hr3
  have hr4 : q_ir (q_r f x 4) hist := Eq.trans (hB.2.2.r hx (by rw [kx]; rfl)) hr4
  have hr5 : q_ir (q_r f x 5) rep := Eq.trans (hB.2.2.r hx (by rw [kx]; rfl)) hr5
  have hr6 : q_ir (q_r f x 6) now := Eq.trans (hB.2.2.r hx (by rw [kx]; rfl)) hr6
  have hr7 : q_ir (q_r f x 7) dr := Eq.trans (hB.2.2.r hx (by rw [kx]; rfl)) hr7
  have hr8 : q_ir (q_r f x 8) sv := Eq.trans (hB.2.2.r hx (by rw [kx]; rfl)) hr8
  have hr9 : q_ir (q_r f fc 0) tr := Eq.trans (hB.2.2.r hfc (by rw [kfc]; rfl)) hr9
  have hr10 : q_ir (q_r f so 0) ba := Eq.trans (hB.2.2.r hso (by rw [kso]; rfl)) hr10
  have hr11 : q_ir (q_r f dr 0) nds := Eq.trans (hB.2.2.r hdr (by rw [kdr]; rfl)) hr11
  have hr12 : q_ir (q_r f mo 1) bu := Eq.trans (hB.2.2.r hmo (by rw [kmo]; rfl)) hr12
  have hr13 : q_ir (q_r f mo 13) sr := Eq.trans (hB.2.2.r hmo (by rw [kmo]; rfl)) hr13
  have hr14 : q_ir (q_r f mo 14) sd := Eq.trans (hB.2.2.r hmo (by rw [kmo]; rfl)) hr14
  have hr15 : q_ir (q_r f mo 15) as := Eq.trans (hB.2.2.r hmo (by rw [kmo]; rfl)) hr15
  have hr16 : q_ir (q_r f mo 16) aw := Eq.trans (hB.2.2.r hmo (by rw [kmo]; rfl)) hr16
  have hr17 : q_ir (q_r f mo 17) pa := Eq.trans (hB.2.2.r hmo (by rw [kmo]; rfl)) hr17
  have hr18 : q_ir (q_r f mo 18) nm := Eq.trans (hB.2.2.r hmo (by rw [kmo]; rfl)) hr18
  have hr19 : q_ir (q_r f mo 19) snm := Eq.trans (hB.2.2.r hmo (by rw [kmo]; rfl)) hr19
  have hr20 : q_ir (q_r f mo 20) anm := Eq.trans (hB.2.2.r hmo (by rw [kmo]; rfl)) hr20
  have hr21 : q_ir (q_r f mo 24) hp := Eq.trans (hB.2.2.r hmo (by rw [kmo]; rfl)) hr21
  have hr22 : q_ir (q_r f mo 25) dy := Eq.trans (hB.2.2.r hmo (by rw [kmo]; rfl)) hr22
  have hr23 : q_ir (q_r f mo 29) cs := Eq.trans (hB.2.2.r hmo (by rw [kmo]; rfl)) hr23
  have hr24 : q_ir (q_r f mo 30) c1 := Eq.trans (hB.2.2.r hmo (by rw [kmo]; rfl)) hr24
  have hr25 : q_ir (q_r f mo 31) c2 := Eq.trans (hB.2.2.r hmo (by rw [kmo]; rfl)) hr25
  have hr26 : q_ir (q_r f mo 32) c3 := Eq.trans (hB.2.2.r hmo (by rw [kmo]; rfl)) hr26
  have hr27 : q_ir (q_r f mo 33) bg := Eq.trans (hB.2.2.r hmo (by rw [kmo]; rfl)) hr27
  have hr28 : q_ir (q_r f mo 34) lp := Eq.trans (hB.2.2.r hmo (by rw [kmo]; rfl)) hr28
  have hr29 : q_ir (q_r f mo 38) rp := Eq.trans (hB.2.2.r hmo (by rw [kmo]; rfl)) hr29
  have hij : tk_ij K L f nds := tk_ij_tr hij (fun i9 => hB.2.2.r hnds (by rw [knds]; rfl))
  obtain ⟨x1, ex1⟩ : ∃ zz, q_is (q_z f sr 3) zz := ⟨_, q_isr _⟩
  obtain ⟨lx1, ux1⟩ : 0 ≤ x1 ∧ x1 ≤ 9999 := q_isb ex1 ⟨(hgr 3 (by decide)).1, ht3⟩
  obtain ⟨x2, ex2⟩ : ∃ zz, q_is (q_z f sr 4) zz := ⟨_, q_isr _⟩
  obtain ⟨lx2, ux2⟩ : 0 ≤ x2 ∧ x2 ≤ 60 := q_isb ex2 ⟨(hgr 4 (by decide)).1, ht4⟩
  refine q_ald_n cx dL_law_518 rfl (lv_at hl 4 rfl) ?_
  refine q_ald_n cx dL_law_519 rfl (lv_at hl 5 rfl) ?_
  refine lv_iload cx.1 cx.2.1 dL_law_520 (lv_at hl 0 rfl) ?_
  refine q_iconst cx dL_law_522 ?_
  refine q_iadd cx dL_law_523 ?_
  refine va_sld cx.1 cx.2.1 hXs hbl hbA hB.1.2.2.2 (q_in (by omega) (by omega) (by omega)) dL_law_524 ?_
  obtain ⟨a3, ra3, ea3⟩ : ∃ z : Int, q_R z ∧ xs (q_i (ii + 1)).toNatClampNeg = q_i z := ⟨_, q_rng _, (q_of _).symm⟩
  rw [ea3]
  refine q_ald_n cx dL_law_525 rfl (lv_at hl 5 rfl) ?_
  refine lv_iload cx.1 cx.2.1 dL_law_526 (lv_at hl 0 rfl) ?_
  refine q_iconst cx dL_law_528 ?_
  refine q_iadd cx dL_law_529 ?_
  refine va_sld cx.1 cx.2.1 hXs hbl hbA hB.1.2.2.2 (q_in (by omega) (by omega) (by omega)) dL_law_530 ?_
  obtain ⟨a4, ra4, ea4⟩ : ∃ z : Int, q_R z ∧ xs (q_i (ii + 2)).toNatClampNeg = q_i z := ⟨_, q_rng _, (q_of _).symm⟩
  rw [ea4]
  refine q_ald_n cx dL_law_531 rfl (lv_at hl 2 rfl) ?_
  refine q_cWS (As := [.ref x, .int (q_i a3), .int (q_i a4), .ref out]) (rest := []) cx hX hB (fun q h => hLA q h) (fun q h1 h2 => absurd h1 (Nat.not_le_of_lt h2)) hN (w_message l g ad hN hB.2.1 hfl x hx kx a3 (by omega) (by omega) a4 (by omega) (by omega) out hout kout so hso kso rd hrd krd scr hscr kscr fc hfc kfc hist hhist khist rep hrep krep now hnow know dr hdr kdr sv hsv ksv tr htr ktr hr0 hr1 hr2 hr3 hr4 hr5 hr6 hr7 hr8 hr9) q_cL_156 q_dL_message ⟨by decide, by show cells + 2 ≤ 601024; omega, by show slots + 12 ≤ 7293034; omega⟩ rfl rfl hl.1 rfl (Nat.le_of_ble_eq_true rfl) dL_law_532 (fun v9 H locs f5 h7 hF hB => ?_)
  obtain ⟨y6, rfl, ry6, h7⟩ := h7
  refine W.eq (g2 := F0 m 535 ls [.int (q_i y6)]) rfl ?_
  obtain ⟨ly6, uy6⟩ := h7
  have z8 : q_is (q_z f5 so 1) tn := Eq.trans (hF.z hso (by rw [kso]; rfl)) hn0
  have z9 : q_is (q_z f5 mo 2) tn := Eq.trans (hF.z hmo (by rw [kmo]; rfl)) hn1
  have z10 : q_is (q_z f5 sr 3) x1 := Eq.trans (hF.z hsr (by rw [ksr]; rfl)) ex1
  have z11 : q_is (q_z f5 sr 4) x2 := Eq.trans (hF.z hsr (by rw [ksr]; rfl)) ex2
  have z12 : q_ir (q_r f5 x 0) so := Eq.trans (hF.r hx (by rw [kx]; rfl)) hr0
  have z13 : q_ir (q_r f5 x 1) rd := Eq.trans (hF.r hx (by rw [kx]; rfl)) hr1
  have z14 : q_ir (q_r f5 x 2) scr := Eq.trans (hF.r hx (by rw [kx]; rfl)) hr2
  have z15 : q_ir (q_r f5 x 3) fc := Eq.trans (hF.r hx (by rw [kx]; rfl)) hr3
  have z16 : q_ir (q_r f5 x 4) hist := Eq.trans (hF.r hx (by rw [kx]; rfl)) hr4
  have z17 : q_ir (q_r f5 x 5) rep := Eq.trans (hF.r hx (by rw [kx]; rfl)) hr5
  have z18 : q_ir (q_r f5 x 6) now := Eq.trans (hF.r hx (by rw [kx]; rfl)) hr6
  have z19 : q_ir (q_r f5 x 7) dr := Eq.trans (hF.r hx (by rw [kx]; rfl)) hr7
  have z20 : q_ir (q_r f5 x 8) sv := Eq.trans (hF.r hx (by rw [kx]; rfl)) hr8
  have z21 : q_ir (q_r f5 fc 0) tr := Eq.trans (hF.r hfc (by rw [kfc]; rfl)) hr9
  have z22 : q_ir (q_r f5 so 0) ba := Eq.trans (hF.r hso (by rw [kso]; rfl)) hr10
  have z23 : q_ir (q_r f5 dr 0) nds := Eq.trans (hF.r hdr (by rw [kdr]; rfl)) hr11
  have z24 : q_ir (q_r f5 mo 1) bu := Eq.trans (hF.r hmo (by rw [kmo]; rfl)) hr12
  have z25 : q_ir (q_r f5 mo 13) sr := Eq.trans (hF.r hmo (by rw [kmo]; rfl)) hr13
  have z26 : q_ir (q_r f5 mo 14) sd := Eq.trans (hF.r hmo (by rw [kmo]; rfl)) hr14
  have z27 : q_ir (q_r f5 mo 15) as := Eq.trans (hF.r hmo (by rw [kmo]; rfl)) hr15
  have z28 : q_ir (q_r f5 mo 16) aw := Eq.trans (hF.r hmo (by rw [kmo]; rfl)) hr16
  have z29 : q_ir (q_r f5 mo 17) pa := Eq.trans (hF.r hmo (by rw [kmo]; rfl)) hr17
  have z30 : q_ir (q_r f5 mo 18) nm := Eq.trans (hF.r hmo (by rw [kmo]; rfl)) hr18
  have z31 : q_ir (q_r f5 mo 19) snm := Eq.trans (hF.r hmo (by rw [kmo]; rfl)) hr19
  have z32 : q_ir (q_r f5 mo 20) anm := Eq.trans (hF.r hmo (by rw [kmo]; rfl)) hr20
  have z33 : q_ir (q_r f5 mo 24) hp := Eq.trans (hF.r hmo (by rw [kmo]; rfl)) hr21
  have z34 : q_ir (q_r f5 mo 25) dy := Eq.trans (hF.r hmo (by rw [kmo]; rfl)) hr22
  have z35 : q_ir (q_r f5 mo 29) cs := Eq.trans (hF.r hmo (by rw [kmo]; rfl)) hr23
  have z36 : q_ir (q_r f5 mo 30) c1 := Eq.trans (hF.r hmo (by rw [kmo]; rfl)) hr24
  have z37 : q_ir (q_r f5 mo 31) c2 := Eq.trans (hF.r hmo (by rw [kmo]; rfl)) hr25
  have z38 : q_ir (q_r f5 mo 32) c3 := Eq.trans (hF.r hmo (by rw [kmo]; rfl)) hr26
  have z39 : q_ir (q_r f5 mo 33) bg := Eq.trans (hF.r hmo (by rw [kmo]; rfl)) hr27
  have z40 : q_ir (q_r f5 mo 34) lp := Eq.trans (hF.r hmo (by rw [kmo]; rfl)) hr28
  have z41 : q_ir (q_r f5 mo 38) rp := Eq.trans (hF.r hmo (by rw [kmo]; rfl)) hr29
  have g42 : q_gr f5 sr := q_gr_fr hgr (fun i9 _ => hF.z hsr (by rw [ksr]; rfl))
  have g43 : q_pk f5 mo pa := q_pk_tr hpk (hF.z hmo (by rw [kmo]; rfl)) (fun i9 => hF.z hpa (by rw [kpa]; rfl))
  have g44 : q_sv f5 mo sd := q_sv_tr hsd9 (hF.z hmo (by rw [kmo]; rfl)) (fun i9 => hF.z hsd (by rw [ksd]; rfl))
  have g45 : tk_bb f5 bu ba tn := tk_bb_tr hbb (fun i9 => hF.z hbu (by rw [kbu]; rfl)) (fun i9 => hF.z hba (by rw [kba]; rfl))
  have g46 : tk_ij K L f5 nds := tk_ij_tr hij (fun i9 => hF.r hnds (by rw [knds]; rfl))
  refine lv_istore (lv' := [(6, .int (q_i y6)), (5, .int (q_i ii)), (4, .ref outD), (3, .ref out), (2, .ref mo), (1, .ref x), (0, .ref b)]) cx.1 cx.2.1 dL_law_535 hl (by decide) rfl (fun ls hl => ?_)
  refine q_ald_n cx dL_law_537 rfl (lv_at hl 4 rfl) ?_
  refine q_ald_n cx dL_law_538 rfl (lv_at hl 6 rfl) ?_
  refine lv_iload cx.1 cx.2.1 dL_law_539 (lv_at hl 1 rfl) ?_
  refine q_iconst cx dL_law_541 ?_
  refine q_iadd cx dL_law_542 ?_
  refine va_sld cx.1 cx.2.1 hXs hbl hbA hB.1.2.2.2 (q_in (by omega) (by omega) (by omega)) dL_law_543 ?_
  rw [ea3]
  refine q_ald_n cx dL_law_544 rfl (lv_at hl 6 rfl) ?_
  refine lv_iload cx.1 cx.2.1 dL_law_545 (lv_at hl 1 rfl) ?_
  refine q_iconst cx dL_law_547 ?_
  refine q_iadd cx dL_law_548 ?_
  refine va_sld cx.1 cx.2.1 hXs hbl hbA hB.1.2.2.2 (q_in (by omega) (by omega) (by omega)) dL_law_549 ?_
  rw [ea4]
  refine q_cVi (As := [.int (q_i a3), .int (q_i a4)]) (rest := []) cx hB (fun q h => hLA q h) hN hmo kmo (by decide) rfl (r_message l g hN hB.2.1 mo hmo kmo a3 (by omega) (by omega) a4 (by omega) (by omega) sr hsr ksr x1 (by omega) (by omega) x2 (by omega) (by omega) z10 z11 z25 g42) q_cL_158 q_dX12_message ⟨by decide, by show cells + 2 ≤ 601024; omega, by show slots + 12 ≤ 7293034; omega⟩ rfl rfl hl.1 rfl (Nat.le_of_ble_eq_true rfl) dL_law_550 (fun y48 H locs f47 ry48 h49 hF hB => ?_)
  have z50 : q_is (q_z f47 so 1) tn := Eq.trans (hF.z hso (by rw [kso]; rfl)) z8
  have z51 : q_is (q_z f47 mo 2) tn := Eq.trans (hF.z hmo (by rw [kmo]; rfl)) z9
  have z52 : q_is (q_z f47 sr 3) x1 := Eq.trans (hF.z hsr (by rw [ksr]; rfl)) z10
  have z53 : q_is (q_z f47 sr 4) x2 := Eq.trans (hF.z hsr (by rw [ksr]; rfl)) z11
  have z54 : q_ir (q_r f47 x 0) so := Eq.trans (hF.r hx (by rw [kx]; rfl)) z12
  have z55 : q_ir (q_r f47 x 1) rd := Eq.trans (hF.r hx (by rw [kx]; rfl)) z13
  have z56 : q_ir (q_r f47 x 2) scr := Eq.trans (hF.r hx (by rw [kx]; rfl)) z14
  have z57 : q_ir (q_r f47 x 3) fc := Eq.trans (hF.r hx (by rw [kx]; rfl)) z15
  have z58 : q_ir (q_r f47 x 4) hist := Eq.trans (hF.r hx (by rw [kx]; rfl)) z16
  have z59 : q_ir (q_r f47 x 5) rep := Eq.trans (hF.r hx (by rw [kx]; rfl)) z17
  have z60 : q_ir (q_r f47 x 6) now := Eq.trans (hF.r hx (by rw [kx]; rfl)) z18
  have z61 : q_ir (q_r f47 x 7) dr := Eq.trans (hF.r hx (by rw [kx]; rfl)) z19
  have z62 : q_ir (q_r f47 x 8) sv := Eq.trans (hF.r hx (by rw [kx]; rfl)) z20
  have z63 : q_ir (q_r f47 fc 0) tr := Eq.trans (hF.r hfc (by rw [kfc]; rfl)) z21
  have z64 : q_ir (q_r f47 so 0) ba := Eq.trans (hF.r hso (by rw [kso]; rfl)) z22
  have z65 : q_ir (q_r f47 dr 0) nds := Eq.trans (hF.r hdr (by rw [kdr]; rfl)) z23
  have z66 : q_ir (q_r f47 mo 1) bu := Eq.trans (hF.r hmo (by rw [kmo]; rfl)) z24
  have z67 : q_ir (q_r f47 mo 13) sr := Eq.trans (hF.r hmo (by rw [kmo]; rfl)) z25
  have z68 : q_ir (q_r f47 mo 14) sd := Eq.trans (hF.r hmo (by rw [kmo]; rfl)) z26
  have z69 : q_ir (q_r f47 mo 15) as := Eq.trans (hF.r hmo (by rw [kmo]; rfl)) z27
  have z70 : q_ir (q_r f47 mo 16) aw := Eq.trans (hF.r hmo (by rw [kmo]; rfl)) z28
  have z71 : q_ir (q_r f47 mo 17) pa := Eq.trans (hF.r hmo (by rw [kmo]; rfl)) z29
  have z72 : q_ir (q_r f47 mo 18) nm := Eq.trans (hF.r hmo (by rw [kmo]; rfl)) z30
  have z73 : q_ir (q_r f47 mo 19) snm := Eq.trans (hF.r hmo (by rw [kmo]; rfl)) z31
  have z74 : q_ir (q_r f47 mo 20) anm := Eq.trans (hF.r hmo (by rw [kmo]; rfl)) z32
  have z75 : q_ir (q_r f47 mo 24) hp := Eq.trans (hF.r hmo (by rw [kmo]; rfl)) z33
  have z76 : q_ir (q_r f47 mo 25) dy := Eq.trans (hF.r hmo (by rw [kmo]; rfl)) z34
  have z77 : q_ir (q_r f47 mo 29) cs := Eq.trans (hF.r hmo (by rw [kmo]; rfl)) z35
  have z78 : q_ir (q_r f47 mo 30) c1 := Eq.trans (hF.r hmo (by rw [kmo]; rfl)) z36
  have z79 : q_ir (q_r f47 mo 31) c2 := Eq.trans (hF.r hmo (by rw [kmo]; rfl)) z37
  have z80 : q_ir (q_r f47 mo 32) c3 := Eq.trans (hF.r hmo (by rw [kmo]; rfl)) z38
  have z81 : q_ir (q_r f47 mo 33) bg := Eq.trans (hF.r hmo (by rw [kmo]; rfl)) z39
  have z82 : q_ir (q_r f47 mo 34) lp := Eq.trans (hF.r hmo (by rw [kmo]; rfl)) z40
  have z83 : q_ir (q_r f47 mo 38) rp := Eq.trans (hF.r hmo (by rw [kmo]; rfl)) z41
  have g84 : q_gr f47 sr := q_gr_fr g42 (fun i9 _ => hF.z hsr (by rw [ksr]; rfl))
  have g85 : q_pk f47 mo pa := q_pk_tr g43 (hF.z hmo (by rw [kmo]; rfl)) (fun i9 => hF.z hpa (by rw [kpa]; rfl))
  have g86 : q_sv f47 mo sd := q_sv_tr g44 (hF.z hmo (by rw [kmo]; rfl)) (fun i9 => hF.z hsd (by rw [ksd]; rfl))
  have g87 : tk_bb f47 bu ba tn := tk_bb_tr g45 (fun i9 => hF.z hbu (by rw [kbu]; rfl)) (fun i9 => hF.z hba (by rw [kba]; rfl))
  have g88 : tk_ij K L f47 nds := tk_ij_tr g46 (fun i9 => hF.r hnds (by rw [knds]; rfl))
  refine lv_istore (lv' := [(7, .int (q_i y48)), (6, .int (q_i y6)), (5, .int (q_i ii)), (4, .ref outD), (3, .ref out), (2, .ref mo), (1, .ref x), (0, .ref b)]) cx.1 cx.2.1 dL_law_553 hl (by decide) rfl (fun ls hl => ?_)
  refine lv_goto (tgt := 1521) cx.1 cx.2.1 dL_law_555 (by decide) ?_
  refine W.widen (k := cells + 6) (n := slots + 36) (by omega) (by omega) ?_
  exact kk f47 H locs ls tn hB ⟨⟨z50, (Eq.trans z51 (by omega)), by omega, by omega⟩, g84, g85, g86, q_isu z52 (by omega), q_isu z53 (by omega), tk_bb_le g87 (by omega)⟩ (lv_sub hl [2, 3, 4, 5, 6, 7] rfl)
