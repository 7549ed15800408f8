set_option maxHeartbeats 4000000 in
set_option maxRecDepth 100000 in
theorem law_c965 {p : Program} {l : Launch} {e : Env} {s : State} {m : MethodId} {below : List Frame} {meth : Method} {c : Code} {b N9 : Nat} {xs : Nat → Int32} (hfl : l.stackTraces = false) (hN9 : N9 ≤ 3072) (C0 : lw_At p s m meth c b N9 xs) (cx : CallFix p m c cL_law 10 s #[Value.ref b] q_al RL) {g : q_G} {ad : Nat → Nat} {K : Nat → Nat} {L : List Nat} (hN : L.Nodup) (hLA : ∀ q, q ∈ L → s.heap.size ≤ q) (hX : q_X ad (fun q => q ∈ L) s) {f0 : Nat → va_E} {x : Nat} (hx : x ∈ L) (kx : K x = 11) {so : Nat} (hso : so ∈ L) (kso : K so = 8) {rd : Nat} (hrd : rd ∈ L) (krd : K rd = 9) {scr : Nat} (hscr : scr ∈ L) (kscr : K scr = 7) {fc : Nat} (hfc : fc ∈ L) (kfc : K fc = 1) {hist : Nat} (hhist : hist ∈ L) (khist : K hist = 2) {rep : Nat} (hrep : rep ∈ L) (krep : K rep = 6) {now : Nat} (hnow : now ∈ L) (know : K now = 10) {dr : Nat} (hdr : dr ∈ L) (kdr : K dr = 13) {sv : Nat} (hsv : sv ∈ L) (ksv : K sv = 14) {tr : Nat} (htr : tr ∈ L) (ktr : K tr = 15) {ba : Nat} (hba : ba ∈ L) (kba : K ba = 142) {nds : Nat} (hnds : nds ∈ L) (knds : K nds = 111) {mo : Nat} (hmo : mo ∈ L) (kmo : K mo = 12) {bu : Nat} (hbu : bu ∈ L) (kbu : K bu = 150) {sr : Nat} (hsr : sr ∈ L) (ksr : K sr = 151) {sd : Nat} (hsd : sd ∈ L) (ksd : K sd = 152) {as : Nat} (has : as ∈ L) (kas : K as = 153) {aw : Nat} (haw : aw ∈ L) (kaw : K aw = 154) {pa : Nat} (hpa : pa ∈ L) (kpa : K pa = 155) {nm : Nat} (hnm : nm ∈ L) (knm : K nm = 156) {snm : Nat} (hsnm : snm ∈ L) (ksnm : K snm = 157) {anm : Nat} (hanm : anm ∈ L) (kanm : K anm = 158) {hp : Nat} (hhp : hp ∈ L) (khp : K hp = 159) {dy : Nat} (hdy : dy ∈ L) (kdy : K dy = 160) {cs : Nat} (hcs : cs ∈ L) (kcs : K cs = 161) {c1 : Nat} (hc1 : c1 ∈ L) (kc1 : K c1 = 162) {c2 : Nat} (hc2 : c2 ∈ L) (kc2 : K c2 = 163) {c3 : Nat} (hc3 : c3 ∈ L) (kc3 : K c3 = 164) {bg : Nat} (hbg : bg ∈ L) (kbg : K bg = 165) {lp : Nat} (hlp : lp ∈ L) (klp : K lp = 166) {rp : Nat} (hrp : rp ∈ L) (krp : K rp = 167) {out : Nat} (hout : out ∈ L) (kout : K out = 168) {outD : Nat} (houtD : outD ∈ L) (koutD : K outD = 169) (hr0 : q_ir (q_r f0 x 0) so) (hr1 : q_ir (q_r f0 x 1) rd) (hr2 : q_ir (q_r f0 x 2) scr) (hr3 : q_ir (q_r f0 x 3) fc) (hr4 : q_ir (q_r f0 x 4) hist) (hr5 : q_ir (q_r f0 x 5) rep) (hr6 : q_ir (q_r f0 x 6) now) (hr7 : q_ir (q_r f0 x 7) dr) (hr8 : q_ir (q_r f0 x 8) sv) (hr9 : q_ir (q_r f0 fc 0) tr) (hr10 : q_ir (q_r f0 so 0) ba) (hr11 : q_ir (q_r f0 dr 0) nds) (hr12 : q_ir (q_r f0 mo 1) bu) (hr13 : q_ir (q_r f0 mo 13) sr) (hr14 : q_ir (q_r f0 mo 14) sd) (hr15 : q_ir (q_r f0 mo 15) as) (hr16 : q_ir (q_r f0 mo 16) aw) (hr17 : q_ir (q_r f0 mo 17) pa) (hr18 : q_ir (q_r f0 mo 18) nm) (hr19 : q_ir (q_r f0 mo 19) snm) (hr20 : q_ir (q_r f0 mo 20) anm) (hr21 : q_ir (q_r f0 mo 24) hp) (hr22 : q_ir (q_r f0 mo 25) dy) (hr23 : q_ir (q_r f0 mo 29) cs) (hr24 : q_ir (q_r f0 mo 30) c1) (hr25 : q_ir (q_r f0 mo 31) c2) (hr26 : q_ir (q_r f0 mo 32) c3) (hr27 : q_ir (q_r f0 mo 33) bg) (hr28 : q_ir (q_r f0 mo 34) lp) (hr29 : q_ir (q_r f0 mo 38) rp) (hij : tk_ij K L f0 nds) {f : Nat → va_E} {H : Heap} {locs : List Loc} {ls : Array Slot} {cells slots : Nat} {ii tn : Int} (hB : q_B g K L (fun q => s.heap.size ≤ q) [(0, 0, 6), (2, 1, 2), (3, 0, 4), (4, 0, 7), (5, 0, 9), (6, 1, 1), (7, 1, 4), (8, 1, 9), (9, 0, 2), (10, 3, 15), (11, 9, 9), (12, 0, 0), (12, 2, 12), (12, 21, 23), (12, 26, 28), (12, 35, 37), (12, 39, 40), (13, 3, 15), (14, 3, 15), (15, 3, 15), (16, 3, 15), (17, 0, 9), (18, 0, 9), (19, 0, 9), (20, 0, 9), (21, 0, 4), (22, 0, 4), (23, 0, 4), (24, 0, 4), (25, 0, 7), (26, 0, 7), (27, 0, 7), (28, 0, 7), (142, 0, 599), (143, 0, 599), (150, 0, 599), (151, 0, 657), (152, 0, 657), (153, 0, 657), (154, 0, 657), (155, 0, 3947), (156, 0, 9), (157, 0, 9), (158, 0, 9), (159, 0, 9), (160, 0, 9), (161, 0, 59), (162, 0, 58), (163, 0, 58), (164, 0, 58), (165, 0, 1), (166, 0, 1), (167, 0, 479), (168, 0, 0), (169, 0, 0)] f0 f s H locs) (hI : q_Iv4 f so mo sr pa sd bu ba tn) (hl : lv_has ls 10 [(5, .int (q_i ii)), (4, .ref outD), (3, .ref out), (2, .ref mo), (1, .ref x), (0, .ref b)]) (hi0 : 0 ≤ ii) (hi6 : ii + 6 ≤ N9) (hce : cells + 6 ≤ 10000) (hse : slots + 36 ≤ 100000) (kk : ∀ (f1 : Nat → va_E) (H1 : Heap) (locs1 : List Loc) (ls1 : Array Slot) (tn1 : Int), q_B g K L (fun q => s.heap.size ≤ q) [(0, 0, 6), (2, 1, 2), (3, 0, 4), (4, 0, 7), (5, 0, 9), (6, 1, 1), (7, 1, 4), (8, 1, 9), (9, 0, 2), (10, 3, 15), (11, 9, 9), (12, 0, 0), (12, 2, 12), (12, 21, 23), (12, 26, 28), (12, 35, 37), (12, 39, 40), (13, 3, 15), (14, 3, 15), (15, 3, 15), (16, 3, 15), (17, 0, 9), (18, 0, 9), (19, 0, 9), (20, 0, 9), (21, 0, 4), (22, 0, 4), (23, 0, 4), (24, 0, 4), (25, 0, 7), (26, 0, 7), (27, 0, 7), (28, 0, 7), (142, 0, 599), (143, 0, 599), (150, 0, 599), (151, 0, 657), (152, 0, 657), (153, 0, 657), (154, 0, 657), (155, 0, 3947), (156, 0, 9), (157, 0, 9), (158, 0, 9), (159, 0, 9), (160, 0, 9), (161, 0, 59), (162, 0, 58), (163, 0, 58), (164, 0, 58), (165, 0, 1), (166, 0, 1), (167, 0, 479), (168, 0, 0), (169, 0, 0)] f0 f1 s H1 locs1 → q_Iv4 f1 so mo sr pa sd bu ba tn1 → lv_has ls1 10 [(5, .int (q_i ii)), (4, .ref outD), (3, .ref out), (2, .ref mo), (1, .ref x), (0, .ref b)] → W p l e room_1 s m #[Value.ref b] below meth c H1 locs1 (cells + 6) (slots + 36) (lw_Z below #[Value.ref b] s) (F0 m 1521 ls1 [])) : W p l e room_1 s m #[Value.ref b] below meth c H locs (cells) (slots) (lw_Z below #[Value.ref b] s) (F0 m 965 ls []) := by
  have hXs := C0.2.2.2.2.2.2.1
  have hbl := C0.2.2.2.2.2.2.2.1
  have hbA := q_bA hbl
  obtain ⟨⟨hn0, hn1, ltn, utn⟩, hgr, hpk, hsd9, ht3, ht4, hbb⟩ := hI
  have hr0 : q_ir (q_r f x 0) so := Eq.trans (hB.2.2.r hx (by rw [kx]; rfl)) hr0
  have hr1 : q_ir (q_r f x 1) rd := Eq.trans (hB.2.2.r hx (by rw [kx]; rfl)) hr1
  have hr2 : q_ir (q_r f x 2) scr := Eq.trans (hB.2.2.r hx (by rw [kx]; rfl)) hr2
  have hr3 : q_ir (q_r f x 3) fc := Eq.trans (hB.2.2.r hx (by rw [kx]; rfl)) hr3
  have hr4 : q_ir (q_r f x 4) hist := Eq.trans (hB.2.2.r hx (by rw [kx]; rfl)) hr4
  have hr5 : q_ir (q_r f x 5) rep := Eq.trans (hB.2.2.r hx (by rw [kx]; rfl)) hr5
  have hr6 : q_ir (q_r f x 6) now := Eq.trans (hB.2.2.r hx (by rw [kx]; rfl)) hr6
  have hr7 : q_ir (q_r f x 7) dr := Eq.trans (hB.2.2.r hx (by rw [kx]; rfl)) hr7
  have hr8 : q_ir (q_r f x 8) sv := Eq.trans (hB.2.2.r hx (by rw [kx]; rfl)) hr8
  have hr9 : q_ir (q_r f fc 0) tr := Eq.trans (hB.2.2.r hfc (by rw [kfc]; rfl)) hr9
  have hr10 : q_ir (q_r f so 0) ba := Eq.trans (hB.2.2.r hso (by rw [kso]; rfl)) hr10
  have hr11 : q_ir (q_r f dr 0) nds := Eq.trans (hB.2.2.r hdr (by rw [kdr]; rfl)) hr11
  have hr12 : q_ir (q_r f mo 1) bu := Eq.trans (hB.2.2.r hmo (by rw [kmo]; rfl)) hr12
  have hr13 : q_ir (q_r f mo 13) sr := Eq.trans (hB.2.2.r hmo (by rw [kmo]; rfl)) hr13
  have hr14 : q_ir (q_r f mo 14) sd := Eq.trans (hB.2.2.r hmo (by rw [kmo]; rfl)) hr14
  have hr15 : q_ir (q_r f mo 15) as := Eq.trans (hB.2.2.r hmo (by rw [kmo]; rfl)) hr15
  have hr16 : q_ir (q_r f mo 16) aw := Eq.trans (hB.2.2.r hmo (by rw [kmo]; rfl)) hr16
  have hr17 : q_ir (q_r f mo 17) pa := Eq.trans (hB.2.2.r hmo (by rw [kmo]; rfl)) hr17
  have hr18 : q_ir (q_r f mo 18) nm := Eq.trans (hB.2.2.r hmo (by rw [kmo]; rfl)) hr18
  have hr19 : q_ir (q_r f mo 19) snm := Eq.trans (hB.2.2.r hmo (by rw [kmo]; rfl)) hr19
  have hr20 : q_ir (q_r f mo 20) anm := Eq.trans (hB.2.2.r hmo (by rw [kmo]; rfl)) hr20
  have hr21 : q_ir (q_r f mo 24) hp := Eq.trans (hB.2.2.r hmo (by rw [kmo]; rfl)) hr21
  have hr22 : q_ir (q_r f mo 25) dy := Eq.trans (hB.2.2.r hmo (by rw [kmo]; rfl)) hr22
  have hr23 : q_ir (q_r f mo 29) cs := Eq.trans (hB.2.2.r hmo (by rw [kmo]; rfl)) hr23
  have hr24 : q_ir (q_r f mo 30) c1 := Eq.trans (hB.2.2.r hmo (by rw [kmo]; rfl)) hr24
  have hr25 : q_ir (q_r f mo 31) c2 := Eq.trans (hB.2.2.r hmo (by rw [kmo]; rfl)) hr25
  have hr26 : q_ir (q_r f mo 32) c3 := Eq.trans (hB.2.2.r hmo (by rw [kmo]; rfl)) hr26
  have hr27 : q_ir (q_r f mo 33) bg := Eq.trans (hB.2.2.r hmo (by rw [kmo]; rfl)) hr27
  have hr28 : q_ir (q_r f mo 34) lp := Eq.trans (hB.2.2.r hmo (by rw [kmo]; rfl)) hr28
  have hr29 : q_ir (q_r f mo 38) rp := Eq.trans (hB.2.2.r hmo (by rw [kmo]; rfl)) hr29
  have hij : tk_ij K L f nds := tk_ij_tr hij (fun i9 => hB.2.2.r hnds (by rw [knds]; rfl))
  obtain ⟨x1, ex1⟩ : ∃ zz, q_is (q_z f sr 3) zz := ⟨_, q_isr _⟩
  obtain ⟨lx1, ux1⟩ : 0 ≤ x1 ∧ x1 ≤ 9999 := q_isb ex1 ⟨(hgr 3 (by decide)).1, ht3⟩
  obtain ⟨x2, ex2⟩ : ∃ zz, q_is (q_z f sr 4) zz := ⟨_, q_isr _⟩
  obtain ⟨lx2, ux2⟩ : 0 ≤ x2 ∧ x2 ≤ 60 := q_isb ex2 ⟨(hgr 4 (by decide)).1, ht4⟩
  refine q_ald_n cx dL_law_965 rfl (lv_at hl 4 rfl) ?_
  refine q_ald_n cx dL_law_966 rfl (lv_at hl 5 rfl) ?_
  refine lv_iload cx.1 cx.2.1 dL_law_967 (lv_at hl 0 rfl) ?_
  refine q_iconst cx dL_law_969 ?_
  refine q_iadd cx dL_law_970 ?_
  refine va_sld cx.1 cx.2.1 hXs hbl hbA hB.1.2.2.2 (q_in (by omega) (by omega) (by omega)) dL_law_971 ?_
  obtain ⟨a3, ra3, ea3⟩ : ∃ z : Int, q_R z ∧ xs (q_i (ii + 1)).toNatClampNeg = q_i z := ⟨_, q_rng _, (q_of _).symm⟩
  rw [ea3]
  refine q_ald_n cx dL_law_972 rfl (lv_at hl 2 rfl) ?_
  refine q_cWS (As := [.ref x, .int (q_i a3), .ref out]) (rest := []) cx hX hB (fun q h => hLA q h) (fun q h1 h2 => absurd h1 (Nat.not_le_of_lt h2)) hN (w_outIn l g ad hN hB.2.1 hfl x hx kx a3 (by omega) (by omega) out hout kout so hso kso rd hrd krd scr hscr kscr fc hfc kfc hist hhist khist rep hrep krep now hnow know dr hdr kdr sv hsv ksv tr htr ktr hr0 hr1 hr2 hr3 hr4 hr5 hr6 hr7 hr8 hr9) q_cL_205 q_dL_outIn ⟨by decide, by show cells + 1 ≤ 601024; omega, by show slots + 6 ≤ 7293034; omega⟩ rfl rfl hl.1 rfl (Nat.le_of_ble_eq_true rfl) dL_law_973 (fun v9 H locs f4 h6 hF hB => ?_)
  obtain ⟨y5, rfl, ry5, h6⟩ := h6
  refine W.eq (g2 := F0 m 976 ls [.int (q_i y5)]) rfl ?_
  obtain ⟨ly5, uy5⟩ := h6
  have z7 : q_is (q_z f4 so 1) tn := Eq.trans (hF.z hso (by rw [kso]; rfl)) hn0
  have z8 : q_is (q_z f4 mo 2) tn := Eq.trans (hF.z hmo (by rw [kmo]; rfl)) hn1
  have z9 : q_is (q_z f4 sr 3) x1 := Eq.trans (hF.z hsr (by rw [ksr]; rfl)) ex1
  have z10 : q_is (q_z f4 sr 4) x2 := Eq.trans (hF.z hsr (by rw [ksr]; rfl)) ex2
  have z11 : q_ir (q_r f4 x 0) so := Eq.trans (hF.r hx (by rw [kx]; rfl)) hr0
  have z12 : q_ir (q_r f4 x 1) rd := Eq.trans (hF.r hx (by rw [kx]; rfl)) hr1
  have z13 : q_ir (q_r f4 x 2) scr := Eq.trans (hF.r hx (by rw [kx]; rfl)) hr2
  have z14 : q_ir (q_r f4 x 3) fc := Eq.trans (hF.r hx (by rw [kx]; rfl)) hr3
  have z15 : q_ir (q_r f4 x 4) hist := Eq.trans (hF.r hx (by rw [kx]; rfl)) hr4
  have z16 : q_ir (q_r f4 x 5) rep := Eq.trans (hF.r hx (by rw [kx]; rfl)) hr5
  have z17 : q_ir (q_r f4 x 6) now := Eq.trans (hF.r hx (by rw [kx]; rfl)) hr6
  have z18 : q_ir (q_r f4 x 7) dr := Eq.trans (hF.r hx (by rw [kx]; rfl)) hr7
  have z19 : q_ir (q_r f4 x 8) sv := Eq.trans (hF.r hx (by rw [kx]; rfl)) hr8
  have z20 : q_ir (q_r f4 fc 0) tr := Eq.trans (hF.r hfc (by rw [kfc]; rfl)) hr9
  have z21 : q_ir (q_r f4 so 0) ba := Eq.trans (hF.r hso (by rw [kso]; rfl)) hr10
  have z22 : q_ir (q_r f4 dr 0) nds := Eq.trans (hF.r hdr (by rw [kdr]; rfl)) hr11
  have z23 : q_ir (q_r f4 mo 1) bu := Eq.trans (hF.r hmo (by rw [kmo]; rfl)) hr12
  have z24 : q_ir (q_r f4 mo 13) sr := Eq.trans (hF.r hmo (by rw [kmo]; rfl)) hr13
  have z25 : q_ir (q_r f4 mo 14) sd := Eq.trans (hF.r hmo (by rw [kmo]; rfl)) hr14
  have z26 : q_ir (q_r f4 mo 15) as := Eq.trans (hF.r hmo (by rw [kmo]; rfl)) hr15
  have z27 : q_ir (q_r f4 mo 16) aw := Eq.trans (hF.r hmo (by rw [kmo]; rfl)) hr16
  have z28 : q_ir (q_r f4 mo 17) pa := Eq.trans (hF.r hmo (by rw [kmo]; rfl)) hr17
  have z29 : q_ir (q_r f4 mo 18) nm := Eq.trans (hF.r hmo (by rw [kmo]; rfl)) hr18
  have z30 : q_ir (q_r f4 mo 19) snm := Eq.trans (hF.r hmo (by rw [kmo]; rfl)) hr19
  have z31 : q_ir (q_r f4 mo 20) anm := Eq.trans (hF.r hmo (by rw [kmo]; rfl)) hr20
  have z32 : q_ir (q_r f4 mo 24) hp := Eq.trans (hF.r hmo (by rw [kmo]; rfl)) hr21
  have z33 : q_ir (q_r f4 mo 25) dy := Eq.trans (hF.r hmo (by rw [kmo]; rfl)) hr22
  have z34 : q_ir (q_r f4 mo 29) cs := Eq.trans (hF.r hmo (by rw [kmo]; rfl)) hr23
  have z35 : q_ir (q_r f4 mo 30) c1 := Eq.trans (hF.r hmo (by rw [kmo]; rfl)) hr24
  have z36 : q_ir (q_r f4 mo 31) c2 := Eq.trans (hF.r hmo (by rw [kmo]; rfl)) hr25
  have z37 : q_ir (q_r f4 mo 32) c3 := Eq.trans (hF.r hmo (by rw [kmo]; rfl)) hr26
  have z38 : q_ir (q_r f4 mo 33) bg := Eq.trans (hF.r hmo (by rw [kmo]; rfl)) hr27
  have z39 : q_ir (q_r f4 mo 34) lp := Eq.trans (hF.r hmo (by rw [kmo]; rfl)) hr28
  have z40 : q_ir (q_r f4 mo 38) rp := Eq.trans (hF.r hmo (by rw [kmo]; rfl)) hr29
  have g41 : q_gr f4 sr := q_gr_fr hgr (fun i9 _ => hF.z hsr (by rw [ksr]; rfl))
  have g42 : q_pk f4 mo pa := q_pk_tr hpk (hF.z hmo (by rw [kmo]; rfl)) (fun i9 => hF.z hpa (by rw [kpa]; rfl))
  have g43 : q_sv f4 mo sd := q_sv_tr hsd9 (hF.z hmo (by rw [kmo]; rfl)) (fun i9 => hF.z hsd (by rw [ksd]; rfl))
  have g44 : tk_bb f4 bu ba tn := tk_bb_tr hbb (fun i9 => hF.z hbu (by rw [kbu]; rfl)) (fun i9 => hF.z hba (by rw [kba]; rfl))
  have g45 : tk_ij K L f4 nds := tk_ij_tr hij (fun i9 => hF.r hnds (by rw [knds]; rfl))
  refine lv_istore (lv' := [(6, .int (q_i y5)), (5, .int (q_i ii)), (4, .ref outD), (3, .ref out), (2, .ref mo), (1, .ref x), (0, .ref b)]) cx.1 cx.2.1 dL_law_976 hl (by decide) rfl (fun ls hl => ?_)
  refine q_ald_n cx dL_law_978 rfl (lv_at hl 4 rfl) ?_
  refine q_ald_n cx dL_law_979 rfl (lv_at hl 6 rfl) ?_
  refine lv_iload cx.1 cx.2.1 dL_law_980 (lv_at hl 1 rfl) ?_
  refine q_iconst cx dL_law_982 ?_
  refine q_iadd cx dL_law_983 ?_
  refine va_sld cx.1 cx.2.1 hXs hbl hbA hB.1.2.2.2 (q_in (by omega) (by omega) (by omega)) dL_law_984 ?_
  rw [ea3]
  refine q_cVi (As := [.int (q_i a3)]) (rest := []) cx hB (fun q h => hLA q h) hN hmo kmo (by decide) rfl (r_outIn l g hN hB.2.1 mo hmo kmo a3 (by omega) (by omega) sr hsr ksr hp hhp khp dy hdy kdy aw haw kaw x1 (by omega) (by omega) x2 (by omega) (by omega) z9 z10 z24 z32 z33 z27 g41) q_cL_207 q_dX12_outIn ⟨by decide, by show cells + 1 ≤ 601024; omega, by show slots + 6 ≤ 7293034; omega⟩ rfl rfl hl.1 rfl (Nat.le_of_ble_eq_true rfl) dL_law_985 (fun y47 H locs f46 ry47 h48 hF hB => ?_)
  obtain ⟨ly47, uy47, lz49, uz49, lz50, uz50, g51⟩ := h48
  have z52 : q_is (q_z f46 so 1) tn := Eq.trans (hF.z hso (by rw [kso]; rfl)) z7
  have z53 : q_is (q_z f46 mo 2) tn := Eq.trans (hF.z hmo (by rw [kmo]; rfl)) z8
  have z54 : q_ir (q_r f46 x 0) so := Eq.trans (hF.r hx (by rw [kx]; rfl)) z11
  have z55 : q_ir (q_r f46 x 1) rd := Eq.trans (hF.r hx (by rw [kx]; rfl)) z12
  have z56 : q_ir (q_r f46 x 2) scr := Eq.trans (hF.r hx (by rw [kx]; rfl)) z13
  have z57 : q_ir (q_r f46 x 3) fc := Eq.trans (hF.r hx (by rw [kx]; rfl)) z14
  have z58 : q_ir (q_r f46 x 4) hist := Eq.trans (hF.r hx (by rw [kx]; rfl)) z15
  have z59 : q_ir (q_r f46 x 5) rep := Eq.trans (hF.r hx (by rw [kx]; rfl)) z16
  have z60 : q_ir (q_r f46 x 6) now := Eq.trans (hF.r hx (by rw [kx]; rfl)) z17
  have z61 : q_ir (q_r f46 x 7) dr := Eq.trans (hF.r hx (by rw [kx]; rfl)) z18
  have z62 : q_ir (q_r f46 x 8) sv := Eq.trans (hF.r hx (by rw [kx]; rfl)) z19
  have z63 : q_ir (q_r f46 fc 0) tr := Eq.trans (hF.r hfc (by rw [kfc]; rfl)) z20
  have z64 : q_ir (q_r f46 so 0) ba := Eq.trans (hF.r hso (by rw [kso]; rfl)) z21
  have z65 : q_ir (q_r f46 dr 0) nds := Eq.trans (hF.r hdr (by rw [kdr]; rfl)) z22
  have z66 : q_ir (q_r f46 mo 1) bu := Eq.trans (hF.r hmo (by rw [kmo]; rfl)) z23
  have z67 : q_ir (q_r f46 mo 13) sr := Eq.trans (hF.r hmo (by rw [kmo]; rfl)) z24
  have z68 : q_ir (q_r f46 mo 14) sd := Eq.trans (hF.r hmo (by rw [kmo]; rfl)) z25
  have z69 : q_ir (q_r f46 mo 15) as := Eq.trans (hF.r hmo (by rw [kmo]; rfl)) z26
  have z70 : q_ir (q_r f46 mo 16) aw := Eq.trans (hF.r hmo (by rw [kmo]; rfl)) z27
  have z71 : q_ir (q_r f46 mo 17) pa := Eq.trans (hF.r hmo (by rw [kmo]; rfl)) z28
  have z72 : q_ir (q_r f46 mo 18) nm := Eq.trans (hF.r hmo (by rw [kmo]; rfl)) z29
  have z73 : q_ir (q_r f46 mo 19) snm := Eq.trans (hF.r hmo (by rw [kmo]; rfl)) z30
  have z74 : q_ir (q_r f46 mo 20) anm := Eq.trans (hF.r hmo (by rw [kmo]; rfl)) z31
  have z75 : q_ir (q_r f46 mo 24) hp := Eq.trans (hF.r hmo (by rw [kmo]; rfl)) z32
  have z76 : q_ir (q_r f46 mo 25) dy := Eq.trans (hF.r hmo (by rw [kmo]; rfl)) z33
  have z77 : q_ir (q_r f46 mo 29) cs := Eq.trans (hF.r hmo (by rw [kmo]; rfl)) z34
  have z78 : q_ir (q_r f46 mo 30) c1 := Eq.trans (hF.r hmo (by rw [kmo]; rfl)) z35
  have z79 : q_ir (q_r f46 mo 31) c2 := Eq.trans (hF.r hmo (by rw [kmo]; rfl)) z36
  have z80 : q_ir (q_r f46 mo 32) c3 := Eq.trans (hF.r hmo (by rw [kmo]; rfl)) z37
  have z81 : q_ir (q_r f46 mo 33) bg := Eq.trans (hF.r hmo (by rw [kmo]; rfl)) z38
  have z82 : q_ir (q_r f46 mo 34) lp := Eq.trans (hF.r hmo (by rw [kmo]; rfl)) z39
  have z83 : q_ir (q_r f46 mo 38) rp := Eq.trans (hF.r hmo (by rw [kmo]; rfl)) z40
  have g84 : q_pk f46 mo pa := q_pk_tr g42 (hF.z hmo (by rw [kmo]; rfl)) (fun i9 => hF.z hpa (by rw [kpa]; rfl))
  have g85 : q_sv f46 mo sd := q_sv_tr g43 (hF.z hmo (by rw [kmo]; rfl)) (fun i9 => hF.z hsd (by rw [ksd]; rfl))
  have g86 : tk_bb f46 bu ba tn := tk_bb_tr g44 (fun i9 => hF.z hbu (by rw [kbu]; rfl)) (fun i9 => hF.z hba (by rw [kba]; rfl))
  have g87 : tk_ij K L f46 nds := tk_ij_tr g45 (fun i9 => hF.r hnds (by rw [knds]; rfl))
  obtain ⟨x88, ex88⟩ : ∃ zz, q_is (q_z f46 sr 3) zz := ⟨_, q_isr _⟩
  obtain ⟨lx88, ux88⟩ := q_isb ex88 ⟨lz49, uz49⟩
  obtain ⟨x89, ex89⟩ : ∃ zz, q_is (q_z f46 sr 4) zz := ⟨_, q_isr _⟩
  obtain ⟨lx89, ux89⟩ := q_isb ex89 ⟨lz50, uz50⟩
  refine lv_istore (lv' := [(7, .int (q_i y47)), (6, .int (q_i y5)), (5, .int (q_i ii)), (4, .ref outD), (3, .ref out), (2, .ref mo), (1, .ref x), (0, .ref b)]) cx.1 cx.2.1 dL_law_988 hl (by decide) rfl (fun ls hl => ?_)
  refine lv_goto (tgt := 1521) cx.1 cx.2.1 dL_law_990 (by decide) ?_
  refine W.widen (k := cells + 6) (n := slots + 36) (by omega) (by omega) ?_
  exact kk f46 H locs ls tn hB ⟨⟨z52, (Eq.trans z53 (by omega)), by omega, by omega⟩, g51, g84, g85, q_isu ex88 (by omega), q_isu ex89 (by omega), tk_bb_le g86 (by omega)⟩ (lv_sub hl [2, 3, 4, 5, 6, 7] rfl)
set_option maxHeartbeats 4000000 in
set_option maxRecDepth 100000 in
theorem law_c993 {p : Program} {l : Launch} {e : Env} {s : State} {m : MethodId} {below : List Frame} {meth : Method} {c : Code} {b N9 : Nat} {xs : Nat → Int32} (hfl : l.stackTraces = false) (hN9 : N9 ≤ 3072) (C0 : lw_At p s m meth c b N9 xs) (cx : CallFix p m c cL_law 10 s #[Value.ref b] q_al RL) {g : q_G} {ad : Nat → Nat} {K : Nat → Nat} {L : List Nat} (hN : L.Nodup) (hLA : ∀ q, q ∈ L → s.heap.size ≤ q) (hX : q_X ad (fun q => q ∈ L) s) {f0 : Nat → va_E} {x : Nat} (hx : x ∈ L) (kx : K x = 11) {so : Nat} (hso : so ∈ L) (kso : K so = 8) {rd : Nat} (hrd : rd ∈ L) (krd : K rd = 9) {scr : Nat} (hscr : scr ∈ L) (kscr : K scr = 7) {fc : Nat} (hfc : fc ∈ L) (kfc : K fc = 1) {hist : Nat} (hhist : hist ∈ L) (khist : K hist = 2) {rep : Nat} (hrep : rep ∈ L) (krep : K rep = 6) {now : Nat} (hnow : now ∈ L) (know : K now = 10) {dr : Nat} (hdr : dr ∈ L) (kdr : K dr = 13) {sv : Nat} (hsv : sv ∈ L) (ksv : K sv = 14) {tr : Nat} (htr : tr ∈ L) (ktr : K tr = 15) {ba : Nat} (hba : ba ∈ L) (kba : K ba = 142) {nds : Nat} (hnds : nds ∈ L) (knds : K nds = 111) {mo : Nat} (hmo : mo ∈ L) (kmo : K mo = 12) {bu : Nat} (hbu : bu ∈ L) (kbu : K bu = 150) {sr : Nat} (hsr : sr ∈ L) (ksr : K sr = 151) {sd : Nat} (hsd : sd ∈ L) (ksd : K sd = 152) {as : Nat} (has : as ∈ L) (kas : K as = 153) {aw : Nat} (haw : aw ∈ L) (kaw : K aw = 154) {pa : Nat} (hpa : pa ∈ L) (kpa : K pa = 155) {nm : Nat} (hnm : nm ∈ L) (knm : K nm = 156) {snm : Nat} (hsnm : snm ∈ L) (ksnm : K snm = 157) {anm : Nat} (hanm : anm ∈ L) (kanm : K anm = 158) {hp : Nat} (hhp : hp ∈ L) (khp : K hp = 159) {dy : Nat} (hdy : dy ∈ L) (kdy : K dy = 160) {cs : Nat} (hcs : cs ∈ L) (kcs : K cs = 161) {c1 : Nat} (hc1 : c1 ∈ L) (kc1 : K c1 = 162) {c2 : Nat} (hc2 : c2 ∈ L) (kc2 : K c2 = 163) {c3 : Nat} (hc3 : c3 ∈ L) (kc3 : K c3 = 164) {bg : Nat} (hbg : bg ∈ L) (kbg : K bg = 165) {lp : Nat} (hlp : lp ∈ L) (klp : K lp = 166) {rp : Nat} (hrp : rp ∈ L) (krp : K rp = 167) {out : Nat} (hout : out ∈ L) (kout : K out = 168) {outD : Nat} (houtD : outD ∈ L) (koutD : K outD = 169) (hr0 : q_ir (q_r f0 x 0) so) (hr1 : q_ir (q_r f0 x 1) rd) (hr2 : q_ir (q_r f0 x 2) scr) (hr3 : q_ir (q_r f0 x 3) fc) (hr4 : q_ir (q_r f0 x 4) hist) (hr5 : q_ir (q_r f0 x 5) rep) (hr6 : q_ir (q_r f0 x 6) now) (hr7 : q_ir (q_r f0 x 7) dr) (hr8 : q_ir (q_r f0 x 8) sv) (hr9 : q_ir (q_r f0 fc 0) tr) (hr10 : q_ir (q_r f0 so 0) ba) (hr11 : q_ir (q_r f0 dr 0) nds) (hr12 : q_ir (q_r f0 mo 1) bu) (hr13 : q_ir (q_r f0 mo 13) sr) (hr14 : q_ir (q_r f0 mo 14) sd) (hr15 : q_ir (q_r f0 mo 15) as) (hr16 : q_ir (q_r f0 mo 16) aw) (hr17 : q_ir (q_r f0 mo 17) pa) (hr18 : q_ir (q_r f0 mo 18) nm) (hr19 : q_ir (q_r f0 mo 19) snm) (hr20 : q_ir (q_r f0 mo 20) anm) (hr21 : q_ir (q_r f0 mo 24) hp) (hr22 : q_ir (q_r f0 mo 25) dy) (hr23 : q_ir (q_r f0 mo 29) cs) (hr24 : q_ir (q_r f0 mo 30) c1) (hr25 : q_ir (q_r f0 mo 31) c2) (hr26 : q_ir (q_r f0 mo 32) c3) (hr27 : q_ir (q_r f0 mo 33) bg) (hr28 : q_ir (q_r f0 mo 34) lp) (hr29 : q_ir (q_r f0 mo 38) rp) (hij : tk_ij K L f0 nds) {f : Nat → va_E} {H : Heap} {locs : List Loc} {ls : Array Slot} {cells slots : Nat} {ii tn : Int} (hB : q_B g K L (fun q => s.heap.size ≤ q) [(0, 0, 6), (2, 1, 2), (3, 0, 4), (4, 0, 7), (5, 0, 9), (6, 1, 1), (7, 1, 4), (8, 1, 9), (9, 0, 2), (10, 3, 15), (11, 9, 9), (12, 0, 0), (12, 2, 12), (12, 21, 23), (12, 26, 28), (12, 35, 37), (12, 39, 40), (13, 3, 15), (14, 3, 15), (15, 3, 15), (16, 3, 15), (17, 0, 9), (18, 0, 9), (19, 0, 9), (20, 0, 9), (21, 0, 4), (22, 0, 4), (23, 0, 4), (24, 0, 4), (25, 0, 7), (26, 0, 7), (27, 0, 7), (28, 0, 7), (142, 0, 599), (143, 0, 599), (150, 0, 599), (151, 0, 657), (152, 0, 657), (153, 0, 657), (154, 0, 657), (155, 0, 3947), (156, 0, 9), (157, 0, 9), (158, 0, 9), (159, 0, 9), (160, 0, 9), (161, 0, 59), (162, 0, 58), (163, 0, 58), (164, 0, 58), (165, 0, 1), (166, 0, 1), (167, 0, 479), (168, 0, 0), (169, 0, 0)] f0 f s H locs) (hI : q_Iv4 f so mo sr pa sd bu ba tn) (hl : lv_has ls 10 [(5, .int (q_i ii)), (4, .ref outD), (3, .ref out), (2, .ref mo), (1, .ref x), (0, .ref b)]) (hi0 : 0 ≤ ii) (hi6 : ii + 6 ≤ N9) (hce : cells + 6 ≤ 10000) (hse : slots + 36 ≤ 100000) (kk : ∀ (f1 : Nat → va_E) (H1 : Heap) (locs1 : List Loc) (ls1 : Array Slot) (tn1 : Int), q_B g K L (fun q => s.heap.size ≤ q) [(0, 0, 6), (2, 1, 2), (3, 0, 4), (4, 0, 7), (5, 0, 9), (6, 1, 1), (7, 1, 4), (8, 1, 9), (9, 0, 2), (10, 3, 15), (11, 9, 9), (12, 0, 0), (12, 2, 12), (12, 21, 23), (12, 26, 28), (12, 35, 37), (12, 39, 40), (13, 3, 15), (14, 3, 15), (15, 3, 15), (16, 3, 15), (17, 0, 9), (18, 0, 9), (19, 0, 9), (20, 0, 9), (21, 0, 4), (22, 0, 4), (23, 0, 4), (24, 0, 4), (25, 0, 7), (26, 0, 7), (27, 0, 7), (28, 0, 7), (142, 0, 599), (143, 0, 599), (150, 0, 599), (151, 0, 657), (152, 0, 657), (153, 0, 657), (154, 0, 657), (155, 0, 3947), (156, 0, 9), (157, 0, 9), (158, 0, 9), (159, 0, 9), (160, 0, 9), (161, 0, 59), (162, 0, 58), (163, 0, 58), (164, 0, 58), (165, 0, 1), (166, 0, 1), (167, 0, 479), (168, 0, 0), (169, 0, 0)] f0 f1 s H1 locs1 → q_Iv4 f1 so mo sr pa sd bu ba tn1 → lv_has ls1 10 [(5, .int (q_i ii)), (4, .ref outD), (3, .ref out), (2, .ref mo), (1, .ref x), (0, .ref b)] → W p l e room_1 s m #[Value.ref b] below meth c H1 locs1 (cells + 6) (slots + 36) (lw_Z below #[Value.ref b] s) (F0 m 1521 ls1 [])) : W p l e room_1 s m #[Value.ref b] below meth c H locs (cells) (slots) (lw_Z below #[Value.ref b] s) (F0 m 993 ls []) := by
  have hXs := C0.2.2.2.2.2.2.1
  have hbl := C0.2.2.2.2.2.2.2.1
  have hbA := q_bA hbl
  obtain ⟨⟨hn0, hn1, ltn, utn⟩, hgr, hpk, hsd9, ht3, ht4, hbb⟩ := hI
  have hr0 : q_ir (q_r f x 0) so := Eq.trans (hB.2.2.r hx (by rw [kx]; rfl)) hr0
  have hr1 : q_ir (q_r f x 1) rd := Eq.trans (hB.2.2.r hx (by rw [kx]; rfl)) hr1
  have hr2 : q_ir (q_r f x 2) scr := Eq.trans (hB.2.2.r hx (by rw [kx]; rfl)) hr2
  have hr3 : q_ir (q_r f x 3) fc := Eq.trans (hB.2.2.r hx (by rw [kx]; rfl)) hr3
  have hr4 : q_ir (q_r f x 4) hist := Eq.trans (hB.2.2.r hx (by rw [kx]; rfl)) hr4
  have hr5 : q_ir (q_r f x 5) rep := Eq.trans (hB.2.2.r hx (by rw [kx]; rfl)) hr5
  have hr6 : q_ir (q_r f x 6) now := Eq.trans (hB.2.2.r hx (by rw [kx]; rfl)) hr6
  have hr7 : q_ir (q_r f x 7) dr := Eq.trans (hB.2.2.r hx (by rw [kx]; rfl)) hr7
  have hr8 : q_ir (q_r f x 8) sv := Eq.trans (hB.2.2.r hx (by rw [kx]; rfl)) hr8
  have hr9 : q_ir (q_r f fc 0) tr := Eq.trans (hB.2.2.r hfc (by rw [kfc]; rfl)) hr9
  have hr10 : q_ir (q_r f so 0) ba := Eq.trans (hB.2.2.r hso (by rw [kso]; rfl)) hr10
  have hr11 : q_ir (q_r f dr 0) nds := Eq.trans (hB.2.2.r hdr (by rw [kdr]; rfl)) hr11
  have hr12 : q_ir (q_r f mo 1) bu := Eq.trans (hB.2.2.r hmo (by rw [kmo]; rfl)) hr12
  have hr13 : q_ir (q_r f mo 13) sr := Eq.trans (hB.2.2.r hmo (by rw [kmo]; rfl)) hr13
  have hr14 : q_ir (q_r f mo 14) sd := Eq.trans (hB.2.2.r hmo (by rw [kmo]; rfl)) hr14
  have hr15 : q_ir (q_r f mo 15) as := Eq.trans (hB.2.2.r hmo (by rw [kmo]; rfl)) hr15
  have hr16 : q_ir (q_r f mo 16) aw := Eq.trans (hB.2.2.r hmo (by rw [kmo]; rfl)) hr16
  have hr17 : q_ir (q_r f mo 17) pa := Eq.trans (hB.2.2.r hmo (by rw [kmo]; rfl)) hr17
  have hr18 : q_ir (q_r f mo 18) nm := Eq.trans (hB.2.2.r hmo (by rw [kmo]; rfl)) hr18
  have hr19 : q_ir (q_r f mo 19) snm := Eq.trans (hB.2.2.r hmo (by rw [kmo]; rfl)) hr19
  have hr20 : q_ir (q_r f mo 20) anm := Eq.trans (hB.2.2.r hmo (by rw [kmo]; rfl)) hr20
  have hr21 : q_ir (q_r f mo 24) hp := Eq.trans (hB.2.2.r hmo (by rw [kmo]; rfl)) hr21
  have hr22 : q_ir (q_r f mo 25) dy := Eq.trans (hB.2.2.r hmo (by rw [kmo]; rfl)) hr22
  have hr23 : q_ir (q_r f mo 29) cs := Eq.trans (hB.2.2.r hmo (by rw [kmo]; rfl)) hr23
  have hr24 : q_ir (q_r f mo 30) c1 := Eq.trans (hB.2.2.r hmo (by rw [kmo]; rfl)) hr24
  have hr25 : q_ir (q_r f mo 31) c2 := Eq.trans (hB.2.2.r hmo (by rw [kmo]; rfl)) hr25
  have hr26 : q_ir (q_r f mo 32) c3 := Eq.trans (hB.2.2.r hmo (by rw [kmo]; rfl)) hr26
  have hr27 : q_ir (q_r f mo 33) bg := Eq.trans (hB.2.2.r hmo (by rw [kmo]; rfl)) hr27
  have hr28 : q_ir (q_r f mo 34) lp := Eq.trans (hB.2.2.r hmo (by rw [kmo]; rfl)) hr28
  have hr29 : q_ir (q_r f mo 38) rp := Eq.trans (hB.2.2.r hmo (by rw [kmo]; rfl)) hr29
  have hij : tk_ij K L f nds := tk_ij_tr hij (fun i9 => hB.2.2.r hnds (by rw [knds]; rfl))
  obtain ⟨x1, ex1⟩ : ∃ zz, q_is (q_z f sr 3) zz := ⟨_, q_isr _⟩
  obtain ⟨lx1, ux1⟩ : 0 ≤ x1 ∧ x1 ≤ 9999 := q_isb ex1 ⟨(hgr 3 (by decide)).1, ht3⟩
  obtain ⟨x2, ex2⟩ : ∃ zz, q_is (q_z f sr 4) zz := ⟨_, q_isr _⟩
  obtain ⟨lx2, ux2⟩ : 0 ≤ x2 ∧ x2 ≤ 60 := q_isb ex2 ⟨(hgr 4 (by decide)).1, ht4⟩
  refine q_ald_n cx dL_law_993 rfl (lv_at hl 4 rfl) ?_
  refine q_ald_n cx dL_law_994 rfl (lv_at hl 5 rfl) ?_
  refine lv_iload cx.1 cx.2.1 dL_law_995 (lv_at hl 0 rfl) ?_
  refine q_iconst cx dL_law_997 ?_
  refine q_iadd cx dL_law_998 ?_
  refine va_sld cx.1 cx.2.1 hXs hbl hbA hB.1.2.2.2 (q_in (by omega) (by omega) (by omega)) dL_law_999 ?_
  obtain ⟨a3, ra3, ea3⟩ : ∃ z : Int, q_R z ∧ xs (q_i (ii + 1)).toNatClampNeg = q_i z := ⟨_, q_rng _, (q_of _).symm⟩
  rw [ea3]
  refine q_ald_n cx dL_law_1000 rfl (lv_at hl 5 rfl) ?_
  refine lv_iload cx.1 cx.2.1 dL_law_1001 (lv_at hl 0 rfl) ?_
  refine q_iconst cx dL_law_1003 ?_
  refine q_iadd cx dL_law_1004 ?_
  refine va_sld cx.1 cx.2.1 hXs hbl hbA hB.1.2.2.2 (q_in (by omega) (by omega) (by omega)) dL_law_1005 ?_
  obtain ⟨a4, ra4, ea4⟩ : ∃ z : Int, q_R z ∧ xs (q_i (ii + 2)).toNatClampNeg = q_i z := ⟨_, q_rng _, (q_of _).symm⟩
  rw [ea4]
  refine q_ald_n cx dL_law_1006 rfl (lv_at hl 2 rfl) ?_
  refine q_cWS (As := [.ref x, .int (q_i a3), .int (q_i a4), .ref out]) (rest := []) cx hX hB (fun q h => hLA q h) (fun q h1 h2 => absurd h1 (Nat.not_le_of_lt h2)) hN (w_energyIn l g ad hN hB.2.1 hfl x hx kx a3 (by omega) (by omega) a4 (by omega) (by omega) out hout kout so hso kso rd hrd krd scr hscr kscr fc hfc kfc hist hhist khist rep hrep krep now hnow know dr hdr kdr sv hsv ksv tr htr ktr hr0 hr1 hr2 hr3 hr4 hr5 hr6 hr7 hr8 hr9) q_cL_208 q_dL_energyIn ⟨by decide, by show cells + 2 ≤ 601024; omega, by show slots + 12 ≤ 7293034; omega⟩ rfl rfl hl.1 rfl (Nat.le_of_ble_eq_true rfl) dL_law_1007 (fun v9 H locs f5 h7 hF hB => ?_)
  obtain ⟨y6, rfl, ry6, h7⟩ := h7
  refine W.eq (g2 := F0 m 1010 ls [.int (q_i y6)]) rfl ?_
  obtain ⟨ly6, uy6⟩ := h7
  have z8 : q_is (q_z f5 so 1) tn := Eq.trans (hF.z hso (by rw [kso]; rfl)) hn0
  have z9 : q_is (q_z f5 mo 2) tn := Eq.trans (hF.z hmo (by rw [kmo]; rfl)) hn1
  have z10 : q_is (q_z f5 sr 3) x1 := Eq.trans (hF.z hsr (by rw [ksr]; rfl)) ex1
  have z11 : q_is (q_z f5 sr 4) x2 := Eq.trans (hF.z hsr (by rw [ksr]; rfl)) ex2
  have z12 : q_ir (q_r f5 x 0) so := Eq.trans (hF.r hx (by rw [kx]; rfl)) hr0
  have z13 : q_ir (q_r f5 x 1) rd := Eq.trans (hF.r hx (by rw [kx]; rfl)) hr1
  have z14 : q_ir (q_r f5 x 2) scr := Eq.trans (hF.r hx (by rw [kx]; rfl)) hr2
  have z15 : q_ir (q_r f5 x 3) fc := Eq.trans (hF.r hx (by rw [kx]; rfl)) hr3
  have z16 : q_ir (q_r f5 x 4) hist := Eq.trans (hF.r hx (by rw [kx]; rfl)) hr4
  have z17 : q_ir (q_r f5 x 5) rep := Eq.trans (hF.r hx (by rw [kx]; rfl)) hr5
  have z18 : q_ir (q_r f5 x 6) now := Eq.trans (hF.r hx (by rw [kx]; rfl)) hr6
  have z19 : q_ir (q_r f5 x 7) dr := Eq.trans (hF.r hx (by rw [kx]; rfl)) hr7
  have z20 : q_ir (q_r f5 x 8) sv := Eq.trans (hF.r hx (by rw [kx]; rfl)) hr8
  have z21 : q_ir (q_r f5 fc 0) tr := Eq.trans (hF.r hfc (by rw [kfc]; rfl)) hr9
  have z22 : q_ir (q_r f5 so 0) ba := Eq.trans (hF.r hso (by rw [kso]; rfl)) hr10
  have z23 : q_ir (q_r f5 dr 0) nds := Eq.trans (hF.r hdr (by rw [kdr]; rfl)) hr11
  have z24 : q_ir (q_r f5 mo 1) bu := Eq.trans (hF.r hmo (by rw [kmo]; rfl)) hr12
  have z25 : q_ir (q_r f5 mo 13) sr := Eq.trans (hF.r hmo (by rw [kmo]; rfl)) hr13
  have z26 : q_ir (q_r f5 mo 14) sd := Eq.trans (hF.r hmo (by rw [kmo]; rfl)) hr14
  have z27 : q_ir (q_r f5 mo 15) as := Eq.trans (hF.r hmo (by rw [kmo]; rfl)) hr15
  have z28 : q_ir (q_r f5 mo 16) aw := Eq.trans (hF.r hmo (by rw [kmo]; rfl)) hr16
  have z29 : q_ir (q_r f5 mo 17) pa := Eq.trans (hF.r hmo (by rw [kmo]; rfl)) hr17
  have z30 : q_ir (q_r f5 mo 18) nm := Eq.trans (hF.r hmo (by rw [kmo]; rfl)) hr18
  have z31 : q_ir (q_r f5 mo 19) snm := Eq.trans (hF.r hmo (by rw [kmo]; rfl)) hr19
  have z32 : q_ir (q_r f5 mo 20) anm := Eq.trans (hF.r hmo (by rw [kmo]; rfl)) hr20
  have z33 : q_ir (q_r f5 mo 24) hp := Eq.trans (hF.r hmo (by rw [kmo]; rfl)) hr21
  have z34 : q_ir (q_r f5 mo 25) dy := Eq.trans (hF.r hmo (by rw [kmo]; rfl)) hr22
  have z35 : q_ir (q_r f5 mo 29) cs := Eq.trans (hF.r hmo (by rw [kmo]; rfl)) hr23
  have z36 : q_ir (q_r f5 mo 30) c1 := Eq.trans (hF.r hmo (by rw [kmo]; rfl)) hr24
  have z37 : q_ir (q_r f5 mo 31) c2 := Eq.trans (hF.r hmo (by rw [kmo]; rfl)) hr25
  have z38 : q_ir (q_r f5 mo 32) c3 := Eq.trans (hF.r hmo (by rw [kmo]; rfl)) hr26
  have z39 : q_ir (q_r f5 mo 33) bg := Eq.trans (hF.r hmo (by rw [kmo]; rfl)) hr27
  have z40 : q_ir (q_r f5 mo 34) lp := Eq.trans (hF.r hmo (by rw [kmo]; rfl)) hr28
  have z41 : q_ir (q_r f5 mo 38) rp := Eq.trans (hF.r hmo (by rw [kmo]; rfl)) hr29
  have g42 : q_gr f5 sr := q_gr_fr hgr (fun i9 _ => hF.z hsr (by rw [ksr]; rfl))
  have g43 : q_pk f5 mo pa := q_pk_tr hpk (hF.z hmo (by rw [kmo]; rfl)) (fun i9 => hF.z hpa (by rw [kpa]; rfl))
  have g44 : q_sv f5 mo sd := q_sv_tr hsd9 (hF.z hmo (by rw [kmo]; rfl)) (fun i9 => hF.z hsd (by rw [ksd]; rfl))
  have g45 : tk_bb f5 bu ba tn := tk_bb_tr hbb (fun i9 => hF.z hbu (by rw [kbu]; rfl)) (fun i9 => hF.z hba (by rw [kba]; rfl))
  have g46 : tk_ij K L f5 nds := tk_ij_tr hij (fun i9 => hF.r hnds (by rw [knds]; rfl))
  refine lv_istore (lv' := [(6, .int (q_i y6)), (5, .int (q_i ii)), (4, .ref outD), (3, .ref out), (2, .ref mo), (1, .ref x), (0, .ref b)]) cx.1 cx.2.1 dL_law_1010 hl (by decide) rfl (fun ls hl => ?_)
  refine q_ald_n cx dL_law_1012 rfl (lv_at hl 4 rfl) ?_
  refine q_ald_n cx dL_law_1013 rfl (lv_at hl 6 rfl) ?_
  refine lv_iload cx.1 cx.2.1 dL_law_1014 (lv_at hl 1 rfl) ?_
  refine q_iconst cx dL_law_1016 ?_
  refine q_iadd cx dL_law_1017 ?_
  refine va_sld cx.1 cx.2.1 hXs hbl hbA hB.1.2.2.2 (q_in (by omega) (by omega) (by omega)) dL_law_1018 ?_
  rw [ea3]
  refine q_ald_n cx dL_law_1019 rfl (lv_at hl 6 rfl) ?_
  refine lv_iload cx.1 cx.2.1 dL_law_1020 (lv_at hl 1 rfl) ?_
  refine q_iconst cx dL_law_1022 ?_
  refine q_iadd cx dL_law_1023 ?_
  refine va_sld cx.1 cx.2.1 hXs hbl hbA hB.1.2.2.2 (q_in (by omega) (by omega) (by omega)) dL_law_1024 ?_
  rw [ea4]
  refine q_cVi (As := [.int (q_i a3), .int (q_i a4)]) (rest := []) cx hB (fun q h => hLA q h) hN hmo kmo (by decide) rfl (r_energyIn l g hN hB.2.1 mo hmo kmo a3 (by omega) (by omega) a4 (by omega) (by omega) sr hsr ksr hp hhp khp dy hdy kdy aw haw kaw x1 (by omega) (by omega) x2 (by omega) (by omega) z10 z11 z25 z33 z34 z28 g42) q_cL_210 q_dX12_energyIn ⟨by decide, by show cells + 2 ≤ 601024; omega, by show slots + 12 ≤ 7293034; omega⟩ rfl rfl hl.1 rfl (Nat.le_of_ble_eq_true rfl) dL_law_1025 (fun y48 H locs f47 ry48 h49 hF hB => ?_)
  obtain ⟨ly48, uy48, lz50, uz50, lz51, uz51, g52⟩ := h49
  have z53 : q_is (q_z f47 so 1) tn := Eq.trans (hF.z hso (by rw [kso]; rfl)) z8
  have z54 : q_is (q_z f47 mo 2) tn := Eq.trans (hF.z hmo (by rw [kmo]; rfl)) z9
  have z55 : q_ir (q_r f47 x 0) so := Eq.trans (hF.r hx (by rw [kx]; rfl)) z12
  have z56 : q_ir (q_r f47 x 1) rd := Eq.trans (hF.r hx (by rw [kx]; rfl)) z13
  have z57 : q_ir (q_r f47 x 2) scr := Eq.trans (hF.r hx (by rw [kx]; rfl)) z14
  have z58 : q_ir (q_r f47 x 3) fc := Eq.trans (hF.r hx (by rw [kx]; rfl)) z15
  have z59 : q_ir (q_r f47 x 4) hist := Eq.trans (hF.r hx (by rw [kx]; rfl)) z16
  have z60 : q_ir (q_r f47 x 5) rep := Eq.trans (hF.r hx (by rw [kx]; rfl)) z17
  have z61 : q_ir (q_r f47 x 6) now := Eq.trans (hF.r hx (by rw [kx]; rfl)) z18
  have z62 : q_ir (q_r f47 x 7) dr := Eq.trans (hF.r hx (by rw [kx]; rfl)) z19
  have z63 : q_ir (q_r f47 x 8) sv := Eq.trans (hF.r hx (by rw [kx]; rfl)) z20
  have z64 : q_ir (q_r f47 fc 0) tr := Eq.trans (hF.r hfc (by rw [kfc]; rfl)) z21
  have z65 : q_ir (q_r f47 so 0) ba := Eq.trans (hF.r hso (by rw [kso]; rfl)) z22
  have z66 : q_ir (q_r f47 dr 0) nds := Eq.trans (hF.r hdr (by rw [kdr]; rfl)) z23
  have z67 : q_ir (q_r f47 mo 1) bu := Eq.trans (hF.r hmo (by rw [kmo]; rfl)) z24
  have z68 : q_ir (q_r f47 mo 13) sr := Eq.trans (hF.r hmo (by rw [kmo]; rfl)) z25
  have z69 : q_ir (q_r f47 mo 14) sd := Eq.trans (hF.r hmo (by rw [kmo]; rfl)) z26
  have z70 : q_ir (q_r f47 mo 15) as := Eq.trans (hF.r hmo (by rw [kmo]; rfl)) z27
  have z71 : q_ir (q_r f47 mo 16) aw := Eq.trans (hF.r hmo (by rw [kmo]; rfl)) z28
  have z72 : q_ir (q_r f47 mo 17) pa := Eq.trans (hF.r hmo (by rw [kmo]; rfl)) z29
  have z73 : q_ir (q_r f47 mo 18) nm := Eq.trans (hF.r hmo (by rw [kmo]; rfl)) z30
  have z74 : q_ir (q_r f47 mo 19) snm := Eq.trans (hF.r hmo (by rw [kmo]; rfl)) z31
  have z75 : q_ir (q_r f47 mo 20) anm := Eq.trans (hF.r hmo (by rw [kmo]; rfl)) z32
  have z76 : q_ir (q_r f47 mo 24) hp := Eq.trans (hF.r hmo (by rw [kmo]; rfl)) z33
  have z77 : q_ir (q_r f47 mo 25) dy := Eq.trans (hF.r hmo (by rw [kmo]; rfl)) z34
  have z78 : q_ir (q_r f47 mo 29) cs := Eq.trans (hF.r hmo (by rw [kmo]; rfl)) z35
  have z79 : q_ir (q_r f47 mo 30) c1 := Eq.trans (hF.r hmo (by rw [kmo]; rfl)) z36
  have z80 : q_ir (q_r f47 mo 31) c2 := Eq.trans (hF.r hmo (by rw [kmo]; rfl)) z37
  have z81 : q_ir (q_r f47 mo 32) c3 := Eq.trans (hF.r hmo (by rw [kmo]; rfl)) z38
  have z82 : q_ir (q_r f47 mo 33) bg := Eq.trans (hF.r hmo (by rw [kmo]; rfl)) z39
  have z83 : q_ir (q_r f47 mo 34) lp := Eq.trans (hF.r hmo (by rw [kmo]; rfl)) z40
  have z84 : q_ir (q_r f47 mo 38) rp := Eq.trans (hF.r hmo (by rw [kmo]; rfl)) z41
  have g85 : q_pk f47 mo pa := q_pk_tr g43 (hF.z hmo (by rw [kmo]; rfl)) (fun i9 => hF.z hpa (by rw [kpa]; rfl))
  have g86 : q_sv f47 mo sd := q_sv_tr g44 (hF.z hmo (by rw [kmo]; rfl)) (fun i9 => hF.z hsd (by rw [ksd]; rfl))
  have g87 : tk_bb f47 bu ba tn := tk_bb_tr g45 (fun i9 => hF.z hbu (by rw [kbu]; rfl)) (fun i9 => hF.z hba (by rw [kba]; rfl))
  have g88 : tk_ij K L f47 nds := tk_ij_tr g46 (fun i9 => hF.r hnds (by rw [knds]; rfl))
  obtain ⟨x89, ex89⟩ : ∃ zz, q_is (q_z f47 sr 3) zz := ⟨_, q_isr _⟩
  obtain ⟨lx89, ux89⟩ := q_isb ex89 ⟨lz50, uz50⟩
  obtain ⟨x90, ex90⟩ : ∃ zz, q_is (q_z f47 sr 4) zz := ⟨_, q_isr _⟩
  obtain ⟨lx90, ux90⟩ := q_isb ex90 ⟨lz51, uz51⟩
  refine lv_istore (lv' := [(7, .int (q_i y48)), (6, .int (q_i y6)), (5, .int (q_i ii)), (4, .ref outD), (3, .ref out), (2, .ref mo), (1, .ref x), (0, .ref b)]) cx.1 cx.2.1 dL_law_1028 hl (by decide) rfl (fun ls hl => ?_)
  refine lv_goto (tgt := 1521) cx.1 cx.2.1 dL_law_1030 (by decide) ?_
  refine W.widen (k := cells + 6) (n := slots + 36) (by omega) (by omega) ?_
  exact kk f47 H locs ls tn hB ⟨⟨z53, (Eq.trans z54 (by omega)), by omega, by omega⟩, g52, g85, g86, q_isu ex89 (by omega), q_isu ex90 (by omega), tk_bb_le g87 (by omega)⟩ (lv_sub hl [2, 3, 4, 5, 6, 7] rfl)
set_option maxHeartbeats 4000000 in
set_option maxRecDepth 100000 in
theorem law_c1033 {p : Program} {l : Launch} {e : Env} {s : State} {m : MethodId} {below : List Frame} {meth : Method} {c : Code} {b N9 : Nat} {xs : Nat → Int32} (hfl : l.stackTraces = false) (hN9 : N9 ≤ 3072) (C0 : lw_At p s m meth c b N9 xs) (cx : CallFix p m c cL_law 10 s #[Value.ref b] q_al RL) {g : q_G} {ad : Nat → Nat} {K : Nat → Nat} {L : List Nat} (hN : L.Nodup) (hLA : ∀ q, q ∈ L → s.heap.size ≤ q) (hX : q_X ad (fun q => q ∈ L) s) {f0 : Nat → va_E} {x : Nat} (hx : x ∈ L) (kx : K x = 11) {so : Nat} (hso : so ∈ L) (kso : K so = 8) {rd : Nat} (hrd : rd ∈ L) (krd : K rd = 9) {scr : Nat} (hscr : scr ∈ L) (kscr : K scr = 7) {fc : Nat} (hfc : fc ∈ L) (kfc : K fc = 1) {hist : Nat} (hhist : hist ∈ L) (khist : K hist = 2) {rep : Nat} (hrep : rep ∈ L) (krep : K rep = 6) {now : Nat} (hnow : now ∈ L) (know : K now = 10) {dr : Nat} (hdr : dr ∈ L) (kdr : K dr = 13) {sv : Nat} (hsv : sv ∈ L) (ksv : K sv = 14) {tr : Nat} (htr : tr ∈ L) (ktr : K tr = 15) {ba : Nat} (hba : ba ∈ L) (kba : K ba = 142) {nds : Nat} (hnds : nds ∈ L) (knds : K nds = 111) {mo : Nat} (hmo : mo ∈ L) (kmo : K mo = 12) {bu : Nat} (hbu : bu ∈ L) (kbu : K bu = 150) {sr : Nat} (hsr : sr ∈ L) (ksr : K sr = 151) {sd : Nat} (hsd : sd ∈ L) (ksd : K sd = 152) {as : Nat} (has : as ∈ L) (kas : K as = 153) {aw : Nat} (haw : aw ∈ L) (kaw : K aw = 154) {pa : Nat} (hpa : pa ∈ L) (kpa : K pa = 155) {nm : Nat} (hnm : nm ∈ L) (knm : K nm = 156) {snm : Nat} (hsnm : snm ∈ L) (ksnm : K snm = 157) {anm : Nat} (hanm : anm ∈ L) (kanm : K anm = 158) {hp : Nat} (hhp : hp ∈ L) (khp : K hp = 159) {dy : Nat} (hdy : dy ∈ L) (kdy : K dy = 160) {cs : Nat} (hcs : cs ∈ L) (kcs : K cs = 161) {c1 : Nat} (hc1 : c1 ∈ L) (kc1 : K c1 = 162) {c2 : Nat} (hc2 : c2 ∈ L) (kc2 : K c2 = 163) {c3 : Nat} (hc3 : c3 ∈ L) (kc3 : K c3 = 164) {bg : Nat} (hbg : bg ∈ L) (kbg : K bg = 165) {lp : Nat} (hlp : lp ∈ L) (klp : K lp = 166) {rp : Nat} (hrp : rp ∈ L) (krp : K rp = 167) {out : Nat} (hout : out ∈ L) (kout : K out = 168) {outD : Nat} (houtD : outD ∈ L) (koutD : K outD = 169) (hr0 : q_ir (q_r f0 x 0) so) (hr1 : q_ir (q_r f0 x 1) rd) (hr2 : q_ir (q_r f0 x 2) scr) (hr3 : q_ir (q_r f0 x 3) fc) (hr4 : q_ir (q_r f0 x 4) hist) (hr5 : q_ir (q_r f0 x 5) rep) (hr6 : q_ir (q_r f0 x 6) now) (hr7 : q_ir (q_r f0 x 7) dr) (hr8 : q_ir (q_r f0 x 8) sv) (hr9 : q_ir (q_r f0 fc 0) tr) (hr10 : q_ir (q_r f0 so 0) ba) (hr11 : q_ir (q_r f0 dr 0) nds) (hr12 : q_ir (q_r f0 mo 1) bu) (hr13 : q_ir (q_r f0 mo 13) sr) (hr14 : q_ir (q_r f0 mo 14) sd) (hr15 : q_ir (q_r f0 mo 15) as) (hr16 : q_ir (q_r f0 mo 16) aw) (hr17 : q_ir (q_r f0 mo 17) pa) (hr18 : q_ir (q_r f0 mo 18) nm) (hr19 : q_ir (q_r f0 mo 19) snm) (hr20 : q_ir (q_r f0 mo 20) anm) (hr21 : q_ir (q_r f0 mo 24) hp) (hr22 : q_ir (q_r f0 mo 25) dy) (hr23 : q_ir (q_r f0 mo 29) cs) (hr24 : q_ir (q_r f0 mo 30) c1) (hr25 : q_ir (q_r f0 mo 31) c2) (hr26 : q_ir (q_r f0 mo 32) c3) (hr27 : q_ir (q_r f0 mo 33) bg) (hr28 : q_ir (q_r f0 mo 34) lp) (hr29 : q_ir (q_r f0 mo 38) rp) (hij : tk_ij K L f0 nds) {f : Nat → va_E} {H : Heap} {locs : List Loc} {ls : Array Slot} {cells slots : Nat} {ii tn : Int} (hB : q_B g K L (fun q => s.heap.size ≤ q) [(0, 0, 6), (2, 1, 2), (3, 0, 4), (4, 0, 7), (5, 0, 9), (6, 1, 1), (7, 1, 4), (8, 1, 9), (9, 0, 2), (10, 3, 15), (11, 9, 9), (12, 0, 0), (12, 2, 12), (12, 21, 23), (12, 26, 28), (12, 35, 37), (12, 39, 40), (13, 3, 15), (14, 3, 15), (15, 3, 15), (16, 3, 15), (17, 0, 9), (18, 0, 9), (19, 0, 9), (20, 0, 9), (21, 0, 4), (22, 0, 4), (23, 0, 4), (24, 0, 4), (25, 0, 7), (26, 0, 7), (27, 0, 7), (28, 0, 7), (142, 0, 599), (143, 0, 599), (150, 0, 599), (151, 0, 657), (152, 0, 657), (153, 0, 657), (154, 0, 657), (155, 0, 3947), (156, 0, 9), (157, 0, 9), (158, 0, 9), (159, 0, 9), (160, 0, 9), (161, 0, 59), (162, 0, 58), (163, 0, 58), (164, 0, 58), (165, 0, 1), (166, 0, 1), (167, 0, 479), (168, 0, 0), (169, 0, 0)] f0 f s H locs) (hI : q_Iv4 f so mo sr pa sd bu ba tn) (hl : lv_has ls 10 [(5, .int (q_i ii)), (4, .ref outD), (3, .ref out), (2, .ref mo), (1, .ref x), (0, .ref b)]) (hi0 : 0 ≤ ii) (hi6 : ii + 6 ≤ N9) (hce : cells + 6 ≤ 10000) (hse : slots + 36 ≤ 100000) (kk : ∀ (f1 : Nat → va_E) (H1 : Heap) (locs1 : List Loc) (ls1 : Array Slot) (tn1 : Int), q_B g K L (fun q => s.heap.size ≤ q) [(0, 0, 6), (2, 1, 2), (3, 0, 4), (4, 0, 7), (5, 0, 9), (6, 1, 1), (7, 1, 4), (8, 1, 9), (9, 0, 2), (10, 3, 15), (11, 9, 9), (12, 0, 0), (12, 2, 12), (12, 21, 23), (12, 26, 28), (12, 35, 37), (12, 39, 40), (13, 3, 15), (14, 3, 15), (15, 3, 15), (16, 3, 15), (17, 0, 9), (18, 0, 9), (19, 0, 9), (20, 0, 9), (21, 0, 4), (22, 0, 4), (23, 0, 4), (24, 0, 4), (25, 0, 7), (26, 0, 7), (27, 0, 7), (28, 0, 7), (142, 0, 599), (143, 0, 599), (150, 0, 599), (151, 0, 657), (152, 0, 657), (153, 0, 657), (154, 0, 657), (155, 0, 3947), (156, 0, 9), (157, 0, 9), (158, 0, 9), (159, 0, 9), (160, 0, 9), (161, 0, 59), (162, 0, 58), (163, 0, 58), (164, 0, 58), (165, 0, 1), (166, 0, 1), (167, 0, 479), (168, 0, 0), (169, 0, 0)] f0 f1 s H1 locs1 → q_Iv4 f1 so mo sr pa sd bu ba tn1 → lv_has ls1 10 [(5, .int (q_i ii)), (4, .ref outD), (3, .ref out), (2, .ref mo), (1, .ref x), (0, .ref b)] → W p l e room_1 s m #[Value.ref b] below meth c H1 locs1 (cells + 6) (slots + 36) (lw_Z below #[Value.ref b] s) (F0 m 1521 ls1 [])) : W p l e room_1 s m #[Value.ref b] below meth c H locs (cells) (slots) (lw_Z below #[Value.ref b] s) (F0 m 1033 ls []) := by
  have hXs := C0.2.2.2.2.2.2.1
  have hbl := C0.2.2.2.2.2.2.2.1
  have hbA := q_bA hbl
  obtain ⟨⟨hn0, hn1, ltn, utn⟩, hgr, hpk, hsd9, ht3, ht4, hbb⟩ := hI
  have hr0 : q_ir (q_r f x 0) so := Eq.trans (hB.2.2.r hx (by rw [kx]; rfl)) hr0
  have hr1 : q_ir (q_r f x 1) rd := Eq.trans (hB.2.2.r hx (by rw [kx]; rfl)) hr1
  have hr2 : q_ir (q_r f x 2) scr := Eq.trans (hB.2.2.r hx (by rw [kx]; rfl)) hr2
  have hr3 : q_ir (q_r f x 3) fc := Eq.trans (hB.2.2.r hx (by rw [kx]; rfl)) hr3
  have hr4 : q_ir (q_r f x 4) hist := Eq.trans (hB.2.2.r hx (by rw [kx]; rfl)) hr4
  have hr5 : q_ir (q_r f x 5) rep := Eq.trans (hB.2.2.r hx (by rw [kx]; rfl)) hr5
  have hr6 : q_ir (q_r f x 6) now := Eq.trans (hB.2.2.r hx (by rw [kx]; rfl)) hr6
  have hr7 : q_ir (q_r f x 7) dr := Eq.trans (hB.2.2.r hx (by rw [kx]; rfl)) hr7
  have hr8 : q_ir (q_r f x 8) sv := Eq.trans (hB.2.2.r hx (by rw [kx]; rfl)) hr8
  have hr9 : q_ir (q_r f fc 0) tr := Eq.trans (hB.2.2.r hfc (by rw [kfc]; rfl)) hr9
  have hr10 : q_ir (q_r f so 0) ba := Eq.trans (hB.2.2.r hso (by rw [kso]; rfl)) hr10
  have hr11 : q_ir (q_r f dr 0) nds := Eq.trans (hB.2.2.r hdr (by rw [kdr]; rfl)) hr11
  have hr12 : q_ir (q_r f mo 1) bu := Eq.trans (hB.2.2.r hmo (by rw [kmo]; rfl)) hr12
  have hr13 : q_ir (q_r f mo 13) sr := Eq.trans (hB.2.2.r hmo (by rw [kmo]; rfl)) hr13
  have hr14 : q_ir (q_r f mo 14) sd := Eq.trans (hB.2.2.r hmo (by rw [kmo]; rfl)) hr14
  have hr15 : q_ir (q_r f mo 15) as := Eq.trans (hB.2.2.r hmo (by rw [kmo]; rfl)) hr15
  have hr16 : q_ir (q_r f mo 16) aw := Eq.trans (hB.2.2.r hmo (by rw [kmo]; rfl)) hr16
  have hr17 : q_ir (q_r f mo 17) pa := Eq.trans (hB.2.2.r hmo (by rw [kmo]; rfl)) hr17
  have hr18 : q_ir (q_r f mo 18) nm := Eq.trans (hB.2.2.r hmo (by rw [kmo]; rfl)) hr18
  have hr19 : q_ir (q_r f mo 19) snm := Eq.trans (hB.2.2.r hmo (by rw [kmo]; rfl)) hr19
  have hr20 : q_ir (q_r f mo 20) anm := Eq.trans (hB.2.2.r hmo (by rw [kmo]; rfl)) hr20
  have hr21 : q_ir (q_r f mo 24) hp := Eq.trans (hB.2.2.r hmo (by rw [kmo]; rfl)) hr21
  have hr22 : q_ir (q_r f mo 25) dy := Eq.trans (hB.2.2.r hmo (by rw [kmo]; rfl)) hr22
  have hr23 : q_ir (q_r f mo 29) cs := Eq.trans (hB.2.2.r hmo (by rw [kmo]; rfl)) hr23
  have hr24 : q_ir (q_r f mo 30) c1 := Eq.trans (hB.2.2.r hmo (by rw [kmo]; rfl)) hr24
  have hr25 : q_ir (q_r f mo 31) c2 := Eq.trans (hB.2.2.r hmo (by rw [kmo]; rfl)) hr25
  have hr26 : q_ir (q_r f mo 32) c3 := Eq.trans (hB.2.2.r hmo (by rw [kmo]; rfl)) hr26
  have hr27 : q_ir (q_r f mo 33) bg := Eq.trans (hB.2.2.r hmo (by rw [kmo]; rfl)) hr27
  have hr28 : q_ir (q_r f mo 34) lp := Eq.trans (hB.2.2.r hmo (by rw [kmo]; rfl)) hr28
  have hr29 : q_ir (q_r f mo 38) rp := Eq.trans (hB.2.2.r hmo (by rw [kmo]; rfl)) hr29
  have hij : tk_ij K L f nds := tk_ij_tr hij (fun i9 => hB.2.2.r hnds (by rw [knds]; rfl))
  obtain ⟨x1, ex1⟩ : ∃ zz, q_is (q_z f sr 3) zz := ⟨_, q_isr _⟩
  obtain ⟨lx1, ux1⟩ : 0 ≤ x1 ∧ x1 ≤ 9999 := q_isb ex1 ⟨(hgr 3 (by decide)).1, ht3⟩
  obtain ⟨x2, ex2⟩ : ∃ zz, q_is (q_z f sr 4) zz := ⟨_, q_isr _⟩
  obtain ⟨lx2, ux2⟩ : 0 ≤ x2 ∧ x2 ≤ 60 := q_isb ex2 ⟨(hgr 4 (by decide)).1, ht4⟩
  refine q_ald_n cx dL_law_1033 rfl (lv_at hl 4 rfl) ?_
  refine q_cVi (As := []) (rest := []) cx hB (fun q h => hLA q h) hN hx kx (by decide) rfl (x_takesIn l g hN hB.2.1 x hx kx so hso kso rd hrd krd scr hscr kscr fc hfc kfc hist hhist khist rep hrep krep now hnow know dr hdr kdr sv hsv ksv tr htr ktr hr0 hr1 hr2 hr3 hr4 hr5 hr6 hr7 hr8 hr9) q_cL_211 q_dX11_takesIn ⟨by decide, by show cells + 0 ≤ 601024; omega, by show slots + 0 ≤ 7293034; omega⟩ rfl rfl hl.1 rfl (Nat.le_of_ble_eq_true rfl) dL_law_1034 (fun y4 H locs f3 ry4 h5 hF hB => ?_)
  have z6 : q_is (q_z f3 so 1) tn := Eq.trans (hF.z hso (by rw [kso]; rfl)) hn0
  have z7 : q_is (q_z f3 mo 2) tn := Eq.trans (hF.z hmo (by rw [kmo]; rfl)) hn1
  have z8 : q_is (q_z f3 sr 3) x1 := Eq.trans (hF.z hsr (by rw [ksr]; rfl)) ex1
  have z9 : q_is (q_z f3 sr 4) x2 := Eq.trans (hF.z hsr (by rw [ksr]; rfl)) ex2
  have z10 : q_ir (q_r f3 x 0) so := Eq.trans (hF.r hx (by rw [kx]; rfl)) hr0
  have z11 : q_ir (q_r f3 x 1) rd := Eq.trans (hF.r hx (by rw [kx]; rfl)) hr1
  have z12 : q_ir (q_r f3 x 2) scr := Eq.trans (hF.r hx (by rw [kx]; rfl)) hr2
  have z13 : q_ir (q_r f3 x 3) fc := Eq.trans (hF.r hx (by rw [kx]; rfl)) hr3
  have z14 : q_ir (q_r f3 x 4) hist := Eq.trans (hF.r hx (by rw [kx]; rfl)) hr4
  have z15 : q_ir (q_r f3 x 5) rep := Eq.trans (hF.r hx (by rw [kx]; rfl)) hr5
  have z16 : q_ir (q_r f3 x 6) now := Eq.trans (hF.r hx (by rw [kx]; rfl)) hr6
  have z17 : q_ir (q_r f3 x 7) dr := Eq.trans (hF.r hx (by rw [kx]; rfl)) hr7
  have z18 : q_ir (q_r f3 x 8) sv := Eq.trans (hF.r hx (by rw [kx]; rfl)) hr8
  have z19 : q_ir (q_r f3 fc 0) tr := Eq.trans (hF.r hfc (by rw [kfc]; rfl)) hr9
  have z20 : q_ir (q_r f3 so 0) ba := Eq.trans (hF.r hso (by rw [kso]; rfl)) hr10
  have z21 : q_ir (q_r f3 dr 0) nds := Eq.trans (hF.r hdr (by rw [kdr]; rfl)) hr11
  have z22 : q_ir (q_r f3 mo 1) bu := Eq.trans (hF.r hmo (by rw [kmo]; rfl)) hr12
  have z23 : q_ir (q_r f3 mo 13) sr := Eq.trans (hF.r hmo (by rw [kmo]; rfl)) hr13
  have z24 : q_ir (q_r f3 mo 14) sd := Eq.trans (hF.r hmo (by rw [kmo]; rfl)) hr14
  have z25 : q_ir (q_r f3 mo 15) as := Eq.trans (hF.r hmo (by rw [kmo]; rfl)) hr15
  have z26 : q_ir (q_r f3 mo 16) aw := Eq.trans (hF.r hmo (by rw [kmo]; rfl)) hr16
  have z27 : q_ir (q_r f3 mo 17) pa := Eq.trans (hF.r hmo (by rw [kmo]; rfl)) hr17
  have z28 : q_ir (q_r f3 mo 18) nm := Eq.trans (hF.r hmo (by rw [kmo]; rfl)) hr18
  have z29 : q_ir (q_r f3 mo 19) snm := Eq.trans (hF.r hmo (by rw [kmo]; rfl)) hr19
  have z30 : q_ir (q_r f3 mo 20) anm := Eq.trans (hF.r hmo (by rw [kmo]; rfl)) hr20
  have z31 : q_ir (q_r f3 mo 24) hp := Eq.trans (hF.r hmo (by rw [kmo]; rfl)) hr21
  have z32 : q_ir (q_r f3 mo 25) dy := Eq.trans (hF.r hmo (by rw [kmo]; rfl)) hr22
  have z33 : q_ir (q_r f3 mo 29) cs := Eq.trans (hF.r hmo (by rw [kmo]; rfl)) hr23
  have z34 : q_ir (q_r f3 mo 30) c1 := Eq.trans (hF.r hmo (by rw [kmo]; rfl)) hr24
  have z35 : q_ir (q_r f3 mo 31) c2 := Eq.trans (hF.r hmo (by rw [kmo]; rfl)) hr25
  have z36 : q_ir (q_r f3 mo 32) c3 := Eq.trans (hF.r hmo (by rw [kmo]; rfl)) hr26
  have z37 : q_ir (q_r f3 mo 33) bg := Eq.trans (hF.r hmo (by rw [kmo]; rfl)) hr27
  have z38 : q_ir (q_r f3 mo 34) lp := Eq.trans (hF.r hmo (by rw [kmo]; rfl)) hr28
  have z39 : q_ir (q_r f3 mo 38) rp := Eq.trans (hF.r hmo (by rw [kmo]; rfl)) hr29
  have g40 : q_gr f3 sr := q_gr_fr hgr (fun i9 _ => hF.z hsr (by rw [ksr]; rfl))
  have g41 : q_pk f3 mo pa := q_pk_tr hpk (hF.z hmo (by rw [kmo]; rfl)) (fun i9 => hF.z hpa (by rw [kpa]; rfl))
  have g42 : q_sv f3 mo sd := q_sv_tr hsd9 (hF.z hmo (by rw [kmo]; rfl)) (fun i9 => hF.z hsd (by rw [ksd]; rfl))
  have g43 : tk_bb f3 bu ba tn := tk_bb_tr hbb (fun i9 => hF.z hbu (by rw [kbu]; rfl)) (fun i9 => hF.z hba (by rw [kba]; rfl))
  have g44 : tk_ij K L f3 nds := tk_ij_tr hij (fun i9 => hF.r hnds (by rw [knds]; rfl))
  refine lv_pop cx.1 cx.2.1 dL_law_1037 rfl ?_
  refine q_ald_n cx dL_law_1038 rfl (lv_at hl 3 rfl) ?_
  refine q_cVi (As := []) (rest := []) cx hB (fun q h => hLA q h) hN hmo kmo (by decide) rfl (r_takesIn l g hN hB.2.1 mo hmo kmo sr hsr ksr hp hhp khp dy hdy kdy aw haw kaw x1 (by omega) (by omega) x2 (by omega) (by omega) z8 z9 z23 z31 z32 z26 g40) q_cL_214 q_dX12_takesIn ⟨by decide, by show cells + 0 ≤ 601024; omega, by show slots + 0 ≤ 7293034; omega⟩ rfl rfl hl.1 rfl (Nat.le_of_ble_eq_true rfl) dL_law_1039 (fun y46 H locs f45 ry46 h47 hF hB => ?_)
  obtain ⟨ly46, uy46, lz48, uz48, lz49, uz49, g50⟩ := h47
  have z51 : q_is (q_z f45 so 1) tn := Eq.trans (hF.z hso (by rw [kso]; rfl)) z6
  have z52 : q_is (q_z f45 mo 2) tn := Eq.trans (hF.z hmo (by rw [kmo]; rfl)) z7
  have z53 : q_ir (q_r f45 x 0) so := Eq.trans (hF.r hx (by rw [kx]; rfl)) z10
  have z54 : q_ir (q_r f45 x 1) rd := Eq.trans (hF.r hx (by rw [kx]; rfl)) z11
  have z55 : q_ir (q_r f45 x 2) scr := Eq.trans (hF.r hx (by rw [kx]; rfl)) z12
  have z56 : q_ir (q_r f45 x 3) fc := Eq.trans (hF.r hx (by rw [kx]; rfl)) z13
  have z57 : q_ir (q_r f45 x 4) hist := Eq.trans (hF.r hx (by rw [kx]; rfl)) z14
  have z58 : q_ir (q_r f45 x 5) rep := Eq.trans (hF.r hx (by rw [kx]; rfl)) z15
  have z59 : q_ir (q_r f45 x 6) now := Eq.trans (hF.r hx (by rw [kx]; rfl)) z16
  have z60 : q_ir (q_r f45 x 7) dr := Eq.trans (hF.r hx (by rw [kx]; rfl)) z17
  have z61 : q_ir (q_r f45 x 8) sv := Eq.trans (hF.r hx (by rw [kx]; rfl)) z18
  have z62 : q_ir (q_r f45 fc 0) tr := Eq.trans (hF.r hfc (by rw [kfc]; rfl)) z19
  have z63 : q_ir (q_r f45 so 0) ba := Eq.trans (hF.r hso (by rw [kso]; rfl)) z20
  have z64 : q_ir (q_r f45 dr 0) nds := Eq.trans (hF.r hdr (by rw [kdr]; rfl)) z21
  have z65 : q_ir (q_r f45 mo 1) bu := Eq.trans (hF.r hmo (by rw [kmo]; rfl)) z22
  have z66 : q_ir (q_r f45 mo 13) sr := Eq.trans (hF.r hmo (by rw [kmo]; rfl)) z23
  have z67 : q_ir (q_r f45 mo 14) sd := Eq.trans (hF.r hmo (by rw [kmo]; rfl)) z24
  have z68 : q_ir (q_r f45 mo 15) as := Eq.trans (hF.r hmo (by rw [kmo]; rfl)) z25
  have z69 : q_ir (q_r f45 mo 16) aw := Eq.trans (hF.r hmo (by rw [kmo]; rfl)) z26
  have z70 : q_ir (q_r f45 mo 17) pa := Eq.trans (hF.r hmo (by rw [kmo]; rfl)) z27
  have z71 : q_ir (q_r f45 mo 18) nm := Eq.trans (hF.r hmo (by rw [kmo]; rfl)) z28
  have z72 : q_ir (q_r f45 mo 19) snm := Eq.trans (hF.r hmo (by rw [kmo]; rfl)) z29
  have z73 : q_ir (q_r f45 mo 20) anm := Eq.trans (hF.r hmo (by rw [kmo]; rfl)) z30
  have z74 : q_ir (q_r f45 mo 24) hp := Eq.trans (hF.r hmo (by rw [kmo]; rfl)) z31
  have z75 : q_ir (q_r f45 mo 25) dy := Eq.trans (hF.r hmo (by rw [kmo]; rfl)) z32
  have z76 : q_ir (q_r f45 mo 29) cs := Eq.trans (hF.r hmo (by rw [kmo]; rfl)) z33
  have z77 : q_ir (q_r f45 mo 30) c1 := Eq.trans (hF.r hmo (by rw [kmo]; rfl)) z34
  have z78 : q_ir (q_r f45 mo 31) c2 := Eq.trans (hF.r hmo (by rw [kmo]; rfl)) z35
  have z79 : q_ir (q_r f45 mo 32) c3 := Eq.trans (hF.r hmo (by rw [kmo]; rfl)) z36
  have z80 : q_ir (q_r f45 mo 33) bg := Eq.trans (hF.r hmo (by rw [kmo]; rfl)) z37
  have z81 : q_ir (q_r f45 mo 34) lp := Eq.trans (hF.r hmo (by rw [kmo]; rfl)) z38
  have z82 : q_ir (q_r f45 mo 38) rp := Eq.trans (hF.r hmo (by rw [kmo]; rfl)) z39
  have g83 : q_pk f45 mo pa := q_pk_tr g41 (hF.z hmo (by rw [kmo]; rfl)) (fun i9 => hF.z hpa (by rw [kpa]; rfl))
  have g84 : q_sv f45 mo sd := q_sv_tr g42 (hF.z hmo (by rw [kmo]; rfl)) (fun i9 => hF.z hsd (by rw [ksd]; rfl))
  have g85 : tk_bb f45 bu ba tn := tk_bb_tr g43 (fun i9 => hF.z hbu (by rw [kbu]; rfl)) (fun i9 => hF.z hba (by rw [kba]; rfl))
  have g86 : tk_ij K L f45 nds := tk_ij_tr g44 (fun i9 => hF.r hnds (by rw [knds]; rfl))
  obtain ⟨x87, ex87⟩ : ∃ zz, q_is (q_z f45 sr 3) zz := ⟨_, q_isr _⟩
  obtain ⟨lx87, ux87⟩ := q_isb ex87 ⟨lz48, uz48⟩
  obtain ⟨x88, ex88⟩ : ∃ zz, q_is (q_z f45 sr 4) zz := ⟨_, q_isr _⟩
  obtain ⟨lx88, ux88⟩ := q_isb ex88 ⟨lz49, uz49⟩
  refine lv_pop cx.1 cx.2.1 dL_law_1042 rfl ?_
  refine lv_goto (tgt := 1521) cx.1 cx.2.1 dL_law_1043 (by decide) ?_
  refine W.widen (k := cells + 6) (n := slots + 36) (by omega) (by omega) ?_
  exact kk f45 H locs ls tn hB ⟨⟨z51, (Eq.trans z52 (by omega)), by omega, by omega⟩, g50, g83, g84, q_isu ex87 (by omega), q_isu ex88 (by omega), tk_bb_le g85 (by omega)⟩ (lv_sub hl [0, 1, 2, 3, 4, 5] rfl)
set_option maxHeartbeats 4000000 in
set_option maxRecDepth 100000 in
theorem law_c1046 {p : Program} {l : Launch} {e : Env} {s : State} {m : MethodId} {below : List Frame} {meth : Method} {c : Code} {b N9 : Nat} {xs : Nat → Int32} (hfl : l.stackTraces = false) (hN9 : N9 ≤ 3072) (C0 : lw_At p s m meth c b N9 xs) (cx : CallFix p m c cL_law 10 s #[Value.ref b] q_al RL) {g : q_G} {ad : Nat → Nat} {K : Nat → Nat} {L : List Nat} (hN : L.Nodup) (hLA : ∀ q, q ∈ L → s.heap.size ≤ q) (hX : q_X ad (fun q => q ∈ L) s) {f0 : Nat → va_E} {x : Nat} (hx : x ∈ L) (kx : K x = 11) {so : Nat} (hso : so ∈ L) (kso : K so = 8) {rd : Nat} (hrd : rd ∈ L) (krd : K rd = 9) {scr : Nat} (hscr : scr ∈ L) (kscr : K scr = 7) {fc : Nat} (hfc : fc ∈ L) (kfc : K fc = 1) {hist : Nat} (hhist : hist ∈ L) (khist : K hist = 2) {rep : Nat} (hrep : rep ∈ L) (krep : K rep = 6) {now : Nat} (hnow : now ∈ L) (know : K now = 10) {dr : Nat} (hdr : dr ∈ L) (kdr : K dr = 13) {sv : Nat} (hsv : sv ∈ L) (ksv : K sv = 14) {tr : Nat} (htr : tr ∈ L) (ktr : K tr = 15) {ba : Nat} (hba : ba ∈ L) (kba : K ba = 142) {nds : Nat} (hnds : nds ∈ L) (knds : K nds = 111) {mo : Nat} (hmo : mo ∈ L) (kmo : K mo = 12) {bu : Nat} (hbu : bu ∈ L) (kbu : K bu = 150) {sr : Nat} (hsr : sr ∈ L) (ksr : K sr = 151) {sd : Nat} (hsd : sd ∈ L) (ksd : K sd = 152) {as : Nat} (has : as ∈ L) (kas : K as = 153) {aw : Nat} (haw : aw ∈ L) (kaw : K aw = 154) {pa : Nat} (hpa : pa ∈ L) (kpa : K pa = 155) {nm : Nat} (hnm : nm ∈ L) (knm : K nm = 156) {snm : Nat} (hsnm : snm ∈ L) (ksnm : K snm = 157) {anm : Nat} (hanm : anm ∈ L) (kanm : K anm = 158) {hp : Nat} (hhp : hp ∈ L) (khp : K hp = 159) {dy : Nat} (hdy : dy ∈ L) (kdy : K dy = 160) {cs : Nat} (hcs : cs ∈ L) (kcs : K cs = 161) {c1 : Nat} (hc1 : c1 ∈ L) (kc1 : K c1 = 162) {c2 : Nat} (hc2 : c2 ∈ L) (kc2 : K c2 = 163) {c3 : Nat} (hc3 : c3 ∈ L) (kc3 : K c3 = 164) {bg : Nat} (hbg : bg ∈ L) (kbg : K bg = 165) {lp : Nat} (hlp : lp ∈ L) (klp : K lp = 166) {rp : Nat} (hrp : rp ∈ L) (krp : K rp = 167) {out : Nat} (hout : out ∈ L) (kout : K out = 168) {outD : Nat} (houtD : outD ∈ L) (koutD : K outD = 169) (hr0 : q_ir (q_r f0 x 0) so) (hr1 : q_ir (q_r f0 x 1) rd) (hr2 : q_ir (q_r f0 x 2) scr) (hr3 : q_ir (q_r f0 x 3) fc) (hr4 : q_ir (q_r f0 x 4) hist) (hr5 : q_ir (q_r f0 x 5) rep) (hr6 : q_ir (q_r f0 x 6) now) (hr7 : q_ir (q_r f0 x 7) dr) (hr8 : q_ir (q_r f0 x 8) sv) (hr9 : q_ir (q_r f0 fc 0) tr) (hr10 : q_ir (q_r f0 so 0) ba) (hr11 : q_ir (q_r f0 dr 0) nds) (hr12 : q_ir (q_r f0 mo 1) bu) (hr13 : q_ir (q_r f0 mo 13) sr) (hr14 : q_ir (q_r f0 mo 14) sd) (hr15 : q_ir (q_r f0 mo 15) as) (hr16 : q_ir (q_r f0 mo 16) aw) (hr17 : q_ir (q_r f0 mo 17) pa) (hr18 : q_ir (q_r f0 mo 18) nm) (hr19 : q_ir (q_r f0 mo 19) snm) (hr20 : q_ir (q_r f0 mo 20) anm) (hr21 : q_ir (q_r f0 mo 24) hp) (hr22 : q_ir (q_r f0 mo 25) dy) (hr23 : q_ir (q_r f0 mo 29) cs) (hr24 : q_ir (q_r f0 mo 30) c1) (hr25 : q_ir (q_r f0 mo 31) c2) (hr26 : q_ir (q_r f0 mo 32) c3) (hr27 : q_ir (q_r f0 mo 33) bg) (hr28 : q_ir (q_r f0 mo 34) lp) (hr29 : q_ir (q_r f0 mo 38) rp) (hij : tk_ij K L f0 nds) {f : Nat → va_E} {H : Heap} {locs : List Loc} {ls : Array Slot} {cells slots : Nat} {ii tn : Int} (hB : q_B g K L (fun q => s.heap.size ≤ q) [(0, 0, 6), (2, 1, 2), (3, 0, 4), (4, 0, 7), (5, 0, 9), (6, 1, 1), (7, 1, 4), (8, 1, 9), (9, 0, 2), (10, 3, 15), (11, 9, 9), (12, 0, 0), (12, 2, 12), (12, 21, 23), (12, 26, 28), (12, 35, 37), (12, 39, 40), (13, 3, 15), (14, 3, 15), (15, 3, 15), (16, 3, 15), (17, 0, 9), (18, 0, 9), (19, 0, 9), (20, 0, 9), (21, 0, 4), (22, 0, 4), (23, 0, 4), (24, 0, 4), (25, 0, 7), (26, 0, 7), (27, 0, 7), (28, 0, 7), (142, 0, 599), (143, 0, 599), (150, 0, 599), (151, 0, 657), (152, 0, 657), (153, 0, 657), (154, 0, 657), (155, 0, 3947), (156, 0, 9), (157, 0, 9), (158, 0, 9), (159, 0, 9), (160, 0, 9), (161, 0, 59), (162, 0, 58), (163, 0, 58), (164, 0, 58), (165, 0, 1), (166, 0, 1), (167, 0, 479), (168, 0, 0), (169, 0, 0)] f0 f s H locs) (hI : q_Iv4 f so mo sr pa sd bu ba tn) (hl : lv_has ls 10 [(5, .int (q_i ii)), (4, .ref outD), (3, .ref out), (2, .ref mo), (1, .ref x), (0, .ref b)]) (hi0 : 0 ≤ ii) (hi6 : ii + 6 ≤ N9) (hce : cells + 6 ≤ 10000) (hse : slots + 36 ≤ 100000) (kk : ∀ (f1 : Nat → va_E) (H1 : Heap) (locs1 : List Loc) (ls1 : Array Slot) (tn1 : Int), q_B g K L (fun q => s.heap.size ≤ q) [(0, 0, 6), (2, 1, 2), (3, 0, 4), (4, 0, 7), (5, 0, 9), (6, 1, 1), (7, 1, 4), (8, 1, 9), (9, 0, 2), (10, 3, 15), (11, 9, 9), (12, 0, 0), (12, 2, 12), (12, 21, 23), (12, 26, 28), (12, 35, 37), (12, 39, 40), (13, 3, 15), (14, 3, 15), (15, 3, 15), (16, 3, 15), (17, 0, 9), (18, 0, 9), (19, 0, 9), (20, 0, 9), (21, 0, 4), (22, 0, 4), (23, 0, 4), (24, 0, 4), (25, 0, 7), (26, 0, 7), (27, 0, 7), (28, 0, 7), (142, 0, 599), (143, 0, 599), (150, 0, 599), (151, 0, 657), (152, 0, 657), (153, 0, 657), (154, 0, 657), (155, 0, 3947), (156, 0, 9), (157, 0, 9), (158, 0, 9), (159, 0, 9), (160, 0, 9), (161, 0, 59), (162, 0, 58), (163, 0, 58), (164, 0, 58), (165, 0, 1), (166, 0, 1), (167, 0, 479), (168, 0, 0), (169, 0, 0)] f0 f1 s H1 locs1 → q_Iv4 f1 so mo sr pa sd bu ba tn1 → lv_has ls1 10 [(5, .int (q_i ii)), (4, .ref outD), (3, .ref out), (2, .ref mo), (1, .ref x), (0, .ref b)] → W p l e room_1 s m #[Value.ref b] below meth c H1 locs1 (cells + 6) (slots + 36) (lw_Z below #[Value.ref b] s) (F0 m 1521 ls1 [])) : W p l e room_1 s m #[Value.ref b] below meth c H locs (cells) (slots) (lw_Z below #[Value.ref b] s) (F0 m 1046 ls []) := by
  have hXs := C0.2.2.2.2.2.2.1
  have hbl := C0.2.2.2.2.2.2.2.1
  have hbA := q_bA hbl
  obtain ⟨⟨hn0, hn1, ltn, utn⟩, hgr, hpk, hsd9, ht3, ht4, hbb⟩ := hI
  have hr0 : q_ir (q_r f x 0) so := Eq.trans (hB.2.2.r hx (by rw [kx]; rfl)) hr0
  have hr1 : q_ir (q_r f x 1) rd := Eq.trans (hB.2.2.r hx (by rw [kx]; rfl)) hr1
  have hr2 : q_ir (q_r f x 2) scr := Eq.trans (hB.2.2.r hx (by rw [kx]; rfl)) hr2
  have hr3 : q_ir (q_r f x 3) fc := Eq.trans (hB.2.2.r hx (by rw [kx]; rfl)) hr3
  have hr4 : q_ir (q_r f x 4) hist := Eq.trans (hB.2.2.r hx (by rw [kx]; rfl)) hr4
  have hr5 : q_ir (q_r f x 5) rep := Eq.trans (hB.2.2.r hx (by rw [kx]; rfl)) hr5
  have hr6 : q_ir (q_r f x 6) now := Eq.trans (hB.2.2.r hx (by rw [kx]; rfl)) hr6
  have hr7 : q_ir (q_r f x 7) dr := Eq.trans (hB.2.2.r hx (by rw [kx]; rfl)) hr7
  have hr8 : q_ir (q_r f x 8) sv := Eq.trans (hB.2.2.r hx (by rw [kx]; rfl)) hr8
  have hr9 : q_ir (q_r f fc 0) tr := Eq.trans (hB.2.2.r hfc (by rw [kfc]; rfl)) hr9
  have hr10 : q_ir (q_r f so 0) ba := Eq.trans (hB.2.2.r hso (by rw [kso]; rfl)) hr10
  have hr11 : q_ir (q_r f dr 0) nds := Eq.trans (hB.2.2.r hdr (by rw [kdr]; rfl)) hr11
  have hr12 : q_ir (q_r f mo 1) bu := Eq.trans (hB.2.2.r hmo (by rw [kmo]; rfl)) hr12
  have hr13 : q_ir (q_r f mo 13) sr := Eq.trans (hB.2.2.r hmo (by rw [kmo]; rfl)) hr13
  have hr14 : q_ir (q_r f mo 14) sd := Eq.trans (hB.2.2.r hmo (by rw [kmo]; rfl)) hr14
  have hr15 : q_ir (q_r f mo 15) as := Eq.trans (hB.2.2.r hmo (by rw [kmo]; rfl)) hr15
  have hr16 : q_ir (q_r f mo 16) aw := Eq.trans (hB.2.2.r hmo (by rw [kmo]; rfl)) hr16
  have hr17 : q_ir (q_r f mo 17) pa := Eq.trans (hB.2.2.r hmo (by rw [kmo]; rfl)) hr17
  have hr18 : q_ir (q_r f mo 18) nm := Eq.trans (hB.2.2.r hmo (by rw [kmo]; rfl)) hr18
  have hr19 : q_ir (q_r f mo 19) snm := Eq.trans (hB.2.2.r hmo (by rw [kmo]; rfl)) hr19
  have hr20 : q_ir (q_r f mo 20) anm := Eq.trans (hB.2.2.r hmo (by rw [kmo]; rfl)) hr20
  have hr21 : q_ir (q_r f mo 24) hp := Eq.trans (hB.2.2.r hmo (by rw [kmo]; rfl)) hr21
  have hr22 : q_ir (q_r f mo 25) dy := Eq.trans (hB.2.2.r hmo (by rw [kmo]; rfl)) hr22
  have hr23 : q_ir (q_r f mo 29) cs := Eq.trans (hB.2.2.r hmo (by rw [kmo]; rfl)) hr23
  have hr24 : q_ir (q_r f mo 30) c1 := Eq.trans (hB.2.2.r hmo (by rw [kmo]; rfl)) hr24
  have hr25 : q_ir (q_r f mo 31) c2 := Eq.trans (hB.2.2.r hmo (by rw [kmo]; rfl)) hr25
  have hr26 : q_ir (q_r f mo 32) c3 := Eq.trans (hB.2.2.r hmo (by rw [kmo]; rfl)) hr26
  have hr27 : q_ir (q_r f mo 33) bg := Eq.trans (hB.2.2.r hmo (by rw [kmo]; rfl)) hr27
  have hr28 : q_ir (q_r f mo 34) lp := Eq.trans (hB.2.2.r hmo (by rw [kmo]; rfl)) hr28
  have hr29 : q_ir (q_r f mo 38) rp := Eq.trans (hB.2.2.r hmo (by rw [kmo]; rfl)) hr29
  have hij : tk_ij K L f nds := tk_ij_tr hij (fun i9 => hB.2.2.r hnds (by rw [knds]; rfl))
  obtain ⟨x1, ex1⟩ : ∃ zz, q_is (q_z f sr 3) zz := ⟨_, q_isr _⟩
  obtain ⟨lx1, ux1⟩ : 0 ≤ x1 ∧ x1 ≤ 9999 := q_isb ex1 ⟨(hgr 3 (by decide)).1, ht3⟩
  obtain ⟨x2, ex2⟩ : ∃ zz, q_is (q_z f sr 4) zz := ⟨_, q_isr _⟩
  obtain ⟨lx2, ux2⟩ : 0 ≤ x2 ∧ x2 ≤ 60 := q_isb ex2 ⟨(hgr 4 (by decide)).1, ht4⟩
  refine q_ald_n cx dL_law_1046 rfl (lv_at hl 4 rfl) ?_
  refine q_ald_n cx dL_law_1047 rfl (lv_at hl 5 rfl) ?_
  refine lv_iload cx.1 cx.2.1 dL_law_1048 (lv_at hl 0 rfl) ?_
  refine q_iconst cx dL_law_1050 ?_
  refine q_iadd cx dL_law_1051 ?_
  refine va_sld cx.1 cx.2.1 hXs hbl hbA hB.1.2.2.2 (q_in (by omega) (by omega) (by omega)) dL_law_1052 ?_
  obtain ⟨a3, ra3, ea3⟩ : ∃ z : Int, q_R z ∧ xs (q_i (ii + 1)).toNatClampNeg = q_i z := ⟨_, q_rng _, (q_of _).symm⟩
  rw [ea3]
  refine q_ald_n cx dL_law_1053 rfl (lv_at hl 2 rfl) ?_
  refine q_cWS (As := [.ref x, .int (q_i a3), .ref out]) (rest := []) cx hX hB (fun q h => hLA q h) (fun q h1 h2 => absurd h1 (Nat.not_le_of_lt h2)) hN (w_bestShift l g ad hN hB.2.1 hfl x hx kx a3 (by omega) (by omega) out hout kout so hso kso rd hrd krd scr hscr kscr fc hfc kfc hist hhist khist rep hrep krep now hnow know dr hdr kdr sv hsv ksv tr htr ktr hr0 hr1 hr2 hr3 hr4 hr5 hr6 hr7 hr8 hr9) q_cL_215 q_dL_bestShift ⟨by decide, by show cells + 1 ≤ 601024; omega, by show slots + 6 ≤ 7293034; omega⟩ rfl rfl hl.1 rfl (Nat.le_of_ble_eq_true rfl) dL_law_1054 (fun v9 H locs f4 h6 hF hB => ?_)
  obtain ⟨y5, rfl, ry5, h6⟩ := h6
  refine W.eq (g2 := F0 m 1057 ls [.int (q_i y5)]) rfl ?_
  obtain ⟨ly5, uy5⟩ := h6
  have z7 : q_is (q_z f4 so 1) tn := Eq.trans (hF.z hso (by rw [kso]; rfl)) hn0
  have z8 : q_is (q_z f4 mo 2) tn := Eq.trans (hF.z hmo (by rw [kmo]; rfl)) hn1
  have z9 : q_is (q_z f4 sr 3) x1 := Eq.trans (hF.z hsr (by rw [ksr]; rfl)) ex1
  have z10 : q_is (q_z f4 sr 4) x2 := Eq.trans (hF.z hsr (by rw [ksr]; rfl)) ex2
  have z11 : q_ir (q_r f4 x 0) so := Eq.trans (hF.r hx (by rw [kx]; rfl)) hr0
  have z12 : q_ir (q_r f4 x 1) rd := Eq.trans (hF.r hx (by rw [kx]; rfl)) hr1
  have z13 : q_ir (q_r f4 x 2) scr := Eq.trans (hF.r hx (by rw [kx]; rfl)) hr2
  have z14 : q_ir (q_r f4 x 3) fc := Eq.trans (hF.r hx (by rw [kx]; rfl)) hr3
  have z15 : q_ir (q_r f4 x 4) hist := Eq.trans (hF.r hx (by rw [kx]; rfl)) hr4
  have z16 : q_ir (q_r f4 x 5) rep := Eq.trans (hF.r hx (by rw [kx]; rfl)) hr5
  have z17 : q_ir (q_r f4 x 6) now := Eq.trans (hF.r hx (by rw [kx]; rfl)) hr6
  have z18 : q_ir (q_r f4 x 7) dr := Eq.trans (hF.r hx (by rw [kx]; rfl)) hr7
  have z19 : q_ir (q_r f4 x 8) sv := Eq.trans (hF.r hx (by rw [kx]; rfl)) hr8
  have z20 : q_ir (q_r f4 fc 0) tr := Eq.trans (hF.r hfc (by rw [kfc]; rfl)) hr9
  have z21 : q_ir (q_r f4 so 0) ba := Eq.trans (hF.r hso (by rw [kso]; rfl)) hr10
  have z22 : q_ir (q_r f4 dr 0) nds := Eq.trans (hF.r hdr (by rw [kdr]; rfl)) hr11
  have z23 : q_ir (q_r f4 mo 1) bu := Eq.trans (hF.r hmo (by rw [kmo]; rfl)) hr12
  have z24 : q_ir (q_r f4 mo 13) sr := Eq.trans (hF.r hmo (by rw [kmo]; rfl)) hr13
  have z25 : q_ir (q_r f4 mo 14) sd := Eq.trans (hF.r hmo (by rw [kmo]; rfl)) hr14
  have z26 : q_ir (q_r f4 mo 15) as := Eq.trans (hF.r hmo (by rw [kmo]; rfl)) hr15
  have z27 : q_ir (q_r f4 mo 16) aw := Eq.trans (hF.r hmo (by rw [kmo]; rfl)) hr16
  have z28 : q_ir (q_r f4 mo 17) pa := Eq.trans (hF.r hmo (by rw [kmo]; rfl)) hr17
  have z29 : q_ir (q_r f4 mo 18) nm := Eq.trans (hF.r hmo (by rw [kmo]; rfl)) hr18
  have z30 : q_ir (q_r f4 mo 19) snm := Eq.trans (hF.r hmo (by rw [kmo]; rfl)) hr19
  have z31 : q_ir (q_r f4 mo 20) anm := Eq.trans (hF.r hmo (by rw [kmo]; rfl)) hr20
  have z32 : q_ir (q_r f4 mo 24) hp := Eq.trans (hF.r hmo (by rw [kmo]; rfl)) hr21
  have z33 : q_ir (q_r f4 mo 25) dy := Eq.trans (hF.r hmo (by rw [kmo]; rfl)) hr22
  have z34 : q_ir (q_r f4 mo 29) cs := Eq.trans (hF.r hmo (by rw [kmo]; rfl)) hr23
  have z35 : q_ir (q_r f4 mo 30) c1 := Eq.trans (hF.r hmo (by rw [kmo]; rfl)) hr24
  have z36 : q_ir (q_r f4 mo 31) c2 := Eq.trans (hF.r hmo (by rw [kmo]; rfl)) hr25
  have z37 : q_ir (q_r f4 mo 32) c3 := Eq.trans (hF.r hmo (by rw [kmo]; rfl)) hr26
  have z38 : q_ir (q_r f4 mo 33) bg := Eq.trans (hF.r hmo (by rw [kmo]; rfl)) hr27
  have z39 : q_ir (q_r f4 mo 34) lp := Eq.trans (hF.r hmo (by rw [kmo]; rfl)) hr28
  have z40 : q_ir (q_r f4 mo 38) rp := Eq.trans (hF.r hmo (by rw [kmo]; rfl)) hr29
  have g41 : q_gr f4 sr := q_gr_fr hgr (fun i9 _ => hF.z hsr (by rw [ksr]; rfl))
  have g42 : q_pk f4 mo pa := q_pk_tr hpk (hF.z hmo (by rw [kmo]; rfl)) (fun i9 => hF.z hpa (by rw [kpa]; rfl))
  have g43 : q_sv f4 mo sd := q_sv_tr hsd9 (hF.z hmo (by rw [kmo]; rfl)) (fun i9 => hF.z hsd (by rw [ksd]; rfl))
  have g44 : tk_bb f4 bu ba tn := tk_bb_tr hbb (fun i9 => hF.z hbu (by rw [kbu]; rfl)) (fun i9 => hF.z hba (by rw [kba]; rfl))
  have g45 : tk_ij K L f4 nds := tk_ij_tr hij (fun i9 => hF.r hnds (by rw [knds]; rfl))
  refine lv_istore (lv' := [(6, .int (q_i y5)), (5, .int (q_i ii)), (4, .ref outD), (3, .ref out), (2, .ref mo), (1, .ref x), (0, .ref b)]) cx.1 cx.2.1 dL_law_1057 hl (by decide) rfl (fun ls hl => ?_)
  refine q_ald_n cx dL_law_1059 rfl (lv_at hl 4 rfl) ?_
  refine q_ald_n cx dL_law_1060 rfl (lv_at hl 6 rfl) ?_
  refine lv_iload cx.1 cx.2.1 dL_law_1061 (lv_at hl 1 rfl) ?_
  refine q_iconst cx dL_law_1063 ?_
  refine q_iadd cx dL_law_1064 ?_
  refine va_sld cx.1 cx.2.1 hXs hbl hbA hB.1.2.2.2 (q_in (by omega) (by omega) (by omega)) dL_law_1065 ?_
  rw [ea3]
  refine q_cVi (As := [.int (q_i a3)]) (rest := []) cx hB (fun q h => hLA q h) hN hmo kmo (by decide) rfl (r_bestShift l g hN hB.2.1 mo hmo kmo a3 (by omega) (by omega) sr hsr ksr aw haw kaw x1 (by omega) (by omega) x2 (by omega) (by omega) z9 z10 z24 z27 g41) q_cL_217 q_dX12_bestShift ⟨by decide, by show cells + 1 ≤ 601024; omega, by show slots + 6 ≤ 7293034; omega⟩ rfl rfl hl.1 rfl (Nat.le_of_ble_eq_true rfl) dL_law_1066 (fun y47 H locs f46 ry47 h48 hF hB => ?_)
  obtain ⟨ly47, uy47, lz49, uz49, lz50, uz50, g51⟩ := h48
  have z52 : q_is (q_z f46 so 1) tn := Eq.trans (hF.z hso (by rw [kso]; rfl)) z7
  have z53 : q_is (q_z f46 mo 2) tn := Eq.trans (hF.z hmo (by rw [kmo]; rfl)) z8
  have z54 : q_ir (q_r f46 x 0) so := Eq.trans (hF.r hx (by rw [kx]; rfl)) z11
  have z55 : q_ir (q_r f46 x 1) rd := Eq.trans (hF.r hx (by rw [kx]; rfl)) z12
  have z56 : q_ir (q_r f46 x 2) scr := Eq.trans (hF.r hx (by rw [kx]; rfl)) z13
  have z57 : q_ir (q_r f46 x 3) fc := Eq.trans (hF.r hx (by rw [kx]; rfl)) z14
  have z58 : q_ir (q_r f46 x 4) hist := Eq.trans (hF.r hx (by rw [kx]; rfl)) z15
  have z59 : q_ir (q_r f46 x 5) rep := Eq.trans (hF.r hx (by rw [kx]; rfl)) z16
  have z60 : q_ir (q_r f46 x 6) now := Eq.trans (hF.r hx (by rw [kx]; rfl)) z17
  have z61 : q_ir (q_r f46 x 7) dr := Eq.trans (hF.r hx (by rw [kx]; rfl)) z18
  have z62 : q_ir (q_r f46 x 8) sv := Eq.trans (hF.r hx (by rw [kx]; rfl)) z19
  have z63 : q_ir (q_r f46 fc 0) tr := Eq.trans (hF.r hfc (by rw [kfc]; rfl)) z20
  have z64 : q_ir (q_r f46 so 0) ba := Eq.trans (hF.r hso (by rw [kso]; rfl)) z21
  have z65 : q_ir (q_r f46 dr 0) nds := Eq.trans (hF.r hdr (by rw [kdr]; rfl)) z22
  have z66 : q_ir (q_r f46 mo 1) bu := Eq.trans (hF.r hmo (by rw [kmo]; rfl)) z23
  have z67 : q_ir (q_r f46 mo 13) sr := Eq.trans (hF.r hmo (by rw [kmo]; rfl)) z24
  have z68 : q_ir (q_r f46 mo 14) sd := Eq.trans (hF.r hmo (by rw [kmo]; rfl)) z25
  have z69 : q_ir (q_r f46 mo 15) as := Eq.trans (hF.r hmo (by rw [kmo]; rfl)) z26
  have z70 : q_ir (q_r f46 mo 16) aw := Eq.trans (hF.r hmo (by rw [kmo]; rfl)) z27
  have z71 : q_ir (q_r f46 mo 17) pa := Eq.trans (hF.r hmo (by rw [kmo]; rfl)) z28
  have z72 : q_ir (q_r f46 mo 18) nm := Eq.trans (hF.r hmo (by rw [kmo]; rfl)) z29
  have z73 : q_ir (q_r f46 mo 19) snm := Eq.trans (hF.r hmo (by rw [kmo]; rfl)) z30
  have z74 : q_ir (q_r f46 mo 20) anm := Eq.trans (hF.r hmo (by rw [kmo]; rfl)) z31
  have z75 : q_ir (q_r f46 mo 24) hp := Eq.trans (hF.r hmo (by rw [kmo]; rfl)) z32
  have z76 : q_ir (q_r f46 mo 25) dy := Eq.trans (hF.r hmo (by rw [kmo]; rfl)) z33
  have z77 : q_ir (q_r f46 mo 29) cs := Eq.trans (hF.r hmo (by rw [kmo]; rfl)) z34
  have z78 : q_ir (q_r f46 mo 30) c1 := Eq.trans (hF.r hmo (by rw [kmo]; rfl)) z35
  have z79 : q_ir (q_r f46 mo 31) c2 := Eq.trans (hF.r hmo (by rw [kmo]; rfl)) z36
  have z80 : q_ir (q_r f46 mo 32) c3 := Eq.trans (hF.r hmo (by rw [kmo]; rfl)) z37
  have z81 : q_ir (q_r f46 mo 33) bg := Eq.trans (hF.r hmo (by rw [kmo]; rfl)) z38
  have z82 : q_ir (q_r f46 mo 34) lp := Eq.trans (hF.r hmo (by rw [kmo]; rfl)) z39
  have z83 : q_ir (q_r f46 mo 38) rp := Eq.trans (hF.r hmo (by rw [kmo]; rfl)) z40
  have g84 : q_pk f46 mo pa := q_pk_tr g42 (hF.z hmo (by rw [kmo]; rfl)) (fun i9 => hF.z hpa (by rw [kpa]; rfl))
  have g85 : q_sv f46 mo sd := q_sv_tr g43 (hF.z hmo (by rw [kmo]; rfl)) (fun i9 => hF.z hsd (by rw [ksd]; rfl))
  have g86 : tk_bb f46 bu ba tn := tk_bb_tr g44 (fun i9 => hF.z hbu (by rw [kbu]; rfl)) (fun i9 => hF.z hba (by rw [kba]; rfl))
  have g87 : tk_ij K L f46 nds := tk_ij_tr g45 (fun i9 => hF.r hnds (by rw [knds]; rfl))
  obtain ⟨x88, ex88⟩ : ∃ zz, q_is (q_z f46 sr 3) zz := ⟨_, q_isr _⟩
  obtain ⟨lx88, ux88⟩ := q_isb ex88 ⟨lz49, uz49⟩
  obtain ⟨x89, ex89⟩ : ∃ zz, q_is (q_z f46 sr 4) zz := ⟨_, q_isr _⟩
  obtain ⟨lx89, ux89⟩ := q_isb ex89 ⟨lz50, uz50⟩
  refine lv_istore (lv' := [(7, .int (q_i y47)), (6, .int (q_i y5)), (5, .int (q_i ii)), (4, .ref outD), (3, .ref out), (2, .ref mo), (1, .ref x), (0, .ref b)]) cx.1 cx.2.1 dL_law_1069 hl (by decide) rfl (fun ls hl => ?_)
  refine lv_goto (tgt := 1521) cx.1 cx.2.1 dL_law_1071 (by decide) ?_
  refine W.widen (k := cells + 6) (n := slots + 36) (by omega) (by omega) ?_
  exact kk f46 H locs ls tn hB ⟨⟨z52, (Eq.trans z53 (by omega)), by omega, by omega⟩, g51, g84, g85, q_isu ex88 (by omega), q_isu ex89 (by omega), tk_bb_le g86 (by omega)⟩ (lv_sub hl [2, 3, 4, 5, 6, 7] rfl)
