set_option maxHeartbeats 4000000 in
set_option maxRecDepth 100000 in
theorem law_c220 {p : Program} {l : Launch} {e : Env} {s : State} {m : MethodId} {below : List Frame} {meth : Method} {c : Code} {b N9 : Nat} {xs : Nat → Int32} (hfl : l.stackTraces = false) (hN9 : N9 ≤ 3072) (C0 : lw_At p s m meth c b N9 xs) (cx : CallFix p m c cL_law 10 s #[Value.ref b] q_al RL) {g : q_G} {ad : Nat → Nat} {K : Nat → Nat} {L : List Nat} (hN : L.Nodup) (hLA : ∀ q, q ∈ L → s.heap.size ≤ q) (hX : q_X ad (fun q => q ∈ L) s) {f0 : Nat → va_E} {x : Nat} (hx : x ∈ L) (kx : K x = 11) {so : Nat} (hso : so ∈ L) (kso : K so = 8) {rd : Nat} (hrd : rd ∈ L) (krd : K rd = 9) {scr : Nat} (hscr : scr ∈ L) (kscr : K scr = 7) {fc : Nat} (hfc : fc ∈ L) (kfc : K fc = 1) {hist : Nat} (hhist : hist ∈ L) (khist : K hist = 2) {rep : Nat} (hrep : rep ∈ L) (krep : K rep = 6) {now : Nat} (hnow : now ∈ L) (know : K now = 10) {dr : Nat} (hdr : dr ∈ L) (kdr : K dr = 13) {sv : Nat} (hsv : sv ∈ L) (ksv : K sv = 14) {tr : Nat} (htr : tr ∈ L) (ktr : K tr = 15) {ba : Nat} (hba : ba ∈ L) (kba : K ba = 142) {nds : Nat} (hnds : nds ∈ L) (knds : K nds = 111) {mo : Nat} (hmo : mo ∈ L) (kmo : K mo = 12) {bu : Nat} (hbu : bu ∈ L) (kbu : K bu = 150) {sr : Nat} (hsr : sr ∈ L) (ksr : K sr = 151) {sd : Nat} (hsd : sd ∈ L) (ksd : K sd = 152) {as : Nat} (has : as ∈ L) (kas : K as = 153) {aw : Nat} (haw : aw ∈ L) (kaw : K aw = 154) {pa : Nat} (hpa : pa ∈ L) (kpa : K pa = 155) {nm : Nat} (hnm : nm ∈ L) (knm : K nm = 156) {snm : Nat} (hsnm : snm ∈ L) (ksnm : K snm = 157) {anm : Nat} (hanm : anm ∈ L) (kanm : K anm = 158) {hp : Nat} (hhp : hp ∈ L) (khp : K hp = 159) {dy : Nat} (hdy : dy ∈ L) (kdy : K dy = 160) {cs : Nat} (hcs : cs ∈ L) (kcs : K cs = 161) {c1 : Nat} (hc1 : c1 ∈ L) (kc1 : K c1 = 162) {c2 : Nat} (hc2 : c2 ∈ L) (kc2 : K c2 = 163) {c3 : Nat} (hc3 : c3 ∈ L) (kc3 : K c3 = 164) {bg : Nat} (hbg : bg ∈ L) (kbg : K bg = 165) {lp : Nat} (hlp : lp ∈ L) (klp : K lp = 166) {rp : Nat} (hrp : rp ∈ L) (krp : K rp = 167) {out : Nat} (hout : out ∈ L) (kout : K out = 168) {outD : Nat} (houtD : outD ∈ L) (koutD : K outD = 169) (hr0 : q_ir (q_r f0 x 0) so) (hr1 : q_ir (q_r f0 x 1) rd) (hr2 : q_ir (q_r f0 x 2) scr) (hr3 : q_ir (q_r f0 x 3) fc) (hr4 : q_ir (q_r f0 x 4) hist) (hr5 : q_ir (q_r f0 x 5) rep) (hr6 : q_ir (q_r f0 x 6) now) (hr7 : q_ir (q_r f0 x 7) dr) (hr8 : q_ir (q_r f0 x 8) sv) (hr9 : q_ir (q_r f0 fc 0) tr) (hr10 : q_ir (q_r f0 so 0) ba) (hr11 : q_ir (q_r f0 dr 0) nds) (hr12 : q_ir (q_r f0 mo 1) bu) (hr13 : q_ir (q_r f0 mo 13) sr) (hr14 : q_ir (q_r f0 mo 14) sd) (hr15 : q_ir (q_r f0 mo 15) as) (hr16 : q_ir (q_r f0 mo 16) aw) (hr17 : q_ir (q_r f0 mo 17) pa) (hr18 : q_ir (q_r f0 mo 18) nm) (hr19 : q_ir (q_r f0 mo 19) snm) (hr20 : q_ir (q_r f0 mo 20) anm) (hr21 : q_ir (q_r f0 mo 24) hp) (hr22 : q_ir (q_r f0 mo 25) dy) (hr23 : q_ir (q_r f0 mo 29) cs) (hr24 : q_ir (q_r f0 mo 30) c1) (hr25 : q_ir (q_r f0 mo 31) c2) (hr26 : q_ir (q_r f0 mo 32) c3) (hr27 : q_ir (q_r f0 mo 33) bg) (hr28 : q_ir (q_r f0 mo 34) lp) (hr29 : q_ir (q_r f0 mo 38) rp) (hij : tk_ij K L f0 nds) {f : Nat → va_E} {H : Heap} {locs : List Loc} {ls : Array Slot} {cells slots : Nat} {ii tn : Int} (hB : q_B g K L (fun q => s.heap.size ≤ q) [(0, 0, 6), (2, 1, 2), (3, 0, 4), (4, 0, 7), (5, 0, 9), (6, 1, 1), (7, 1, 4), (8, 1, 9), (9, 0, 2), (10, 3, 15), (11, 9, 9), (12, 0, 0), (12, 2, 12), (12, 21, 23), (12, 26, 28), (12, 35, 37), (12, 39, 40), (13, 3, 15), (14, 3, 15), (15, 3, 15), (16, 3, 15), (17, 0, 9), (18, 0, 9), (19, 0, 9), (20, 0, 9), (21, 0, 4), (22, 0, 4), (23, 0, 4), (24, 0, 4), (25, 0, 7), (26, 0, 7), (27, 0, 7), (28, 0, 7), (142, 0, 599), (143, 0, 599), (150, 0, 599), (151, 0, 657), (152, 0, 657), (153, 0, 657), (154, 0, 657), (155, 0, 3947), (156, 0, 9), (157, 0, 9), (158, 0, 9), (159, 0, 9), (160, 0, 9), (161, 0, 59), (162, 0, 58), (163, 0, 58), (164, 0, 58), (165, 0, 1), (166, 0, 1), (167, 0, 479), (168, 0, 0), (169, 0, 0)] f0 f s H locs) (hI : q_Iv4 f so mo sr pa sd bu ba tn) (hl : lv_has ls 10 [(5, .int (q_i ii)), (4, .ref outD), (3, .ref out), (2, .ref mo), (1, .ref x), (0, .ref b)]) (hi0 : 0 ≤ ii) (hi6 : ii + 6 ≤ N9) (hce : cells + 6 ≤ 10000) (hse : slots + 36 ≤ 100000) (kk : ∀ (f1 : Nat → va_E) (H1 : Heap) (locs1 : List Loc) (ls1 : Array Slot) (tn1 : Int), q_B g K L (fun q => s.heap.size ≤ q) [(0, 0, 6), (2, 1, 2), (3, 0, 4), (4, 0, 7), (5, 0, 9), (6, 1, 1), (7, 1, 4), (8, 1, 9), (9, 0, 2), (10, 3, 15), (11, 9, 9), (12, 0, 0), (12, 2, 12), (12, 21, 23), (12, 26, 28), (12, 35, 37), (12, 39, 40), (13, 3, 15), (14, 3, 15), (15, 3, 15), (16, 3, 15), (17, 0, 9), (18, 0, 9), (19, 0, 9), (20, 0, 9), (21, 0, 4), (22, 0, 4), (23, 0, 4), (24, 0, 4), (25, 0, 7), (26, 0, 7), (27, 0, 7), (28, 0, 7), (142, 0, 599), (143, 0, 599), (150, 0, 599), (151, 0, 657), (152, 0, 657), (153, 0, 657), (154, 0, 657), (155, 0, 3947), (156, 0, 9), (157, 0, 9), (158, 0, 9), (159, 0, 9), (160, 0, 9), (161, 0, 59), (162, 0, 58), (163, 0, 58), (164, 0, 58), (165, 0, 1), (166, 0, 1), (167, 0, 479), (168, 0, 0), (169, 0, 0)] f0 f1 s H1 locs1 → q_Iv4 f1 so mo sr pa sd bu ba tn1 → lv_has ls1 10 [(5, .int (q_i ii)), (4, .ref outD), (3, .ref out), (2, .ref mo), (1, .ref x), (0, .ref b)] → W p l e room_1 s m #[Value.ref b] below meth c H1 locs1 (cells + 6) (slots + 36) (lw_Z below #[Value.ref b] s) (F0 m 1521 ls1 [])) : W p l e room_1 s m #[Value.ref b] below meth c H locs (cells) (slots) (lw_Z below #[Value.ref b] s) (F0 m 220 ls []) := by
  have hXs := C0.2.2.2.2.2.2.1
  have hbl := C0.2.2.2.2.2.2.2.1
  have hbA := q_bA hbl
  obtain ⟨⟨hn0, hn1, ltn, utn⟩, hgr, hpk, hsd9, ht3, ht4, hbb⟩ := hI
  have hr0 : q_ir (q_r f x 0) so := Eq.trans (hB.2.2.r hx (by rw [kx]; rfl)) hr0
  have hr1 : q_ir (q_r f x 1) rd := Eq.trans (hB.2.2.r hx (by rw [kx]; rfl)) hr1
  have hr2 : q_ir (q_r f x 2) scr := Eq.trans (hB.2.2.r hx (by rw [kx]; rfl)) hr2
  have hr3 : q_ir (q_r f x 3) fc := Eq.trans (hB.2.2.r hx (by rw [kx]; rfl)) hr3
  have hr4 : q_ir (q_r f x 4) hist := Eq.trans (hB.2.2.r hx (by rw [kx]; rfl)) hr4
  have hr5 : q_ir (q_r f x 5) rep := Eq.trans (hB.2.2.r hx (by rw [kx]; rfl)) hr5
  have hr6 : q_ir (q_r f x 6) now := Eq.trans (hB.2.2.r hx (by rw [kx]; rfl)) hr6
  have hr7 : q_ir (q_r f x 7) dr := Eq.trans (hB.2.2.r hx (by rw [kx]; rfl)) hr7
  have hr8 : q_ir (q_r f x 8) sv := Eq.trans (hB.2.2.r hx (by rw [kx]; rfl)) hr8
  have hr9 : q_ir (q_r f fc 0) tr := Eq.trans (hB.2.2.r hfc (by rw [kfc]; rfl)) hr9
  have hr10 : q_ir (q_r f so 0) ba := Eq.trans (hB.2.2.r hso (by rw [kso]; rfl)) hr10
  have hr11 : q_ir (q_r f dr 0) nds := Eq.trans (hB.2.2.r hdr (by rw [kdr]; rfl)) hr11
  have hr12 : q_ir (q_r f mo 1) bu := Eq.trans (hB.2.2.r hmo (by rw [kmo]; rfl)) hr12
  have hr13 : q_ir (q_r f mo 13) sr := Eq.trans (hB.2.2.r hmo (by rw [kmo]; rfl)) hr13
  have hr14 : q_ir (q_r f mo 14) sd := Eq.trans (hB.2.2.r hmo (by rw [kmo]; rfl)) hr14
  have hr15 : q_ir (q_r f mo 15) as := Eq.trans (hB.2.2.r hmo (by rw [kmo]; rfl)) hr15
  have hr16 : q_ir (q_r f mo 16) aw := Eq.trans (hB.2.2.r hmo (by rw [kmo]; rfl)) hr16
  have hr17 : q_ir (q_r f mo 17) pa := Eq.trans (hB.2.2.r hmo (by rw [kmo]; rfl)) hr17
  have hr18 : q_ir (q_r f mo 18) nm := Eq.trans (hB.2.2.r hmo (by rw [kmo]; rfl)) hr18
  have hr19 : q_ir (q_r f mo 19) snm := Eq.trans (hB.2.2.r hmo (by rw [kmo]; rfl)) hr19
  have hr20 : q_ir (q_r f mo 20) anm := Eq.trans (hB.2.2.r hmo (by rw [kmo]; rfl)) hr20
  have hr21 : q_ir (q_r f mo 24) hp := Eq.trans (hB.2.2.r hmo (by rw [kmo]; rfl)) hr21
  have hr22 : q_ir (q_r f mo 25) dy := Eq.trans (hB.2.2.r hmo (by rw [kmo]; rfl)) hr22
  have hr23 : q_ir (q_r f mo 29) cs := Eq.trans (hB.2.2.r hmo (by rw [kmo]; rfl)) hr23
  have hr24 : q_ir (q_r f mo 30) c1 := Eq.trans (hB.2.2.r hmo (by rw [kmo]; rfl)) hr24
  have hr25 : q_ir (q_r f mo 31) c2 := Eq.trans (hB.2.2.r hmo (by rw [kmo]; rfl)) hr25
  have hr26 : q_ir (q_r f mo 32) c3 := Eq.trans (hB.2.2.r hmo (by rw [kmo]; rfl)) hr26
  have hr27 : q_ir (q_r f mo 33) bg := Eq.trans (hB.2.2.r hmo (by rw [kmo]; rfl)) hr27
  have hr28 : q_ir (q_r f mo 34) lp := Eq.trans (hB.2.2.r hmo (by rw [kmo]; rfl)) hr28
  have hr29 : q_ir (q_r f mo 38) rp := Eq.trans (hB.2.2.r hmo (by rw [kmo]; rfl)) hr29
  have hij : tk_ij K L f nds := tk_ij_tr hij (fun i9 => hB.2.2.r hnds (by rw [knds]; rfl))
  obtain ⟨x1, ex1⟩ : ∃ zz, q_is (q_z f sr 3) zz := ⟨_, q_isr _⟩
  obtain ⟨lx1, ux1⟩ : 0 ≤ x1 ∧ x1 ≤ 9999 := q_isb ex1 ⟨(hgr 3 (by decide)).1, ht3⟩
  obtain ⟨x2, ex2⟩ : ∃ zz, q_is (q_z f sr 4) zz := ⟨_, q_isr _⟩
  obtain ⟨lx2, ux2⟩ : 0 ≤ x2 ∧ x2 ≤ 60 := q_isb ex2 ⟨(hgr 4 (by decide)).1, ht4⟩
  refine q_ald_n cx dL_law_220 rfl (lv_at hl 4 rfl) ?_
  refine q_ald_n cx dL_law_221 rfl (lv_at hl 5 rfl) ?_
  refine lv_iload cx.1 cx.2.1 dL_law_222 (lv_at hl 0 rfl) ?_
  refine q_iconst cx dL_law_224 ?_
  refine q_iadd cx dL_law_225 ?_
  refine va_sld cx.1 cx.2.1 hXs hbl hbA hB.1.2.2.2 (q_in (by omega) (by omega) (by omega)) dL_law_226 ?_
  obtain ⟨a3, ra3, ea3⟩ : ∃ z : Int, q_R z ∧ xs (q_i (ii + 1)).toNatClampNeg = q_i z := ⟨_, q_rng _, (q_of _).symm⟩
  rw [ea3]
  refine q_ald_n cx dL_law_227 rfl (lv_at hl 5 rfl) ?_
  refine lv_iload cx.1 cx.2.1 dL_law_228 (lv_at hl 0 rfl) ?_
  refine q_iconst cx dL_law_230 ?_
  refine q_iadd cx dL_law_231 ?_
  refine va_sld cx.1 cx.2.1 hXs hbl hbA hB.1.2.2.2 (q_in (by omega) (by omega) (by omega)) dL_law_232 ?_
  obtain ⟨a4, ra4, ea4⟩ : ∃ z : Int, q_R z ∧ xs (q_i (ii + 2)).toNatClampNeg = q_i z := ⟨_, q_rng _, (q_of _).symm⟩
  rw [ea4]
  refine q_ald_n cx dL_law_233 rfl (lv_at hl 5 rfl) ?_
  refine lv_iload cx.1 cx.2.1 dL_law_234 (lv_at hl 0 rfl) ?_
  refine q_iconst cx dL_law_236 ?_
  refine q_iadd cx dL_law_237 ?_
  refine va_sld cx.1 cx.2.1 hXs hbl hbA hB.1.2.2.2 (q_in (by omega) (by omega) (by omega)) dL_law_238 ?_
  obtain ⟨a5, ra5, ea5⟩ : ∃ z : Int, q_R z ∧ xs (q_i (ii + 3)).toNatClampNeg = q_i z := ⟨_, q_rng _, (q_of _).symm⟩
  rw [ea5]
  refine q_ald_n cx dL_law_239 rfl (lv_at hl 5 rfl) ?_
  refine lv_iload cx.1 cx.2.1 dL_law_240 (lv_at hl 0 rfl) ?_
  refine q_iconst cx dL_law_242 ?_
  refine q_iadd cx dL_law_243 ?_
  refine va_sld cx.1 cx.2.1 hXs hbl hbA hB.1.2.2.2 (q_in (by omega) (by omega) (by omega)) dL_law_244 ?_
  obtain ⟨a6, ra6, ea6⟩ : ∃ z : Int, q_R z ∧ xs (q_i (ii + 4)).toNatClampNeg = q_i z := ⟨_, q_rng _, (q_of _).symm⟩
  rw [ea6]
  refine q_ald_n cx dL_law_245 rfl (lv_at hl 5 rfl) ?_
  refine lv_iload cx.1 cx.2.1 dL_law_246 (lv_at hl 0 rfl) ?_
  refine q_iconst cx dL_law_248 ?_
  refine q_iadd cx dL_law_249 ?_
  refine va_sld cx.1 cx.2.1 hXs hbl hbA hB.1.2.2.2 (q_in (by omega) (by omega) (by omega)) dL_law_250 ?_
  obtain ⟨a7, ra7, ea7⟩ : ∃ z : Int, q_R z ∧ xs (q_i (ii + 5)).toNatClampNeg = q_i z := ⟨_, q_rng _, (q_of _).symm⟩
  rw [ea7]
  refine q_ald_n cx dL_law_251 rfl (lv_at hl 2 rfl) ?_
  by_cases c8 : tn ≤ 580
  · refine q_cWS (As := [.ref x, .int (q_i a3), .int (q_i a4), .int (q_i a5), .int (q_i a6), .int (q_i a7), .ref out]) (rest := []) cx hX hB (fun q h => hLA q h) (fun q h1 h2 => absurd h1 (Nat.not_le_of_lt h2)) hN (f_wfeed l g ad hN hB.2.1 hfl x hx kx a3 (by omega) (by omega) a4 (by omega) (by omega) a5 (by omega) (by omega) a6 (by omega) (by omega) a7 (by omega) (by omega) out hout kout so hso kso rd hrd krd scr hscr kscr fc hfc kfc hist hhist khist rep hrep krep now hnow know dr hdr kdr sv hsv ksv tr htr ktr ba hba kba nds hnds knds tn (by omega) (by omega) hn0 hr0 hr1 hr2 hr3 hr4 hr5 hr6 hr7 hr8 hr9 hr10 hr11) q_cL_118 q_dL_feed ⟨by decide, by show cells + 0 ≤ 601024; omega, by show slots + 0 ≤ 7293034; omega⟩ rfl rfl hl.1 rfl (Nat.le_of_ble_eq_true rfl) dL_law_252 (fun v9 H locs f9 h11 hF hB => ?_)
    obtain ⟨y10, rfl, ry10, h11⟩ := h11
    refine W.eq (g2 := F0 m 255 ls [.int (q_i y10)]) rfl ?_
    obtain ⟨qy10, z12, t13⟩ := h11
    have z14 : q_is (q_z f9 mo 2) tn := Eq.trans (hF.z hmo (by rw [kmo]; rfl)) hn1
    have z15 : q_is (q_z f9 sr 3) x1 := Eq.trans (hF.z hsr (by rw [ksr]; rfl)) ex1
    have z16 : q_is (q_z f9 sr 4) x2 := Eq.trans (hF.z hsr (by rw [ksr]; rfl)) ex2
    have z17 : q_ir (q_r f9 x 0) so := Eq.trans (hF.r hx (by rw [kx]; rfl)) hr0
    have z18 : q_ir (q_r f9 x 1) rd := Eq.trans (hF.r hx (by rw [kx]; rfl)) hr1
    have z19 : q_ir (q_r f9 x 2) scr := Eq.trans (hF.r hx (by rw [kx]; rfl)) hr2
    have z20 : q_ir (q_r f9 x 3) fc := Eq.trans (hF.r hx (by rw [kx]; rfl)) hr3
    have z21 : q_ir (q_r f9 x 4) hist := Eq.trans (hF.r hx (by rw [kx]; rfl)) hr4
    have z22 : q_ir (q_r f9 x 5) rep := Eq.trans (hF.r hx (by rw [kx]; rfl)) hr5
    have z23 : q_ir (q_r f9 x 6) now := Eq.trans (hF.r hx (by rw [kx]; rfl)) hr6
    have z24 : q_ir (q_r f9 x 7) dr := Eq.trans (hF.r hx (by rw [kx]; rfl)) hr7
    have z25 : q_ir (q_r f9 x 8) sv := Eq.trans (hF.r hx (by rw [kx]; rfl)) hr8
    have z26 : q_ir (q_r f9 fc 0) tr := Eq.trans (hF.r hfc (by rw [kfc]; rfl)) hr9
    have z27 : q_ir (q_r f9 so 0) ba := Eq.trans (hF.r hso (by rw [kso]; rfl)) hr10
    have z28 : q_ir (q_r f9 dr 0) nds := Eq.trans (hF.r hdr (by rw [kdr]; rfl)) hr11
    have z29 : q_ir (q_r f9 mo 1) bu := Eq.trans (hF.r hmo (by rw [kmo]; rfl)) hr12
    have z30 : q_ir (q_r f9 mo 13) sr := Eq.trans (hF.r hmo (by rw [kmo]; rfl)) hr13
    have z31 : q_ir (q_r f9 mo 14) sd := Eq.trans (hF.r hmo (by rw [kmo]; rfl)) hr14
    have z32 : q_ir (q_r f9 mo 15) as := Eq.trans (hF.r hmo (by rw [kmo]; rfl)) hr15
    have z33 : q_ir (q_r f9 mo 16) aw := Eq.trans (hF.r hmo (by rw [kmo]; rfl)) hr16
    have z34 : q_ir (q_r f9 mo 17) pa := Eq.trans (hF.r hmo (by rw [kmo]; rfl)) hr17
    have z35 : q_ir (q_r f9 mo 18) nm := Eq.trans (hF.r hmo (by rw [kmo]; rfl)) hr18
    have z36 : q_ir (q_r f9 mo 19) snm := Eq.trans (hF.r hmo (by rw [kmo]; rfl)) hr19
    have z37 : q_ir (q_r f9 mo 20) anm := Eq.trans (hF.r hmo (by rw [kmo]; rfl)) hr20
    have z38 : q_ir (q_r f9 mo 24) hp := Eq.trans (hF.r hmo (by rw [kmo]; rfl)) hr21
    have z39 : q_ir (q_r f9 mo 25) dy := Eq.trans (hF.r hmo (by rw [kmo]; rfl)) hr22
    have z40 : q_ir (q_r f9 mo 29) cs := Eq.trans (hF.r hmo (by rw [kmo]; rfl)) hr23
    have z41 : q_ir (q_r f9 mo 30) c1 := Eq.trans (hF.r hmo (by rw [kmo]; rfl)) hr24
    have z42 : q_ir (q_r f9 mo 31) c2 := Eq.trans (hF.r hmo (by rw [kmo]; rfl)) hr25
    have z43 : q_ir (q_r f9 mo 32) c3 := Eq.trans (hF.r hmo (by rw [kmo]; rfl)) hr26
    have z44 : q_ir (q_r f9 mo 33) bg := Eq.trans (hF.r hmo (by rw [kmo]; rfl)) hr27
    have z45 : q_ir (q_r f9 mo 34) lp := Eq.trans (hF.r hmo (by rw [kmo]; rfl)) hr28
    have z46 : q_ir (q_r f9 mo 38) rp := Eq.trans (hF.r hmo (by rw [kmo]; rfl)) hr29
    have g47 : q_gr f9 sr := q_gr_fr hgr (fun i9 _ => hF.z hsr (by rw [ksr]; rfl))
    have g48 : q_pk f9 mo pa := q_pk_tr hpk (hF.z hmo (by rw [kmo]; rfl)) (fun i9 => hF.z hpa (by rw [kpa]; rfl))
    have g49 : q_sv f9 mo sd := q_sv_tr hsd9 (hF.z hmo (by rw [kmo]; rfl)) (fun i9 => hF.z hsd (by rw [ksd]; rfl))
    have g50 : tk_ij K L f9 nds := tk_ij_tr hij (fun i9 => hF.r hnds (by rw [knds]; rfl))
    subst qy10
    have hbb1 : tk_bb f9 bu ba tn := tk_bb_c hbb t13 (fun i9 => hF.z hbu (by rw [kbu]; rfl))
    have hb91 : tk_b9 f9 ba tn (tk_g20 a3 a4 a5 a6 a7) := t13.2
    refine lv_istore (lv' := [(6, .int (q_i 0)), (5, .int (q_i ii)), (4, .ref outD), (3, .ref out), (2, .ref mo), (1, .ref x), (0, .ref b)]) cx.1 cx.2.1 dL_law_255 hl (by decide) rfl (fun ls hl => ?_)
    refine q_ald_n cx dL_law_257 rfl (lv_at hl 4 rfl) ?_
    refine q_ald_n cx dL_law_258 rfl (lv_at hl 6 rfl) ?_
    refine lv_iload cx.1 cx.2.1 dL_law_259 (lv_at hl 1 rfl) ?_
    refine q_iconst cx dL_law_261 ?_
    refine q_iadd cx dL_law_262 ?_
    refine va_sld cx.1 cx.2.1 hXs hbl hbA hB.1.2.2.2 (q_in (by omega) (by omega) (by omega)) dL_law_263 ?_
    rw [ea3]
    refine q_ald_n cx dL_law_264 rfl (lv_at hl 6 rfl) ?_
    refine lv_iload cx.1 cx.2.1 dL_law_265 (lv_at hl 1 rfl) ?_
    refine q_iconst cx dL_law_267 ?_
    refine q_iadd cx dL_law_268 ?_
    refine va_sld cx.1 cx.2.1 hXs hbl hbA hB.1.2.2.2 (q_in (by omega) (by omega) (by omega)) dL_law_269 ?_
    rw [ea4]
    refine q_ald_n cx dL_law_270 rfl (lv_at hl 6 rfl) ?_
    refine lv_iload cx.1 cx.2.1 dL_law_271 (lv_at hl 1 rfl) ?_
    refine q_iconst cx dL_law_273 ?_
    refine q_iadd cx dL_law_274 ?_
    refine va_sld cx.1 cx.2.1 hXs hbl hbA hB.1.2.2.2 (q_in (by omega) (by omega) (by omega)) dL_law_275 ?_
    rw [ea5]
    refine q_ald_n cx dL_law_276 rfl (lv_at hl 6 rfl) ?_
    refine lv_iload cx.1 cx.2.1 dL_law_277 (lv_at hl 1 rfl) ?_
    refine q_iconst cx dL_law_279 ?_
    refine q_iadd cx dL_law_280 ?_
    refine va_sld cx.1 cx.2.1 hXs hbl hbA hB.1.2.2.2 (q_in (by omega) (by omega) (by omega)) dL_law_281 ?_
    rw [ea6]
    refine q_ald_n cx dL_law_282 rfl (lv_at hl 6 rfl) ?_
    refine lv_iload cx.1 cx.2.1 dL_law_283 (lv_at hl 1 rfl) ?_
    refine q_iconst cx dL_law_285 ?_
    refine q_iadd cx dL_law_286 ?_
    refine va_sld cx.1 cx.2.1 hXs hbl hbA hB.1.2.2.2 (q_in (by omega) (by omega) (by omega)) dL_law_287 ?_
    rw [ea7]
    refine q_cVi (As := [.int (q_i a3), .int (q_i a4), .int (q_i a5), .int (q_i a6), .int (q_i a7)]) (rest := []) cx hB (fun q h => hLA q h) hN hmo kmo (by decide) rfl (f_mfeed l g hN hB.2.1 mo hmo kmo a3 (by omega) (by omega) a4 (by omega) (by omega) a5 (by omega) (by omega) a6 (by omega) (by omega) a7 (by omega) (by omega) bu hbu kbu tn (by omega) (by omega) z14 z29) q_cL_123 q_dX12_feed ⟨by decide, by show cells + 0 ≤ 601024; omega, by show slots + 0 ≤ 7293034; omega⟩ rfl rfl hl.1 rfl (Nat.le_of_ble_eq_true rfl) dL_law_288 (fun y52 H locs f51 ry52 h53 hF hB => ?_)
    obtain ⟨qy52, z54, z55, t56⟩ := h53
    have z57 : q_is (q_z f51 sr 3) x1 := Eq.trans (hF.z hsr (by rw [ksr]; rfl)) z15
    have z58 : q_is (q_z f51 sr 4) x2 := Eq.trans (hF.z hsr (by rw [ksr]; rfl)) z16
    have z59 : q_is (q_z f51 so 1) (tn + 20) := Eq.trans (hF.z hso (by rw [kso]; rfl)) z12
    have z60 : q_ir (q_r f51 x 0) so := Eq.trans (hF.r hx (by rw [kx]; rfl)) z17
    have z61 : q_ir (q_r f51 x 1) rd := Eq.trans (hF.r hx (by rw [kx]; rfl)) z18
    have z62 : q_ir (q_r f51 x 2) scr := Eq.trans (hF.r hx (by rw [kx]; rfl)) z19
    have z63 : q_ir (q_r f51 x 3) fc := Eq.trans (hF.r hx (by rw [kx]; rfl)) z20
    have z64 : q_ir (q_r f51 x 4) hist := Eq.trans (hF.r hx (by rw [kx]; rfl)) z21
    have z65 : q_ir (q_r f51 x 5) rep := Eq.trans (hF.r hx (by rw [kx]; rfl)) z22
    have z66 : q_ir (q_r f51 x 6) now := Eq.trans (hF.r hx (by rw [kx]; rfl)) z23
    have z67 : q_ir (q_r f51 x 7) dr := Eq.trans (hF.r hx (by rw [kx]; rfl)) z24
    have z68 : q_ir (q_r f51 x 8) sv := Eq.trans (hF.r hx (by rw [kx]; rfl)) z25
    have z69 : q_ir (q_r f51 fc 0) tr := Eq.trans (hF.r hfc (by rw [kfc]; rfl)) z26
    have z70 : q_ir (q_r f51 so 0) ba := Eq.trans (hF.r hso (by rw [kso]; rfl)) z27
    have z71 : q_ir (q_r f51 dr 0) nds := Eq.trans (hF.r hdr (by rw [kdr]; rfl)) z28
    have z72 : q_ir (q_r f51 mo 1) bu := Eq.trans (hF.r hmo (by rw [kmo]; rfl)) z29
    have z73 : q_ir (q_r f51 mo 13) sr := Eq.trans (hF.r hmo (by rw [kmo]; rfl)) z30
    have z74 : q_ir (q_r f51 mo 14) sd := Eq.trans (hF.r hmo (by rw [kmo]; rfl)) z31
    have z75 : q_ir (q_r f51 mo 15) as := Eq.trans (hF.r hmo (by rw [kmo]; rfl)) z32
    have z76 : q_ir (q_r f51 mo 16) aw := Eq.trans (hF.r hmo (by rw [kmo]; rfl)) z33
    have z77 : q_ir (q_r f51 mo 17) pa := Eq.trans (hF.r hmo (by rw [kmo]; rfl)) z34
    have z78 : q_ir (q_r f51 mo 18) nm := Eq.trans (hF.r hmo (by rw [kmo]; rfl)) z35
    have z79 : q_ir (q_r f51 mo 19) snm := Eq.trans (hF.r hmo (by rw [kmo]; rfl)) z36
    have z80 : q_ir (q_r f51 mo 20) anm := Eq.trans (hF.r hmo (by rw [kmo]; rfl)) z37
    have z81 : q_ir (q_r f51 mo 24) hp := Eq.trans (hF.r hmo (by rw [kmo]; rfl)) z38
    have z82 : q_ir (q_r f51 mo 25) dy := Eq.trans (hF.r hmo (by rw [kmo]; rfl)) z39
    have z83 : q_ir (q_r f51 mo 29) cs := Eq.trans (hF.r hmo (by rw [kmo]; rfl)) z40
    have z84 : q_ir (q_r f51 mo 30) c1 := Eq.trans (hF.r hmo (by rw [kmo]; rfl)) z41
    have z85 : q_ir (q_r f51 mo 31) c2 := Eq.trans (hF.r hmo (by rw [kmo]; rfl)) z42
    have z86 : q_ir (q_r f51 mo 32) c3 := Eq.trans (hF.r hmo (by rw [kmo]; rfl)) z43
    have z87 : q_ir (q_r f51 mo 33) bg := Eq.trans (hF.r hmo (by rw [kmo]; rfl)) z44
    have z88 : q_ir (q_r f51 mo 34) lp := Eq.trans (hF.r hmo (by rw [kmo]; rfl)) z45
    have z89 : q_ir (q_r f51 mo 38) rp := Eq.trans (hF.r hmo (by rw [kmo]; rfl)) z46
    have g90 : q_gr f51 sr := q_gr_fr g47 (fun i9 _ => hF.z hsr (by rw [ksr]; rfl))
    have g91 : q_pk f51 mo pa := q_pk_tr g48 (hF.z hmo (by rw [kmo]; rfl)) (fun i9 => hF.z hpa (by rw [kpa]; rfl))
    have g92 : q_sv f51 mo sd := q_sv_tr g49 (hF.z hmo (by rw [kmo]; rfl)) (fun i9 => hF.z hsd (by rw [ksd]; rfl))
    have g93 : tk_ij K L f51 nds := tk_ij_tr g50 (fun i9 => hF.r hnds (by rw [knds]; rfl))
    have g94 : tk_b9 f51 ba tn (tk_g20 a3 a4 a5 a6 a7) := tk_b9_tr hb91 (fun i9 => hF.z hba (by rw [kba]; rfl))
    have hbb2 : tk_bb f51 bu ba (tn + 20) := tk_bb_m hbb1 (by omega) hb91 t56 (fun i9 => hF.z hba (by rw [kba]; rfl))
    refine lv_istore (lv' := [(7, .int (q_i y52)), (6, .int (q_i 0)), (5, .int (q_i ii)), (4, .ref outD), (3, .ref out), (2, .ref mo), (1, .ref x), (0, .ref b)]) cx.1 cx.2.1 dL_law_291 hl (by decide) rfl (fun ls hl => ?_)
    refine lv_goto (tgt := 1521) cx.1 cx.2.1 dL_law_293 (by decide) ?_
    refine W.widen (k := cells + 6) (n := slots + 36) (by omega) (by omega) ?_
    exact kk f51 H locs ls (tn + 20) hB ⟨⟨z59, (Eq.trans z54 (by omega)), by omega, by omega⟩, g90, g91, g92, q_isu z57 (by omega), q_isu z58 (by omega), tk_bb_le hbb2 (by omega)⟩ (lv_sub hl [2, 3, 4, 5, 6, 7] rfl)
  · refine q_cWS (As := [.ref x, .int (q_i a3), .int (q_i a4), .int (q_i a5), .int (q_i a6), .int (q_i a7), .ref out]) (rest := []) cx hX hB (fun q h => hLA q h) (fun q h1 h2 => absurd h1 (Nat.not_le_of_lt h2)) hN (w_feed_b l g ad hN hB.2.1 hfl x hx kx a3 (by omega) (by omega) a4 (by omega) (by omega) a5 (by omega) (by omega) a6 (by omega) (by omega) a7 (by omega) (by omega) out hout kout so hso kso rd hrd krd scr hscr kscr fc hfc kfc hist hhist khist rep hrep krep now hnow know dr hdr kdr sv hsv ksv tr htr ktr tn (by omega) (by omega) hn0 hr0 hr1 hr2 hr3 hr4 hr5 hr6 hr7 hr8 hr9) q_cL_118 q_dL_feed ⟨by decide, by show cells + 1 ≤ 601024; omega, by show slots + 6 ≤ 7293034; omega⟩ rfl rfl hl.1 rfl (Nat.le_of_ble_eq_true rfl) dL_law_252 (fun v9 H locs f95 h97 hF hB => ?_)
    obtain ⟨y96, rfl, ry96, h97⟩ := h97
    refine W.eq (g2 := F0 m 255 ls [.int (q_i y96)]) rfl ?_
    obtain ⟨rfl, qy96⟩ := h97
    subst qy96
    refine lv_istore (lv' := [(6, .int (q_i 1)), (5, .int (q_i ii)), (4, .ref outD), (3, .ref out), (2, .ref mo), (1, .ref x), (0, .ref b)]) cx.1 cx.2.1 dL_law_255 hl (by decide) rfl (fun ls hl => ?_)
    refine q_ald_n cx dL_law_257 rfl (lv_at hl 4 rfl) ?_
    refine q_ald_n cx dL_law_258 rfl (lv_at hl 6 rfl) ?_
    refine lv_iload cx.1 cx.2.1 dL_law_259 (lv_at hl 1 rfl) ?_
    refine q_iconst cx dL_law_261 ?_
    refine q_iadd cx dL_law_262 ?_
    refine va_sld cx.1 cx.2.1 hXs hbl hbA hB.1.2.2.2 (q_in (by omega) (by omega) (by omega)) dL_law_263 ?_
    rw [ea3]
    refine q_ald_n cx dL_law_264 rfl (lv_at hl 6 rfl) ?_
    refine lv_iload cx.1 cx.2.1 dL_law_265 (lv_at hl 1 rfl) ?_
    refine q_iconst cx dL_law_267 ?_
    refine q_iadd cx dL_law_268 ?_
    refine va_sld cx.1 cx.2.1 hXs hbl hbA hB.1.2.2.2 (q_in (by omega) (by omega) (by omega)) dL_law_269 ?_
    rw [ea4]
    refine q_ald_n cx dL_law_270 rfl (lv_at hl 6 rfl) ?_
    refine lv_iload cx.1 cx.2.1 dL_law_271 (lv_at hl 1 rfl) ?_
    refine q_iconst cx dL_law_273 ?_
    refine q_iadd cx dL_law_274 ?_
    refine va_sld cx.1 cx.2.1 hXs hbl hbA hB.1.2.2.2 (q_in (by omega) (by omega) (by omega)) dL_law_275 ?_
    rw [ea5]
    refine q_ald_n cx dL_law_276 rfl (lv_at hl 6 rfl) ?_
    refine lv_iload cx.1 cx.2.1 dL_law_277 (lv_at hl 1 rfl) ?_
    refine q_iconst cx dL_law_279 ?_
    refine q_iadd cx dL_law_280 ?_
    refine va_sld cx.1 cx.2.1 hXs hbl hbA hB.1.2.2.2 (q_in (by omega) (by omega) (by omega)) dL_law_281 ?_
    rw [ea6]
    refine q_ald_n cx dL_law_282 rfl (lv_at hl 6 rfl) ?_
    refine lv_iload cx.1 cx.2.1 dL_law_283 (lv_at hl 1 rfl) ?_
    refine q_iconst cx dL_law_285 ?_
    refine q_iadd cx dL_law_286 ?_
    refine va_sld cx.1 cx.2.1 hXs hbl hbA hB.1.2.2.2 (q_in (by omega) (by omega) (by omega)) dL_law_287 ?_
    rw [ea7]
    refine q_cVi (As := [.int (q_i a3), .int (q_i a4), .int (q_i a5), .int (q_i a6), .int (q_i a7)]) (rest := []) cx hB (fun q h => hLA q h) hN hmo kmo (by decide) rfl (r_feed_b l g hN hB.2.1 mo hmo kmo a3 (by omega) (by omega) a4 (by omega) (by omega) a5 (by omega) (by omega) a6 (by omega) (by omega) a7 (by omega) (by omega) bu hbu kbu tn (by omega) (by omega) hn1 hr12) q_cL_123 q_dX12_feed ⟨by decide, by show cells + 1 ≤ 601024; omega, by show slots + 6 ≤ 7293034; omega⟩ rfl rfl hl.1 rfl (Nat.le_of_ble_eq_true rfl) dL_law_288 (fun y99 H locs f98 ry99 h100 hF hB => ?_)
    obtain ⟨qy99, z101, z102⟩ := h100
    have z103 : q_is (q_z f98 so 1) tn := Eq.trans (hF.z hso (by rw [kso]; rfl)) hn0
    have z104 : q_is (q_z f98 mo 2) tn := Eq.trans (hF.z hmo (by rw [kmo]; rfl)) hn1
    have z105 : q_is (q_z f98 sr 3) x1 := Eq.trans (hF.z hsr (by rw [ksr]; rfl)) ex1
    have z106 : q_is (q_z f98 sr 4) x2 := Eq.trans (hF.z hsr (by rw [ksr]; rfl)) ex2
    have z107 : q_ir (q_r f98 x 0) so := Eq.trans (hF.r hx (by rw [kx]; rfl)) hr0
    have z108 : q_ir (q_r f98 x 1) rd := Eq.trans (hF.r hx (by rw [kx]; rfl)) hr1
    have z109 : q_ir (q_r f98 x 2) scr := Eq.trans (hF.r hx (by rw [kx]; rfl)) hr2
    have z110 : q_ir (q_r f98 x 3) fc := Eq.trans (hF.r hx (by rw [kx]; rfl)) hr3
    have z111 : q_ir (q_r f98 x 4) hist := Eq.trans (hF.r hx (by rw [kx]; rfl)) hr4
    have z112 : q_ir (q_r f98 x 5) rep := Eq.trans (hF.r hx (by rw [kx]; rfl)) hr5
    have z113 : q_ir (q_r f98 x 6) now := Eq.trans (hF.r hx (by rw [kx]; rfl)) hr6
    have z114 : q_ir (q_r f98 x 7) dr := Eq.trans (hF.r hx (by rw [kx]; rfl)) hr7
    have z115 : q_ir (q_r f98 x 8) sv := Eq.trans (hF.r hx (by rw [kx]; rfl)) hr8
    have z116 : q_ir (q_r f98 fc 0) tr := Eq.trans (hF.r hfc (by rw [kfc]; rfl)) hr9
    have z117 : q_ir (q_r f98 so 0) ba := Eq.trans (hF.r hso (by rw [kso]; rfl)) hr10
    have z118 : q_ir (q_r f98 dr 0) nds := Eq.trans (hF.r hdr (by rw [kdr]; rfl)) hr11
    have z119 : q_ir (q_r f98 mo 1) bu := Eq.trans (hF.r hmo (by rw [kmo]; rfl)) hr12
    have z120 : q_ir (q_r f98 mo 13) sr := Eq.trans (hF.r hmo (by rw [kmo]; rfl)) hr13
    have z121 : q_ir (q_r f98 mo 14) sd := Eq.trans (hF.r hmo (by rw [kmo]; rfl)) hr14
    have z122 : q_ir (q_r f98 mo 15) as := Eq.trans (hF.r hmo (by rw [kmo]; rfl)) hr15
    have z123 : q_ir (q_r f98 mo 16) aw := Eq.trans (hF.r hmo (by rw [kmo]; rfl)) hr16
    have z124 : q_ir (q_r f98 mo 17) pa := Eq.trans (hF.r hmo (by rw [kmo]; rfl)) hr17
    have z125 : q_ir (q_r f98 mo 18) nm := Eq.trans (hF.r hmo (by rw [kmo]; rfl)) hr18
    have z126 : q_ir (q_r f98 mo 19) snm := Eq.trans (hF.r hmo (by rw [kmo]; rfl)) hr19
    have z127 : q_ir (q_r f98 mo 20) anm := Eq.trans (hF.r hmo (by rw [kmo]; rfl)) hr20
    have z128 : q_ir (q_r f98 mo 24) hp := Eq.trans (hF.r hmo (by rw [kmo]; rfl)) hr21
    have z129 : q_ir (q_r f98 mo 25) dy := Eq.trans (hF.r hmo (by rw [kmo]; rfl)) hr22
    have z130 : q_ir (q_r f98 mo 29) cs := Eq.trans (hF.r hmo (by rw [kmo]; rfl)) hr23
    have z131 : q_ir (q_r f98 mo 30) c1 := Eq.trans (hF.r hmo (by rw [kmo]; rfl)) hr24
    have z132 : q_ir (q_r f98 mo 31) c2 := Eq.trans (hF.r hmo (by rw [kmo]; rfl)) hr25
    have z133 : q_ir (q_r f98 mo 32) c3 := Eq.trans (hF.r hmo (by rw [kmo]; rfl)) hr26
    have z134 : q_ir (q_r f98 mo 33) bg := Eq.trans (hF.r hmo (by rw [kmo]; rfl)) hr27
    have z135 : q_ir (q_r f98 mo 34) lp := Eq.trans (hF.r hmo (by rw [kmo]; rfl)) hr28
    have z136 : q_ir (q_r f98 mo 38) rp := Eq.trans (hF.r hmo (by rw [kmo]; rfl)) hr29
    have g137 : q_gr f98 sr := q_gr_fr hgr (fun i9 _ => hF.z hsr (by rw [ksr]; rfl))
    have g138 : q_pk f98 mo pa := q_pk_tr hpk (hF.z hmo (by rw [kmo]; rfl)) (fun i9 => hF.z hpa (by rw [kpa]; rfl))
    have g139 : q_sv f98 mo sd := q_sv_tr hsd9 (hF.z hmo (by rw [kmo]; rfl)) (fun i9 => hF.z hsd (by rw [ksd]; rfl))
    have g140 : tk_bb f98 bu ba tn := tk_bb_tr hbb (fun i9 => hF.z hbu (by rw [kbu]; rfl)) (fun i9 => hF.z hba (by rw [kba]; rfl))
    have g141 : tk_ij K L f98 nds := tk_ij_tr hij (fun i9 => hF.r hnds (by rw [knds]; rfl))
    subst qy99
    refine lv_istore (lv' := [(7, .int (q_i 0)), (6, .int (q_i 1)), (5, .int (q_i ii)), (4, .ref outD), (3, .ref out), (2, .ref mo), (1, .ref x), (0, .ref b)]) cx.1 cx.2.1 dL_law_291 hl (by decide) rfl (fun ls hl => ?_)
    refine lv_goto (tgt := 1521) cx.1 cx.2.1 dL_law_293 (by decide) ?_
    refine W.widen (k := cells + 6) (n := slots + 36) (by omega) (by omega) ?_
    exact kk f98 H locs ls tn hB ⟨⟨z103, (Eq.trans z101 (by omega)), by omega, by omega⟩, g137, g138, g139, q_isu z105 (by omega), q_isu z106 (by omega), tk_bb_le g140 (by omega)⟩ (lv_sub hl [2, 3, 4, 5, 6, 7] rfl)
set_option maxHeartbeats 4000000 in
set_option maxRecDepth 100000 in
theorem law_c296 {p : Program} {l : Launch} {e : Env} {s : State} {m : MethodId} {below : List Frame} {meth : Method} {c : Code} {b N9 : Nat} {xs : Nat → Int32} (hfl : l.stackTraces = false) (hN9 : N9 ≤ 3072) (C0 : lw_At p s m meth c b N9 xs) (cx : CallFix p m c cL_law 10 s #[Value.ref b] q_al RL) {g : q_G} {ad : Nat → Nat} {K : Nat → Nat} {L : List Nat} (hN : L.Nodup) (hLA : ∀ q, q ∈ L → s.heap.size ≤ q) (hX : q_X ad (fun q => q ∈ L) s) {f0 : Nat → va_E} {x : Nat} (hx : x ∈ L) (kx : K x = 11) {so : Nat} (hso : so ∈ L) (kso : K so = 8) {rd : Nat} (hrd : rd ∈ L) (krd : K rd = 9) {scr : Nat} (hscr : scr ∈ L) (kscr : K scr = 7) {fc : Nat} (hfc : fc ∈ L) (kfc : K fc = 1) {hist : Nat} (hhist : hist ∈ L) (khist : K hist = 2) {rep : Nat} (hrep : rep ∈ L) (krep : K rep = 6) {now : Nat} (hnow : now ∈ L) (know : K now = 10) {dr : Nat} (hdr : dr ∈ L) (kdr : K dr = 13) {sv : Nat} (hsv : sv ∈ L) (ksv : K sv = 14) {tr : Nat} (htr : tr ∈ L) (ktr : K tr = 15) {ba : Nat} (hba : ba ∈ L) (kba : K ba = 142) {nds : Nat} (hnds : nds ∈ L) (knds : K nds = 111) {mo : Nat} (hmo : mo ∈ L) (kmo : K mo = 12) {bu : Nat} (hbu : bu ∈ L) (kbu : K bu = 150) {sr : Nat} (hsr : sr ∈ L) (ksr : K sr = 151) {sd : Nat} (hsd : sd ∈ L) (ksd : K sd = 152) {as : Nat} (has : as ∈ L) (kas : K as = 153) {aw : Nat} (haw : aw ∈ L) (kaw : K aw = 154) {pa : Nat} (hpa : pa ∈ L) (kpa : K pa = 155) {nm : Nat} (hnm : nm ∈ L) (knm : K nm = 156) {snm : Nat} (hsnm : snm ∈ L) (ksnm : K snm = 157) {anm : Nat} (hanm : anm ∈ L) (kanm : K anm = 158) {hp : Nat} (hhp : hp ∈ L) (khp : K hp = 159) {dy : Nat} (hdy : dy ∈ L) (kdy : K dy = 160) {cs : Nat} (hcs : cs ∈ L) (kcs : K cs = 161) {c1 : Nat} (hc1 : c1 ∈ L) (kc1 : K c1 = 162) {c2 : Nat} (hc2 : c2 ∈ L) (kc2 : K c2 = 163) {c3 : Nat} (hc3 : c3 ∈ L) (kc3 : K c3 = 164) {bg : Nat} (hbg : bg ∈ L) (kbg : K bg = 165) {lp : Nat} (hlp : lp ∈ L) (klp : K lp = 166) {rp : Nat} (hrp : rp ∈ L) (krp : K rp = 167) {out : Nat} (hout : out ∈ L) (kout : K out = 168) {outD : Nat} (houtD : outD ∈ L) (koutD : K outD = 169) (hr0 : q_ir (q_r f0 x 0) so) (hr1 : q_ir (q_r f0 x 1) rd) (hr2 : q_ir (q_r f0 x 2) scr) (hr3 : q_ir (q_r f0 x 3) fc) (hr4 : q_ir (q_r f0 x 4) hist) (hr5 : q_ir (q_r f0 x 5) rep) (hr6 : q_ir (q_r f0 x 6) now) (hr7 : q_ir (q_r f0 x 7) dr) (hr8 : q_ir (q_r f0 x 8) sv) (hr9 : q_ir (q_r f0 fc 0) tr) (hr10 : q_ir (q_r f0 so 0) ba) (hr11 : q_ir (q_r f0 dr 0) nds) (hr12 : q_ir (q_r f0 mo 1) bu) (hr13 : q_ir (q_r f0 mo 13) sr) (hr14 : q_ir (q_r f0 mo 14) sd) (hr15 : q_ir (q_r f0 mo 15) as) (hr16 : q_ir (q_r f0 mo 16) aw) (hr17 : q_ir (q_r f0 mo 17) pa) (hr18 : q_ir (q_r f0 mo 18) nm) (hr19 : q_ir (q_r f0 mo 19) snm) (hr20 : q_ir (q_r f0 mo 20) anm) (hr21 : q_ir (q_r f0 mo 24) hp) (hr22 : q_ir (q_r f0 mo 25) dy) (hr23 : q_ir (q_r f0 mo 29) cs) (hr24 : q_ir (q_r f0 mo 30) c1) (hr25 : q_ir (q_r f0 mo 31) c2) (hr26 : q_ir (q_r f0 mo 32) c3) (hr27 : q_ir (q_r f0 mo 33) bg) (hr28 : q_ir (q_r f0 mo 34) lp) (hr29 : q_ir (q_r f0 mo 38) rp) (hij : tk_ij K L f0 nds) {f : Nat → va_E} {H : Heap} {locs : List Loc} {ls : Array Slot} {cells slots : Nat} {ii tn : Int} (hB : q_B g K L (fun q => s.heap.size ≤ q) [(0, 0, 6), (2, 1, 2), (3, 0, 4), (4, 0, 7), (5, 0, 9), (6, 1, 1), (7, 1, 4), (8, 1, 9), (9, 0, 2), (10, 3, 15), (11, 9, 9), (12, 0, 0), (12, 2, 12), (12, 21, 23), (12, 26, 28), (12, 35, 37), (12, 39, 40), (13, 3, 15), (14, 3, 15), (15, 3, 15), (16, 3, 15), (17, 0, 9), (18, 0, 9), (19, 0, 9), (20, 0, 9), (21, 0, 4), (22, 0, 4), (23, 0, 4), (24, 0, 4), (25, 0, 7), (26, 0, 7), (27, 0, 7), (28, 0, 7), (142, 0, 599), (143, 0, 599), (150, 0, 599), (151, 0, 657), (152, 0, 657), (153, 0, 657), (154, 0, 657), (155, 0, 3947), (156, 0, 9), (157, 0, 9), (158, 0, 9), (159, 0, 9), (160, 0, 9), (161, 0, 59), (162, 0, 58), (163, 0, 58), (164, 0, 58), (165, 0, 1), (166, 0, 1), (167, 0, 479), (168, 0, 0), (169, 0, 0)] f0 f s H locs) (hI : q_Iv4 f so mo sr pa sd bu ba tn) (hl : lv_has ls 10 [(5, .int (q_i ii)), (4, .ref outD), (3, .ref out), (2, .ref mo), (1, .ref x), (0, .ref b)]) (hi0 : 0 ≤ ii) (hi6 : ii + 6 ≤ N9) (hce : cells + 6 ≤ 10000) (hse : slots + 36 ≤ 100000) (kk : ∀ (f1 : Nat → va_E) (H1 : Heap) (locs1 : List Loc) (ls1 : Array Slot) (tn1 : Int), q_B g K L (fun q => s.heap.size ≤ q) [(0, 0, 6), (2, 1, 2), (3, 0, 4), (4, 0, 7), (5, 0, 9), (6, 1, 1), (7, 1, 4), (8, 1, 9), (9, 0, 2), (10, 3, 15), (11, 9, 9), (12, 0, 0), (12, 2, 12), (12, 21, 23), (12, 26, 28), (12, 35, 37), (12, 39, 40), (13, 3, 15), (14, 3, 15), (15, 3, 15), (16, 3, 15), (17, 0, 9), (18, 0, 9), (19, 0, 9), (20, 0, 9), (21, 0, 4), (22, 0, 4), (23, 0, 4), (24, 0, 4), (25, 0, 7), (26, 0, 7), (27, 0, 7), (28, 0, 7), (142, 0, 599), (143, 0, 599), (150, 0, 599), (151, 0, 657), (152, 0, 657), (153, 0, 657), (154, 0, 657), (155, 0, 3947), (156, 0, 9), (157, 0, 9), (158, 0, 9), (159, 0, 9), (160, 0, 9), (161, 0, 59), (162, 0, 58), (163, 0, 58), (164, 0, 58), (165, 0, 1), (166, 0, 1), (167, 0, 479), (168, 0, 0), (169, 0, 0)] f0 f1 s H1 locs1 → q_Iv4 f1 so mo sr pa sd bu ba tn1 → lv_has ls1 10 [(5, .int (q_i ii)), (4, .ref outD), (3, .ref out), (2, .ref mo), (1, .ref x), (0, .ref b)] → W p l e room_1 s m #[Value.ref b] below meth c H1 locs1 (cells + 6) (slots + 36) (lw_Z below #[Value.ref b] s) (F0 m 1521 ls1 [])) : W p l e room_1 s m #[Value.ref b] below meth c H locs (cells) (slots) (lw_Z below #[Value.ref b] s) (F0 m 296 ls []) := by
  have hXs := C0.2.2.2.2.2.2.1
  have hbl := C0.2.2.2.2.2.2.2.1
  have hbA := q_bA hbl
  obtain ⟨⟨hn0, hn1, ltn, utn⟩, hgr, hpk, hsd9, ht3, ht4, hbb⟩ := hI
  have hr0 : q_ir (q_r f x 0) so := Eq.trans (hB.2.2.r hx (by rw [kx]; rfl)) hr0
  have hr1 : q_ir (q_r f x 1) rd := Eq.trans (hB.2.2.r hx (by rw [kx]; rfl)) hr1
  have hr2 : q_ir (q_r f x 2) scr := Eq.trans (hB.2.2.r hx (by rw [kx]; rfl)) hr2
  have hr3 : q_ir (q_r f x 3) fc := Eq.trans (hB.2.2.r hx (by rw [kx]; rfl)) hr3
  have hr4 : q_ir (q_r f x 4) hist := Eq.trans (hB.2.2.r hx (by rw [kx]; rfl)) hr4
  have hr5 : q_ir (q_r f x 5) rep := Eq.trans (hB.2.2.r hx (by rw [kx]; rfl)) hr5
  have hr6 : q_ir (q_r f x 6) now := Eq.trans (hB.2.2.r hx (by rw [kx]; rfl)) hr6
  have hr7 : q_ir (q_r f x 7) dr := Eq.trans (hB.2.2.r hx (by rw [kx]; rfl)) hr7
  have hr8 : q_ir (q_r f x 8) sv := Eq.trans (hB.2.2.r hx (by rw [kx]; rfl)) hr8
  have hr9 : q_ir (q_r f fc 0) tr := Eq.trans (hB.2.2.r hfc (by rw [kfc]; rfl)) hr9
  have hr10 : q_ir (q_r f so 0) ba := Eq.trans (hB.2.2.r hso (by rw [kso]; rfl)) hr10
  have hr11 : q_ir (q_r f dr 0) nds := Eq.trans (hB.2.2.r hdr (by rw [kdr]; rfl)) hr11
  have hr12 : q_ir (q_r f mo 1) bu := Eq.trans (hB.2.2.r hmo (by rw [kmo]; rfl)) hr12
  have hr13 : q_ir (q_r f mo 13) sr := Eq.trans (hB.2.2.r hmo (by rw [kmo]; rfl)) hr13
  have hr14 : q_ir (q_r f mo 14) sd := Eq.trans (hB.2.2.r hmo (by rw [kmo]; rfl)) hr14
  have hr15 : q_ir (q_r f mo 15) as := Eq.trans (hB.2.2.r hmo (by rw [kmo]; rfl)) hr15
  have hr16 : q_ir (q_r f mo 16) aw := Eq.trans (hB.2.2.r hmo (by rw [kmo]; rfl)) hr16
  have hr17 : q_ir (q_r f mo 17) pa := Eq.trans (hB.2.2.r hmo (by rw [kmo]; rfl)) hr17
  have hr18 : q_ir (q_r f mo 18) nm := Eq.trans (hB.2.2.r hmo (by rw [kmo]; rfl)) hr18
  have hr19 : q_ir (q_r f mo 19) snm := Eq.trans (hB.2.2.r hmo (by rw [kmo]; rfl)) hr19
  have hr20 : q_ir (q_r f mo 20) anm := Eq.trans (hB.2.2.r hmo (by rw [kmo]; rfl)) hr20
  have hr21 : q_ir (q_r f mo 24) hp := Eq.trans (hB.2.2.r hmo (by rw [kmo]; rfl)) hr21
  have hr22 : q_ir (q_r f mo 25) dy := Eq.trans (hB.2.2.r hmo (by rw [kmo]; rfl)) hr22
  have hr23 : q_ir (q_r f mo 29) cs := Eq.trans (hB.2.2.r hmo (by rw [kmo]; rfl)) hr23
  have hr24 : q_ir (q_r f mo 30) c1 := Eq.trans (hB.2.2.r hmo (by rw [kmo]; rfl)) hr24
  have hr25 : q_ir (q_r f mo 31) c2 := Eq.trans (hB.2.2.r hmo (by rw [kmo]; rfl)) hr25
  have hr26 : q_ir (q_r f mo 32) c3 := Eq.trans (hB.2.2.r hmo (by rw [kmo]; rfl)) hr26
  have hr27 : q_ir (q_r f mo 33) bg := Eq.trans (hB.2.2.r hmo (by rw [kmo]; rfl)) hr27
  have hr28 : q_ir (q_r f mo 34) lp := Eq.trans (hB.2.2.r hmo (by rw [kmo]; rfl)) hr28
  have hr29 : q_ir (q_r f mo 38) rp := Eq.trans (hB.2.2.r hmo (by rw [kmo]; rfl)) hr29
  have hij : tk_ij K L f nds := tk_ij_tr hij (fun i9 => hB.2.2.r hnds (by rw [knds]; rfl))
  obtain ⟨x1, ex1⟩ : ∃ zz, q_is (q_z f sr 3) zz := ⟨_, q_isr _⟩
  obtain ⟨lx1, ux1⟩ : 0 ≤ x1 ∧ x1 ≤ 9999 := q_isb ex1 ⟨(hgr 3 (by decide)).1, ht3⟩
  obtain ⟨x2, ex2⟩ : ∃ zz, q_is (q_z f sr 4) zz := ⟨_, q_isr _⟩
  obtain ⟨lx2, ux2⟩ : 0 ≤ x2 ∧ x2 ≤ 60 := q_isb ex2 ⟨(hgr 4 (by decide)).1, ht4⟩
  refine q_ald_n cx dL_law_296 rfl (lv_at hl 4 rfl) ?_
  refine q_ald_n cx dL_law_297 rfl (lv_at hl 5 rfl) ?_
  refine lv_iload cx.1 cx.2.1 dL_law_298 (lv_at hl 0 rfl) ?_
  refine q_iconst cx dL_law_300 ?_
  refine q_iadd cx dL_law_301 ?_
  refine va_sld cx.1 cx.2.1 hXs hbl hbA hB.1.2.2.2 (q_in (by omega) (by omega) (by omega)) dL_law_302 ?_
  obtain ⟨a3, ra3, ea3⟩ : ∃ z : Int, q_R z ∧ xs (q_i (ii + 1)).toNatClampNeg = q_i z := ⟨_, q_rng _, (q_of _).symm⟩
  rw [ea3]
  refine q_ald_n cx dL_law_303 rfl (lv_at hl 2 rfl) ?_
  by_cases c4 : a3 ≤ (-1)
  · refine q_cWS (As := [.ref x, .int (q_i a3), .ref out]) (rest := []) cx hX hB (fun q h => hLA q h) (fun q h1 h2 => absurd h1 (Nat.not_le_of_lt h2)) hN (w_truncate_a l g ad hN hB.2.1 hfl x hx kx a3 (by omega) (by omega) out hout kout so hso kso rd hrd krd scr hscr kscr fc hfc kfc hist hhist khist rep hrep krep now hnow know dr hdr kdr sv hsv ksv tr htr ktr tn (by omega) (by omega) hn0 hr0 hr1 hr2 hr3 hr4 hr5 hr6 hr7 hr8 hr9) q_cL_124 q_dL_truncate ⟨by decide, by show cells + 1 ≤ 601024; omega, by show slots + 6 ≤ 7293034; omega⟩ rfl rfl hl.1 rfl (Nat.le_of_ble_eq_true rfl) dL_law_304 (fun v9 H locs f5 h7 hF hB => ?_)
    obtain ⟨y6, rfl, ry6, h7⟩ := h7
    refine W.eq (g2 := F0 m 307 ls [.int (q_i y6)]) rfl ?_
    obtain ⟨rfl, qy6⟩ := h7
    subst qy6
    refine lv_istore (lv' := [(6, .int (q_i 1)), (5, .int (q_i ii)), (4, .ref outD), (3, .ref out), (2, .ref mo), (1, .ref x), (0, .ref b)]) cx.1 cx.2.1 dL_law_307 hl (by decide) rfl (fun ls hl => ?_)
    refine q_ald_n cx dL_law_309 rfl (lv_at hl 4 rfl) ?_
    refine q_ald_n cx dL_law_310 rfl (lv_at hl 6 rfl) ?_
    refine lv_iload cx.1 cx.2.1 dL_law_311 (lv_at hl 1 rfl) ?_
    refine q_iconst cx dL_law_313 ?_
    refine q_iadd cx dL_law_314 ?_
    refine va_sld cx.1 cx.2.1 hXs hbl hbA hB.1.2.2.2 (q_in (by omega) (by omega) (by omega)) dL_law_315 ?_
    rw [ea3]
    refine q_cVi (As := [.int (q_i a3)]) (rest := []) cx hB (fun q h => hLA q h) hN hmo kmo (by decide) rfl (r_truncate_a l g hN hB.2.1 mo hmo kmo a3 (by omega) (by omega) tn (by omega) (by omega) hn1) q_cL_127 q_dX12_truncate ⟨by decide, by show cells + 1 ≤ 601024; omega, by show slots + 6 ≤ 7293034; omega⟩ rfl rfl hl.1 rfl (Nat.le_of_ble_eq_true rfl) dL_law_316 (fun y9 H locs f8 ry9 h10 hF hB => ?_)
    obtain ⟨qy9, z11, z12⟩ := h10
    have z13 : q_is (q_z f8 so 1) tn := Eq.trans (hF.z hso (by rw [kso]; rfl)) hn0
    have z14 : q_is (q_z f8 mo 2) tn := Eq.trans (hF.z hmo (by rw [kmo]; rfl)) hn1
    have z15 : q_is (q_z f8 sr 3) x1 := Eq.trans (hF.z hsr (by rw [ksr]; rfl)) ex1
    have z16 : q_is (q_z f8 sr 4) x2 := Eq.trans (hF.z hsr (by rw [ksr]; rfl)) ex2
    have z17 : q_ir (q_r f8 x 0) so := Eq.trans (hF.r hx (by rw [kx]; rfl)) hr0
    have z18 : q_ir (q_r f8 x 1) rd := Eq.trans (hF.r hx (by rw [kx]; rfl)) hr1
    have z19 : q_ir (q_r f8 x 2) scr := Eq.trans (hF.r hx (by rw [kx]; rfl)) hr2
    have z20 : q_ir (q_r f8 x 3) fc := Eq.trans (hF.r hx (by rw [kx]; rfl)) hr3
    have z21 : q_ir (q_r f8 x 4) hist := Eq.trans (hF.r hx (by rw [kx]; rfl)) hr4
    have z22 : q_ir (q_r f8 x 5) rep := Eq.trans (hF.r hx (by rw [kx]; rfl)) hr5
    have z23 : q_ir (q_r f8 x 6) now := Eq.trans (hF.r hx (by rw [kx]; rfl)) hr6
    have z24 : q_ir (q_r f8 x 7) dr := Eq.trans (hF.r hx (by rw [kx]; rfl)) hr7
    have z25 : q_ir (q_r f8 x 8) sv := Eq.trans (hF.r hx (by rw [kx]; rfl)) hr8
    have z26 : q_ir (q_r f8 fc 0) tr := Eq.trans (hF.r hfc (by rw [kfc]; rfl)) hr9
    have z27 : q_ir (q_r f8 so 0) ba := Eq.trans (hF.r hso (by rw [kso]; rfl)) hr10
    have z28 : q_ir (q_r f8 dr 0) nds := Eq.trans (hF.r hdr (by rw [kdr]; rfl)) hr11
    have z29 : q_ir (q_r f8 mo 1) bu := Eq.trans (hF.r hmo (by rw [kmo]; rfl)) hr12
    have z30 : q_ir (q_r f8 mo 13) sr := Eq.trans (hF.r hmo (by rw [kmo]; rfl)) hr13
    have z31 : q_ir (q_r f8 mo 14) sd := Eq.trans (hF.r hmo (by rw [kmo]; rfl)) hr14
    have z32 : q_ir (q_r f8 mo 15) as := Eq.trans (hF.r hmo (by rw [kmo]; rfl)) hr15
    have z33 : q_ir (q_r f8 mo 16) aw := Eq.trans (hF.r hmo (by rw [kmo]; rfl)) hr16
    have z34 : q_ir (q_r f8 mo 17) pa := Eq.trans (hF.r hmo (by rw [kmo]; rfl)) hr17
    have z35 : q_ir (q_r f8 mo 18) nm := Eq.trans (hF.r hmo (by rw [kmo]; rfl)) hr18
    have z36 : q_ir (q_r f8 mo 19) snm := Eq.trans (hF.r hmo (by rw [kmo]; rfl)) hr19
    have z37 : q_ir (q_r f8 mo 20) anm := Eq.trans (hF.r hmo (by rw [kmo]; rfl)) hr20
    have z38 : q_ir (q_r f8 mo 24) hp := Eq.trans (hF.r hmo (by rw [kmo]; rfl)) hr21
    have z39 : q_ir (q_r f8 mo 25) dy := Eq.trans (hF.r hmo (by rw [kmo]; rfl)) hr22
    have z40 : q_ir (q_r f8 mo 29) cs := Eq.trans (hF.r hmo (by rw [kmo]; rfl)) hr23
    have z41 : q_ir (q_r f8 mo 30) c1 := Eq.trans (hF.r hmo (by rw [kmo]; rfl)) hr24
    have z42 : q_ir (q_r f8 mo 31) c2 := Eq.trans (hF.r hmo (by rw [kmo]; rfl)) hr25
    have z43 : q_ir (q_r f8 mo 32) c3 := Eq.trans (hF.r hmo (by rw [kmo]; rfl)) hr26
    have z44 : q_ir (q_r f8 mo 33) bg := Eq.trans (hF.r hmo (by rw [kmo]; rfl)) hr27
    have z45 : q_ir (q_r f8 mo 34) lp := Eq.trans (hF.r hmo (by rw [kmo]; rfl)) hr28
    have z46 : q_ir (q_r f8 mo 38) rp := Eq.trans (hF.r hmo (by rw [kmo]; rfl)) hr29
    have g47 : q_gr f8 sr := q_gr_fr hgr (fun i9 _ => hF.z hsr (by rw [ksr]; rfl))
    have g48 : q_pk f8 mo pa := q_pk_tr hpk (hF.z hmo (by rw [kmo]; rfl)) (fun i9 => hF.z hpa (by rw [kpa]; rfl))
    have g49 : q_sv f8 mo sd := q_sv_tr hsd9 (hF.z hmo (by rw [kmo]; rfl)) (fun i9 => hF.z hsd (by rw [ksd]; rfl))
    have g50 : tk_bb f8 bu ba tn := tk_bb_tr hbb (fun i9 => hF.z hbu (by rw [kbu]; rfl)) (fun i9 => hF.z hba (by rw [kba]; rfl))
    have g51 : tk_ij K L f8 nds := tk_ij_tr hij (fun i9 => hF.r hnds (by rw [knds]; rfl))
    subst qy9
    refine lv_istore (lv' := [(7, .int (q_i 0)), (6, .int (q_i 1)), (5, .int (q_i ii)), (4, .ref outD), (3, .ref out), (2, .ref mo), (1, .ref x), (0, .ref b)]) cx.1 cx.2.1 dL_law_319 hl (by decide) rfl (fun ls hl => ?_)
    refine lv_goto (tgt := 1521) cx.1 cx.2.1 dL_law_321 (by decide) ?_
    refine W.widen (k := cells + 6) (n := slots + 36) (by omega) (by omega) ?_
    exact kk f8 H locs ls tn hB ⟨⟨z13, (Eq.trans z11 (by omega)), by omega, by omega⟩, g47, g48, g49, q_isu z15 (by omega), q_isu z16 (by omega), tk_bb_le g50 (by omega)⟩ (lv_sub hl [2, 3, 4, 5, 6, 7] rfl)
  · by_cases c52 : a3 ≤ 600
    · by_cases c53 : (1 * tn + -1 * a3 + 0) ≤ (-1)
      · refine q_cWS (As := [.ref x, .int (q_i a3), .ref out]) (rest := []) cx hX hB (fun q h => hLA q h) (fun q h1 h2 => absurd h1 (Nat.not_le_of_lt h2)) hN (w_truncate_c l g ad hN hB.2.1 hfl x hx kx a3 (by omega) (by omega) out hout kout so hso kso rd hrd krd scr hscr kscr fc hfc kfc hist hhist khist rep hrep krep now hnow know dr hdr kdr sv hsv ksv tr htr ktr tn (by omega) (by omega) hn0 hr0 hr1 hr2 hr3 hr4 hr5 hr6 hr7 hr8 hr9 (by omega)) q_cL_124 q_dL_truncate ⟨by decide, by show cells + 1 ≤ 601024; omega, by show slots + 6 ≤ 7293034; omega⟩ rfl rfl hl.1 rfl (Nat.le_of_ble_eq_true rfl) dL_law_304 (fun v9 H locs f54 h56 hF hB => ?_)
        obtain ⟨y55, rfl, ry55, h56⟩ := h56
        refine W.eq (g2 := F0 m 307 ls [.int (q_i y55)]) rfl ?_
        obtain ⟨rfl, qy55⟩ := h56
        subst qy55
        refine lv_istore (lv' := [(6, .int (q_i 1)), (5, .int (q_i ii)), (4, .ref outD), (3, .ref out), (2, .ref mo), (1, .ref x), (0, .ref b)]) cx.1 cx.2.1 dL_law_307 hl (by decide) rfl (fun ls hl => ?_)
        refine q_ald_n cx dL_law_309 rfl (lv_at hl 4 rfl) ?_
        refine q_ald_n cx dL_law_310 rfl (lv_at hl 6 rfl) ?_
        refine lv_iload cx.1 cx.2.1 dL_law_311 (lv_at hl 1 rfl) ?_
        refine q_iconst cx dL_law_313 ?_
        refine q_iadd cx dL_law_314 ?_
        refine va_sld cx.1 cx.2.1 hXs hbl hbA hB.1.2.2.2 (q_in (by omega) (by omega) (by omega)) dL_law_315 ?_
        rw [ea3]
        refine q_cVi (As := [.int (q_i a3)]) (rest := []) cx hB (fun q h => hLA q h) hN hmo kmo (by decide) rfl (r_truncate_c l g hN hB.2.1 mo hmo kmo a3 (by omega) (by omega) tn (by omega) (by omega) hn1 (by omega)) q_cL_127 q_dX12_truncate ⟨by decide, by show cells + 1 ≤ 601024; omega, by show slots + 6 ≤ 7293034; omega⟩ rfl rfl hl.1 rfl (Nat.le_of_ble_eq_true rfl) dL_law_316 (fun y58 H locs f57 ry58 h59 hF hB => ?_)
        obtain ⟨qy58, z60, z61⟩ := h59
        have z62 : q_is (q_z f57 so 1) tn := Eq.trans (hF.z hso (by rw [kso]; rfl)) hn0
        have z63 : q_is (q_z f57 mo 2) tn := Eq.trans (hF.z hmo (by rw [kmo]; rfl)) hn1
        have z64 : q_is (q_z f57 sr 3) x1 := Eq.trans (hF.z hsr (by rw [ksr]; rfl)) ex1
        have z65 : q_is (q_z f57 sr 4) x2 := Eq.trans (hF.z hsr (by rw [ksr]; rfl)) ex2
        have z66 : q_ir (q_r f57 x 0) so := Eq.trans (hF.r hx (by rw [kx]; rfl)) hr0
        have z67 : q_ir (q_r f57 x 1) rd := Eq.trans (hF.r hx (by rw [kx]; rfl)) hr1
        have z68 : q_ir (q_r f57 x 2) scr := Eq.trans (hF.r hx (by rw [kx]; rfl)) hr2
        have z69 : q_ir (q_r f57 x 3) fc := Eq.trans (hF.r hx (by rw [kx]; rfl)) hr3
        have z70 : q_ir (q_r f57 x 4) hist := Eq.trans (hF.r hx (by rw [kx]; rfl)) hr4
        have z71 : q_ir (q_r f57 x 5) rep := Eq.trans (hF.r hx (by rw [kx]; rfl)) hr5
        have z72 : q_ir (q_r f57 x 6) now := Eq.trans (hF.r hx (by rw [kx]; rfl)) hr6
        have z73 : q_ir (q_r f57 x 7) dr := Eq.trans (hF.r hx (by rw [kx]; rfl)) hr7
        have z74 : q_ir (q_r f57 x 8) sv := Eq.trans (hF.r hx (by rw [kx]; rfl)) hr8
        have z75 : q_ir (q_r f57 fc 0) tr := Eq.trans (hF.r hfc (by rw [kfc]; rfl)) hr9
        have z76 : q_ir (q_r f57 so 0) ba := Eq.trans (hF.r hso (by rw [kso]; rfl)) hr10
        have z77 : q_ir (q_r f57 dr 0) nds := Eq.trans (hF.r hdr (by rw [kdr]; rfl)) hr11
        have z78 : q_ir (q_r f57 mo 1) bu := Eq.trans (hF.r hmo (by rw [kmo]; rfl)) hr12
        have z79 : q_ir (q_r f57 mo 13) sr := Eq.trans (hF.r hmo (by rw [kmo]; rfl)) hr13
        have z80 : q_ir (q_r f57 mo 14) sd := Eq.trans (hF.r hmo (by rw [kmo]; rfl)) hr14
        have z81 : q_ir (q_r f57 mo 15) as := Eq.trans (hF.r hmo (by rw [kmo]; rfl)) hr15
        have z82 : q_ir (q_r f57 mo 16) aw := Eq.trans (hF.r hmo (by rw [kmo]; rfl)) hr16
        have z83 : q_ir (q_r f57 mo 17) pa := Eq.trans (hF.r hmo (by rw [kmo]; rfl)) hr17
        have z84 : q_ir (q_r f57 mo 18) nm := Eq.trans (hF.r hmo (by rw [kmo]; rfl)) hr18
        have z85 : q_ir (q_r f57 mo 19) snm := Eq.trans (hF.r hmo (by rw [kmo]; rfl)) hr19
        have z86 : q_ir (q_r f57 mo 20) anm := Eq.trans (hF.r hmo (by rw [kmo]; rfl)) hr20
        have z87 : q_ir (q_r f57 mo 24) hp := Eq.trans (hF.r hmo (by rw [kmo]; rfl)) hr21
        have z88 : q_ir (q_r f57 mo 25) dy := Eq.trans (hF.r hmo (by rw [kmo]; rfl)) hr22
        have z89 : q_ir (q_r f57 mo 29) cs := Eq.trans (hF.r hmo (by rw [kmo]; rfl)) hr23
        have z90 : q_ir (q_r f57 mo 30) c1 := Eq.trans (hF.r hmo (by rw [kmo]; rfl)) hr24
        have z91 : q_ir (q_r f57 mo 31) c2 := Eq.trans (hF.r hmo (by rw [kmo]; rfl)) hr25
        have z92 : q_ir (q_r f57 mo 32) c3 := Eq.trans (hF.r hmo (by rw [kmo]; rfl)) hr26
        have z93 : q_ir (q_r f57 mo 33) bg := Eq.trans (hF.r hmo (by rw [kmo]; rfl)) hr27
        have z94 : q_ir (q_r f57 mo 34) lp := Eq.trans (hF.r hmo (by rw [kmo]; rfl)) hr28
        have z95 : q_ir (q_r f57 mo 38) rp := Eq.trans (hF.r hmo (by rw [kmo]; rfl)) hr29
        have g96 : q_gr f57 sr := q_gr_fr hgr (fun i9 _ => hF.z hsr (by rw [ksr]; rfl))
        have g97 : q_pk f57 mo pa := q_pk_tr hpk (hF.z hmo (by rw [kmo]; rfl)) (fun i9 => hF.z hpa (by rw [kpa]; rfl))
        have g98 : q_sv f57 mo sd := q_sv_tr hsd9 (hF.z hmo (by rw [kmo]; rfl)) (fun i9 => hF.z hsd (by rw [ksd]; rfl))
        have g99 : tk_bb f57 bu ba tn := tk_bb_tr hbb (fun i9 => hF.z hbu (by rw [kbu]; rfl)) (fun i9 => hF.z hba (by rw [kba]; rfl))
        have g100 : tk_ij K L f57 nds := tk_ij_tr hij (fun i9 => hF.r hnds (by rw [knds]; rfl))
        subst qy58
        refine lv_istore (lv' := [(7, .int (q_i 0)), (6, .int (q_i 1)), (5, .int (q_i ii)), (4, .ref outD), (3, .ref out), (2, .ref mo), (1, .ref x), (0, .ref b)]) cx.1 cx.2.1 dL_law_319 hl (by decide) rfl (fun ls hl => ?_)
        refine lv_goto (tgt := 1521) cx.1 cx.2.1 dL_law_321 (by decide) ?_
        refine W.widen (k := cells + 6) (n := slots + 36) (by omega) (by omega) ?_
        exact kk f57 H locs ls tn hB ⟨⟨z62, (Eq.trans z60 (by omega)), by omega, by omega⟩, g96, g97, g98, q_isu z64 (by omega), q_isu z65 (by omega), tk_bb_le g99 (by omega)⟩ (lv_sub hl [2, 3, 4, 5, 6, 7] rfl)
      · refine q_cWS (As := [.ref x, .int (q_i a3), .ref out]) (rest := []) cx hX hB (fun q h => hLA q h) (fun q h1 h2 => absurd h1 (Nat.not_le_of_lt h2)) hN (w_truncate_b l g ad hN hB.2.1 hfl x hx kx a3 (by omega) (by omega) out hout kout so hso kso rd hrd krd scr hscr kscr fc hfc kfc hist hhist khist rep hrep krep now hnow know dr hdr kdr sv hsv ksv tr htr ktr tn (by omega) (by omega) hn0 hr0 hr1 hr2 hr3 hr4 hr5 hr6 hr7 hr8 hr9 (by omega)) q_cL_124 q_dL_truncate ⟨by decide, by show cells + 0 ≤ 601024; omega, by show slots + 0 ≤ 7293034; omega⟩ rfl rfl hl.1 rfl (Nat.le_of_ble_eq_true rfl) dL_law_304 (fun v9 H locs f101 h103 hF hB => ?_)
        obtain ⟨y102, rfl, ry102, h103⟩ := h103
        refine W.eq (g2 := F0 m 307 ls [.int (q_i y102)]) rfl ?_
        obtain ⟨qy102, z104, z105⟩ := h103
        have z106 : q_is (q_z f101 mo 2) tn := Eq.trans (hF.z hmo (by rw [kmo]; rfl)) hn1
        have z107 : q_is (q_z f101 sr 3) x1 := Eq.trans (hF.z hsr (by rw [ksr]; rfl)) ex1
        have z108 : q_is (q_z f101 sr 4) x2 := Eq.trans (hF.z hsr (by rw [ksr]; rfl)) ex2
        have z109 : q_ir (q_r f101 x 0) so := Eq.trans (hF.r hx (by rw [kx]; rfl)) hr0
        have z110 : q_ir (q_r f101 x 1) rd := Eq.trans (hF.r hx (by rw [kx]; rfl)) hr1
        have z111 : q_ir (q_r f101 x 2) scr := Eq.trans (hF.r hx (by rw [kx]; rfl)) hr2
        have z112 : q_ir (q_r f101 x 3) fc := Eq.trans (hF.r hx (by rw [kx]; rfl)) hr3
        have z113 : q_ir (q_r f101 x 4) hist := Eq.trans (hF.r hx (by rw [kx]; rfl)) hr4
        have z114 : q_ir (q_r f101 x 5) rep := Eq.trans (hF.r hx (by rw [kx]; rfl)) hr5
        have z115 : q_ir (q_r f101 x 6) now := Eq.trans (hF.r hx (by rw [kx]; rfl)) hr6
        have z116 : q_ir (q_r f101 x 7) dr := Eq.trans (hF.r hx (by rw [kx]; rfl)) hr7
        have z117 : q_ir (q_r f101 x 8) sv := Eq.trans (hF.r hx (by rw [kx]; rfl)) hr8
        have z118 : q_ir (q_r f101 fc 0) tr := Eq.trans (hF.r hfc (by rw [kfc]; rfl)) hr9
        have z119 : q_ir (q_r f101 so 0) ba := Eq.trans (hF.r hso (by rw [kso]; rfl)) hr10
        have z120 : q_ir (q_r f101 dr 0) nds := Eq.trans (hF.r hdr (by rw [kdr]; rfl)) hr11
        have z121 : q_ir (q_r f101 mo 1) bu := Eq.trans (hF.r hmo (by rw [kmo]; rfl)) hr12
        have z122 : q_ir (q_r f101 mo 13) sr := Eq.trans (hF.r hmo (by rw [kmo]; rfl)) hr13
        have z123 : q_ir (q_r f101 mo 14) sd := Eq.trans (hF.r hmo (by rw [kmo]; rfl)) hr14
        have z124 : q_ir (q_r f101 mo 15) as := Eq.trans (hF.r hmo (by rw [kmo]; rfl)) hr15
        have z125 : q_ir (q_r f101 mo 16) aw := Eq.trans (hF.r hmo (by rw [kmo]; rfl)) hr16
        have z126 : q_ir (q_r f101 mo 17) pa := Eq.trans (hF.r hmo (by rw [kmo]; rfl)) hr17
        have z127 : q_ir (q_r f101 mo 18) nm := Eq.trans (hF.r hmo (by rw [kmo]; rfl)) hr18
        have z128 : q_ir (q_r f101 mo 19) snm := Eq.trans (hF.r hmo (by rw [kmo]; rfl)) hr19
        have z129 : q_ir (q_r f101 mo 20) anm := Eq.trans (hF.r hmo (by rw [kmo]; rfl)) hr20
        have z130 : q_ir (q_r f101 mo 24) hp := Eq.trans (hF.r hmo (by rw [kmo]; rfl)) hr21
        have z131 : q_ir (q_r f101 mo 25) dy := Eq.trans (hF.r hmo (by rw [kmo]; rfl)) hr22
        have z132 : q_ir (q_r f101 mo 29) cs := Eq.trans (hF.r hmo (by rw [kmo]; rfl)) hr23
        have z133 : q_ir (q_r f101 mo 30) c1 := Eq.trans (hF.r hmo (by rw [kmo]; rfl)) hr24
        have z134 : q_ir (q_r f101 mo 31) c2 := Eq.trans (hF.r hmo (by rw [kmo]; rfl)) hr25
        have z135 : q_ir (q_r f101 mo 32) c3 := Eq.trans (hF.r hmo (by rw [kmo]; rfl)) hr26
        have z136 : q_ir (q_r f101 mo 33) bg := Eq.trans (hF.r hmo (by rw [kmo]; rfl)) hr27
        have z137 : q_ir (q_r f101 mo 34) lp := Eq.trans (hF.r hmo (by rw [kmo]; rfl)) hr28
        have z138 : q_ir (q_r f101 mo 38) rp := Eq.trans (hF.r hmo (by rw [kmo]; rfl)) hr29
        have g139 : q_gr f101 sr := q_gr_fr hgr (fun i9 _ => hF.z hsr (by rw [ksr]; rfl))
        have g140 : q_pk f101 mo pa := q_pk_tr hpk (hF.z hmo (by rw [kmo]; rfl)) (fun i9 => hF.z hpa (by rw [kpa]; rfl))
        have g141 : q_sv f101 mo sd := q_sv_tr hsd9 (hF.z hmo (by rw [kmo]; rfl)) (fun i9 => hF.z hsd (by rw [ksd]; rfl))
        have g142 : tk_bb f101 bu ba tn := tk_bb_tr hbb (fun i9 => hF.z hbu (by rw [kbu]; rfl)) (fun i9 => hF.z hba (by rw [kba]; rfl))
        have g143 : tk_ij K L f101 nds := tk_ij_tr hij (fun i9 => hF.r hnds (by rw [knds]; rfl))
        subst qy102
        refine lv_istore (lv' := [(6, .int (q_i 0)), (5, .int (q_i ii)), (4, .ref outD), (3, .ref out), (2, .ref mo), (1, .ref x), (0, .ref b)]) cx.1 cx.2.1 dL_law_307 hl (by decide) rfl (fun ls hl => ?_)
        refine q_ald_n cx dL_law_309 rfl (lv_at hl 4 rfl) ?_
        refine q_ald_n cx dL_law_310 rfl (lv_at hl 6 rfl) ?_
        refine lv_iload cx.1 cx.2.1 dL_law_311 (lv_at hl 1 rfl) ?_
        refine q_iconst cx dL_law_313 ?_
        refine q_iadd cx dL_law_314 ?_
        refine va_sld cx.1 cx.2.1 hXs hbl hbA hB.1.2.2.2 (q_in (by omega) (by omega) (by omega)) dL_law_315 ?_
        rw [ea3]
        refine q_cVi (As := [.int (q_i a3)]) (rest := []) cx hB (fun q h => hLA q h) hN hmo kmo (by decide) rfl (r_truncate_b l g hN hB.2.1 mo hmo kmo a3 (by omega) (by omega) tn (by omega) (by omega) z106 (by omega)) q_cL_127 q_dX12_truncate ⟨by decide, by show cells + 0 ≤ 601024; omega, by show slots + 0 ≤ 7293034; omega⟩ rfl rfl hl.1 rfl (Nat.le_of_ble_eq_true rfl) dL_law_316 (fun y145 H locs f144 ry145 h146 hF hB => ?_)
        obtain ⟨qy145, z147, z148⟩ := h146
        have z149 : q_j f144 out 0 = (q_l a3) := (hF.j hout (by rw [kout]; rfl)).trans z104
        have z150 : q_is (q_z f144 sr 3) x1 := Eq.trans (hF.z hsr (by rw [ksr]; rfl)) z107
        have z151 : q_is (q_z f144 sr 4) x2 := Eq.trans (hF.z hsr (by rw [ksr]; rfl)) z108
        have z152 : q_is (q_z f144 so 1) a3 := Eq.trans (hF.z hso (by rw [kso]; rfl)) z105
        have z153 : q_ir (q_r f144 x 0) so := Eq.trans (hF.r hx (by rw [kx]; rfl)) z109
        have z154 : q_ir (q_r f144 x 1) rd := Eq.trans (hF.r hx (by rw [kx]; rfl)) z110
        have z155 : q_ir (q_r f144 x 2) scr := Eq.trans (hF.r hx (by rw [kx]; rfl)) z111
        have z156 : q_ir (q_r f144 x 3) fc := Eq.trans (hF.r hx (by rw [kx]; rfl)) z112
        have z157 : q_ir (q_r f144 x 4) hist := Eq.trans (hF.r hx (by rw [kx]; rfl)) z113
        have z158 : q_ir (q_r f144 x 5) rep := Eq.trans (hF.r hx (by rw [kx]; rfl)) z114
        have z159 : q_ir (q_r f144 x 6) now := Eq.trans (hF.r hx (by rw [kx]; rfl)) z115
        have z160 : q_ir (q_r f144 x 7) dr := Eq.trans (hF.r hx (by rw [kx]; rfl)) z116
        have z161 : q_ir (q_r f144 x 8) sv := Eq.trans (hF.r hx (by rw [kx]; rfl)) z117
        have z162 : q_ir (q_r f144 fc 0) tr := Eq.trans (hF.r hfc (by rw [kfc]; rfl)) z118
        have z163 : q_ir (q_r f144 so 0) ba := Eq.trans (hF.r hso (by rw [kso]; rfl)) z119
        have z164 : q_ir (q_r f144 dr 0) nds := Eq.trans (hF.r hdr (by rw [kdr]; rfl)) z120
        have z165 : q_ir (q_r f144 mo 1) bu := Eq.trans (hF.r hmo (by rw [kmo]; rfl)) z121
        have z166 : q_ir (q_r f144 mo 13) sr := Eq.trans (hF.r hmo (by rw [kmo]; rfl)) z122
        have z167 : q_ir (q_r f144 mo 14) sd := Eq.trans (hF.r hmo (by rw [kmo]; rfl)) z123
        have z168 : q_ir (q_r f144 mo 15) as := Eq.trans (hF.r hmo (by rw [kmo]; rfl)) z124
        have z169 : q_ir (q_r f144 mo 16) aw := Eq.trans (hF.r hmo (by rw [kmo]; rfl)) z125
        have z170 : q_ir (q_r f144 mo 17) pa := Eq.trans (hF.r hmo (by rw [kmo]; rfl)) z126
        have z171 : q_ir (q_r f144 mo 18) nm := Eq.trans (hF.r hmo (by rw [kmo]; rfl)) z127
        have z172 : q_ir (q_r f144 mo 19) snm := Eq.trans (hF.r hmo (by rw [kmo]; rfl)) z128
        have z173 : q_ir (q_r f144 mo 20) anm := Eq.trans (hF.r hmo (by rw [kmo]; rfl)) z129
        have z174 : q_ir (q_r f144 mo 24) hp := Eq.trans (hF.r hmo (by rw [kmo]; rfl)) z130
        have z175 : q_ir (q_r f144 mo 25) dy := Eq.trans (hF.r hmo (by rw [kmo]; rfl)) z131
        have z176 : q_ir (q_r f144 mo 29) cs := Eq.trans (hF.r hmo (by rw [kmo]; rfl)) z132
        have z177 : q_ir (q_r f144 mo 30) c1 := Eq.trans (hF.r hmo (by rw [kmo]; rfl)) z133
        have z178 : q_ir (q_r f144 mo 31) c2 := Eq.trans (hF.r hmo (by rw [kmo]; rfl)) z134
        have z179 : q_ir (q_r f144 mo 32) c3 := Eq.trans (hF.r hmo (by rw [kmo]; rfl)) z135
        have z180 : q_ir (q_r f144 mo 33) bg := Eq.trans (hF.r hmo (by rw [kmo]; rfl)) z136
        have z181 : q_ir (q_r f144 mo 34) lp := Eq.trans (hF.r hmo (by rw [kmo]; rfl)) z137
        have z182 : q_ir (q_r f144 mo 38) rp := Eq.trans (hF.r hmo (by rw [kmo]; rfl)) z138
        have g183 : q_gr f144 sr := q_gr_fr g139 (fun i9 _ => hF.z hsr (by rw [ksr]; rfl))
        have g184 : q_pk f144 mo pa := q_pk_tr g140 (hF.z hmo (by rw [kmo]; rfl)) (fun i9 => hF.z hpa (by rw [kpa]; rfl))
        have g185 : q_sv f144 mo sd := q_sv_tr g141 (hF.z hmo (by rw [kmo]; rfl)) (fun i9 => hF.z hsd (by rw [ksd]; rfl))
        have g186 : tk_bb f144 bu ba tn := tk_bb_tr g142 (fun i9 => hF.z hbu (by rw [kbu]; rfl)) (fun i9 => hF.z hba (by rw [kba]; rfl))
        have g187 : tk_ij K L f144 nds := tk_ij_tr g143 (fun i9 => hF.r hnds (by rw [knds]; rfl))
        refine lv_istore (lv' := [(7, .int (q_i y145)), (6, .int (q_i 0)), (5, .int (q_i ii)), (4, .ref outD), (3, .ref out), (2, .ref mo), (1, .ref x), (0, .ref b)]) cx.1 cx.2.1 dL_law_319 hl (by decide) rfl (fun ls hl => ?_)
        refine lv_goto (tgt := 1521) cx.1 cx.2.1 dL_law_321 (by decide) ?_
        refine W.widen (k := cells + 6) (n := slots + 36) (by omega) (by omega) ?_
        exact kk f144 H locs ls a3 hB ⟨⟨z152, (Eq.trans z147 (by omega)), by omega, by omega⟩, g183, g184, g185, q_isu z150 (by omega), q_isu z151 (by omega), tk_bb_le g186 (by omega)⟩ (lv_sub hl [2, 3, 4, 5, 6, 7] rfl)
    · refine q_cWS (As := [.ref x, .int (q_i a3), .ref out]) (rest := []) cx hX hB (fun q h => hLA q h) (fun q h1 h2 => absurd h1 (Nat.not_le_of_lt h2)) hN (w_truncate_c l g ad hN hB.2.1 hfl x hx kx a3 (by omega) (by omega) out hout kout so hso kso rd hrd krd scr hscr kscr fc hfc kfc hist hhist khist rep hrep krep now hnow know dr hdr kdr sv hsv ksv tr htr ktr tn (by omega) (by omega) hn0 hr0 hr1 hr2 hr3 hr4 hr5 hr6 hr7 hr8 hr9 (by omega)) q_cL_124 q_dL_truncate ⟨by decide, by show cells + 1 ≤ 601024; omega, by show slots + 6 ≤ 7293034; omega⟩ rfl rfl hl.1 rfl (Nat.le_of_ble_eq_true rfl) dL_law_304 (fun v9 H locs f188 h190 hF hB => ?_)
      obtain ⟨y189, rfl, ry189, h190⟩ := h190
      refine W.eq (g2 := F0 m 307 ls [.int (q_i y189)]) rfl ?_
      obtain ⟨rfl, qy189⟩ := h190
      subst qy189
      refine lv_istore (lv' := [(6, .int (q_i 1)), (5, .int (q_i ii)), (4, .ref outD), (3, .ref out), (2, .ref mo), (1, .ref x), (0, .ref b)]) cx.1 cx.2.1 dL_law_307 hl (by decide) rfl (fun ls hl => ?_)
      refine q_ald_n cx dL_law_309 rfl (lv_at hl 4 rfl) ?_
      refine q_ald_n cx dL_law_310 rfl (lv_at hl 6 rfl) ?_
      refine lv_iload cx.1 cx.2.1 dL_law_311 (lv_at hl 1 rfl) ?_
      refine q_iconst cx dL_law_313 ?_
      refine q_iadd cx dL_law_314 ?_
      refine va_sld cx.1 cx.2.1 hXs hbl hbA hB.1.2.2.2 (q_in (by omega) (by omega) (by omega)) dL_law_315 ?_
      rw [ea3]
      refine q_cVi (As := [.int (q_i a3)]) (rest := []) cx hB (fun q h => hLA q h) hN hmo kmo (by decide) rfl (r_truncate_c l g hN hB.2.1 mo hmo kmo a3 (by omega) (by omega) tn (by omega) (by omega) hn1 (by omega)) q_cL_127 q_dX12_truncate ⟨by decide, by show cells + 1 ≤ 601024; omega, by show slots + 6 ≤ 7293034; omega⟩ rfl rfl hl.1 rfl (Nat.le_of_ble_eq_true rfl) dL_law_316 (fun y192 H locs f191 ry192 h193 hF hB => ?_)
      obtain ⟨qy192, z194, z195⟩ := h193
      have z196 : q_is (q_z f191 so 1) tn := Eq.trans (hF.z hso (by rw [kso]; rfl)) hn0
      have z197 : q_is (q_z f191 mo 2) tn := Eq.trans (hF.z hmo (by rw [kmo]; rfl)) hn1
      have z198 : q_is (q_z f191 sr 3) x1 := Eq.trans (hF.z hsr (by rw [ksr]; rfl)) ex1
      have z199 : q_is (q_z f191 sr 4) x2 := Eq.trans (hF.z hsr (by rw [ksr]; rfl)) ex2
      have z200 : q_ir (q_r f191 x 0) so := Eq.trans (hF.r hx (by rw [kx]; rfl)) hr0
      have z201 : q_ir (q_r f191 x 1) rd := Eq.trans (hF.r hx (by rw [kx]; rfl)) hr1
      have z202 : q_ir (q_r f191 x 2) scr := Eq.trans (hF.r hx (by rw [kx]; rfl)) hr2
      have z203 : q_ir (q_r f191 x 3) fc := Eq.trans (hF.r hx (by rw [kx]; rfl)) hr3
      have z204 : q_ir (q_r f191 x 4) hist := Eq.trans (hF.r hx (by rw [kx]; rfl)) hr4
      have z205 : q_ir (q_r f191 x 5) rep := Eq.trans (hF.r hx (by rw [kx]; rfl)) hr5
      have z206 : q_ir (q_r f191 x 6) now := Eq.trans (hF.r hx (by rw [kx]; rfl)) hr6
      have z207 : q_ir (q_r f191 x 7) dr := Eq.trans (hF.r hx (by rw [kx]; rfl)) hr7
      have z208 : q_ir (q_r f191 x 8) sv := Eq.trans (hF.r hx (by rw [kx]; rfl)) hr8
      have z209 : q_ir (q_r f191 fc 0) tr := Eq.trans (hF.r hfc (by rw [kfc]; rfl)) hr9
      have z210 : q_ir (q_r f191 so 0) ba := Eq.trans (hF.r hso (by rw [kso]; rfl)) hr10
      have z211 : q_ir (q_r f191 dr 0) nds := Eq.trans (hF.r hdr (by rw [kdr]; rfl)) hr11
      have z212 : q_ir (q_r f191 mo 1) bu := Eq.trans (hF.r hmo (by rw [kmo]; rfl)) hr12
      have z213 : q_ir (q_r f191 mo 13) sr := Eq.trans (hF.r hmo (by rw [kmo]; rfl)) hr13
      have z214 : q_ir (q_r f191 mo 14) sd := Eq.trans (hF.r hmo (by rw [kmo]; rfl)) hr14
      have z215 : q_ir (q_r f191 mo 15) as := Eq.trans (hF.r hmo (by rw [kmo]; rfl)) hr15
      have z216 : q_ir (q_r f191 mo 16) aw := Eq.trans (hF.r hmo (by rw [kmo]; rfl)) hr16
      have z217 : q_ir (q_r f191 mo 17) pa := Eq.trans (hF.r hmo (by rw [kmo]; rfl)) hr17
      have z218 : q_ir (q_r f191 mo 18) nm := Eq.trans (hF.r hmo (by rw [kmo]; rfl)) hr18
      have z219 : q_ir (q_r f191 mo 19) snm := Eq.trans (hF.r hmo (by rw [kmo]; rfl)) hr19
      have z220 : q_ir (q_r f191 mo 20) anm := Eq.trans (hF.r hmo (by rw [kmo]; rfl)) hr20
      have z221 : q_ir (q_r f191 mo 24) hp := Eq.trans (hF.r hmo (by rw [kmo]; rfl)) hr21
      have z222 : q_ir (q_r f191 mo 25) dy := Eq.trans (hF.r hmo (by rw [kmo]; rfl)) hr22
      have z223 : q_ir (q_r f191 mo 29) cs := Eq.trans (hF.r hmo (by rw [kmo]; rfl)) hr23
      have z224 : q_ir (q_r f191 mo 30) c1 := Eq.trans (hF.r hmo (by rw [kmo]; rfl)) hr24
      have z225 : q_ir (q_r f191 mo 31) c2 := Eq.trans (hF.r hmo (by rw [kmo]; rfl)) hr25
      have z226 : q_ir (q_r f191 mo 32) c3 := Eq.trans (hF.r hmo (by rw [kmo]; rfl)) hr26
      have z227 : q_ir (q_r f191 mo 33) bg := Eq.trans (hF.r hmo (by rw [kmo]; rfl)) hr27
      have z228 : q_ir (q_r f191 mo 34) lp := Eq.trans (hF.r hmo (by rw [kmo]; rfl)) hr28
      have z229 : q_ir (q_r f191 mo 38) rp := Eq.trans (hF.r hmo (by rw [kmo]; rfl)) hr29
      have g230 : q_gr f191 sr := q_gr_fr hgr (fun i9 _ => hF.z hsr (by rw [ksr]; rfl))
      have g231 : q_pk f191 mo pa := q_pk_tr hpk (hF.z hmo (by rw [kmo]; rfl)) (fun i9 => hF.z hpa (by rw [kpa]; rfl))
      have g232 : q_sv f191 mo sd := q_sv_tr hsd9 (hF.z hmo (by rw [kmo]; rfl)) (fun i9 => hF.z hsd (by rw [ksd]; rfl))
      have g233 : tk_bb f191 bu ba tn := tk_bb_tr hbb (fun i9 => hF.z hbu (by rw [kbu]; rfl)) (fun i9 => hF.z hba (by rw [kba]; rfl))
      have g234 : tk_ij K L f191 nds := tk_ij_tr hij (fun i9 => hF.r hnds (by rw [knds]; rfl))
      subst qy192
      refine lv_istore (lv' := [(7, .int (q_i 0)), (6, .int (q_i 1)), (5, .int (q_i ii)), (4, .ref outD), (3, .ref out), (2, .ref mo), (1, .ref x), (0, .ref b)]) cx.1 cx.2.1 dL_law_319 hl (by decide) rfl (fun ls hl => ?_)
      refine lv_goto (tgt := 1521) cx.1 cx.2.1 dL_law_321 (by decide) ?_
      refine W.widen (k := cells + 6) (n := slots + 36) (by omega) (by omega) ?_
      exact kk f191 H locs ls tn hB ⟨⟨z196, (Eq.trans z194 (by omega)), by omega, by omega⟩, g230, g231, g232, q_isu z198 (by omega), q_isu z199 (by omega), tk_bb_le g233 (by omega)⟩ (lv_sub hl [2, 3, 4, 5, 6, 7] rfl)
