set_option maxHeartbeats 4000000 in
set_option maxRecDepth 100000 in
theorem law_c220 {p : Program} {l : Launch} {e : Env} {s : State} {m : MethodId} {below : List Frame} {meth : Method} {c : Code} {b N9 : Nat} {xs : Nat → Int32} (hfl : l.stackTraces = false) (hN9 : N9 ≤ 3072) (C0 : lw_At p s m meth c b N9 xs) (cx : CallFix p m c cL_law 10 s #[Value.ref b] q_al RL) {g : q_G} {ad : Nat → Nat} {K : Nat → Nat} {L : List Nat} (hN : L.Nodup) (hLA : ∀ q, q ∈ L → s.heap.size ≤ q) (hX : q_X ad (fun q => q ∈ L) s) {f0 : Nat → va_E} {x : Nat} (hx : x ∈ L) (kx : K x = 11) {src : Nat} (hsrc : src ∈ L) (ksrc : K src = 8) {rdr : Nat} (hrdr : rdr ∈ L) (krdr : K rdr = 9) {scr : Nat} (hscr : scr ∈ L) (kscr : K scr = 7) {fc : Nat} (hfc : fc ∈ L) (kfc : K fc = 1) {hist : Nat} (hhist : hist ∈ L) (khist : K hist = 2) {rep : Nat} (hrep : rep ∈ L) (krep : K rep = 6) {now : Nat} (hnow : now ∈ L) (know : K now = 10) {dr : Nat} (hdr : dr ∈ L) (kdr : K dr = 13) {sv : Nat} (hsv : sv ∈ L) (ksv : K sv = 14) {tr : Nat} (htr : tr ∈ L) (ktr : K tr = 15) {mo : Nat} (hmo : mo ∈ L) (kmo : K mo = 12) {bu : Nat} (hbu : bu ∈ L) (kbu : K bu = 150) {sr : Nat} (hsr : sr ∈ L) (ksr : K sr = 151) {sd : Nat} (hsd : sd ∈ L) (ksd : K sd = 152) {as : Nat} (has : as ∈ L) (kas : K as = 153) {aw : Nat} (haw : aw ∈ L) (kaw : K aw = 154) {pa : Nat} (hpa : pa ∈ L) (kpa : K pa = 155) {nm : Nat} (hnm : nm ∈ L) (knm : K nm = 156) {snm : Nat} (hsnm : snm ∈ L) (ksnm : K snm = 157) {anm : Nat} (hanm : anm ∈ L) (kanm : K anm = 158) {hp : Nat} (hhp : hp ∈ L) (khp : K hp = 159) {dy : Nat} (hdy : dy ∈ L) (kdy : K dy = 160) {cs : Nat} (hcs : cs ∈ L) (kcs : K cs = 161) {c1 : Nat} (hc1 : c1 ∈ L) (kc1 : K c1 = 162) {c2 : Nat} (hc2 : c2 ∈ L) (kc2 : K c2 = 163) {c3 : Nat} (hc3 : c3 ∈ L) (kc3 : K c3 = 164) {bg : Nat} (hbg : bg ∈ L) (kbg : K bg = 165) {lp : Nat} (hlp : lp ∈ L) (klp : K lp = 166) {rp : Nat} (hrp : rp ∈ L) (krp : K rp = 167) {out : Nat} (hout : out ∈ L) (kout : K out = 168) {outD : Nat} (houtD : outD ∈ L) (koutD : K outD = 169) (hr0 : q_ir (q_r f0 x 0) src) (hr1 : q_ir (q_r f0 x 1) rdr) (hr2 : q_ir (q_r f0 x 2) scr) (hr3 : q_ir (q_r f0 x 3) fc) (hr4 : q_ir (q_r f0 x 4) hist) (hr5 : q_ir (q_r f0 x 5) rep) (hr6 : q_ir (q_r f0 x 6) now) (hr7 : q_ir (q_r f0 x 7) dr) (hr8 : q_ir (q_r f0 x 8) sv) (hr9 : q_ir (q_r f0 fc 0) tr) (hr10 : q_ir (q_r f0 mo 1) bu) (hr11 : q_ir (q_r f0 mo 13) sr) (hr12 : q_ir (q_r f0 mo 14) sd) (hr13 : q_ir (q_r f0 mo 15) as) (hr14 : q_ir (q_r f0 mo 16) aw) (hr15 : q_ir (q_r f0 mo 17) pa) (hr16 : q_ir (q_r f0 mo 18) nm) (hr17 : q_ir (q_r f0 mo 19) snm) (hr18 : q_ir (q_r f0 mo 20) anm) (hr19 : q_ir (q_r f0 mo 24) hp) (hr20 : q_ir (q_r f0 mo 25) dy) (hr21 : q_ir (q_r f0 mo 29) cs) (hr22 : q_ir (q_r f0 mo 30) c1) (hr23 : q_ir (q_r f0 mo 31) c2) (hr24 : q_ir (q_r f0 mo 32) c3) (hr25 : q_ir (q_r f0 mo 33) bg) (hr26 : q_ir (q_r f0 mo 34) lp) (hr27 : q_ir (q_r f0 mo 38) rp) {f : Nat → va_E} {H : Heap} {locs : List Loc} {ls : Array Slot} {cells slots : Nat} {ii xn : Int} (hB : q_B g K L (fun q => s.heap.size ≤ q) [(0, 0, 6), (2, 1, 2), (3, 0, 4), (4, 0, 7), (5, 0, 9), (6, 1, 1), (7, 1, 4), (8, 1, 9), (9, 0, 2), (10, 3, 15), (11, 9, 9), (12, 0, 0), (12, 2, 12), (12, 21, 23), (12, 26, 28), (12, 35, 37), (12, 39, 40), (13, 3, 15), (14, 3, 15), (15, 3, 15), (16, 3, 15), (17, 0, 9), (18, 0, 9), (19, 0, 9), (20, 0, 9), (21, 0, 4), (22, 0, 4), (23, 0, 4), (24, 0, 4), (25, 0, 7), (26, 0, 7), (27, 0, 7), (28, 0, 7), (142, 0, 599), (143, 0, 599), (150, 0, 599), (151, 0, 657), (152, 0, 657), (153, 0, 657), (154, 0, 657), (155, 0, 3947), (156, 0, 9), (157, 0, 9), (158, 0, 9), (159, 0, 9), (160, 0, 9), (161, 0, 59), (162, 0, 58), (163, 0, 58), (164, 0, 58), (165, 0, 1), (166, 0, 1), (167, 0, 479), (168, 0, 0), (169, 0, 0)] f0 f s H locs) (hI : q_Inv f src mo sr pa sd xn) (hl : lv_has ls 10 [(5, .int (q_i ii)), (4, .ref outD), (3, .ref out), (2, .ref mo), (1, .ref x), (0, .ref b)]) (hi0 : 0 ≤ ii) (hi6 : ii + 6 ≤ N9) (hce : cells + 6 ≤ 10000) (hse : slots + 36 ≤ 100000) (kk : ∀ (f1 : Nat → va_E) (H1 : Heap) (locs1 : List Loc) (ls1 : Array Slot) (xn1 : Int), q_B g K L (fun q => s.heap.size ≤ q) [(0, 0, 6), (2, 1, 2), (3, 0, 4), (4, 0, 7), (5, 0, 9), (6, 1, 1), (7, 1, 4), (8, 1, 9), (9, 0, 2), (10, 3, 15), (11, 9, 9), (12, 0, 0), (12, 2, 12), (12, 21, 23), (12, 26, 28), (12, 35, 37), (12, 39, 40), (13, 3, 15), (14, 3, 15), (15, 3, 15), (16, 3, 15), (17, 0, 9), (18, 0, 9), (19, 0, 9), (20, 0, 9), (21, 0, 4), (22, 0, 4), (23, 0, 4), (24, 0, 4), (25, 0, 7), (26, 0, 7), (27, 0, 7), (28, 0, 7), (142, 0, 599), (143, 0, 599), (150, 0, 599), (151, 0, 657), (152, 0, 657), (153, 0, 657), (154, 0, 657), (155, 0, 3947), (156, 0, 9), (157, 0, 9), (158, 0, 9), (159, 0, 9), (160, 0, 9), (161, 0, 59), (162, 0, 58), (163, 0, 58), (164, 0, 58), (165, 0, 1), (166, 0, 1), (167, 0, 479), (168, 0, 0), (169, 0, 0)] f0 f1 s H1 locs1 → q_Inv f1 src mo sr pa sd xn1 → lv_has ls1 10 [(5, .int (q_i ii)), (4, .ref outD), (3, .ref out), (2, .ref mo), (1, .ref x), (0, .ref b)] → W p l e room_1 s m #[Value.ref b] below meth c H1 locs1 (cells + 6) (slots + 36) (lw_Z below #[Value.ref b] s) (F0 m 1521 ls1 [])) : W p l e room_1 s m #[Value.ref b] below meth c H locs (cells) (slots) (lw_Z below #[Value.ref b] s) (F0 m 220 ls []) := by
  have hXs := C0.2.2.2.2.2.2.1
  have hbl := C0.2.2.2.2.2.2.2.1
  have hbA := q_bA hbl
  obtain ⟨⟨hn0, hn1, lxn, uxn⟩, hgr, hpk, hsd9, ht3, ht4⟩ := hI
  have hr0 : q_ir (q_r f x 0) src := Eq.trans (hB.2.2.r hx (by rw [kx]; rfl)) hr0
  have hr1 : q_ir (q_r f x 1) rdr := Eq.trans (hB.2.2.r hx (by rw [kx]; rfl)) hr1
  have hr2 : q_ir (q_r f x 2) scr := Eq.trans (hB.2.2.r hx (by rw [kx]; rfl)) hr2
  have hr3 : q_ir (q_r f x 3) fc := Eq.trans (hB.2.2.r hx (by rw [kx]; rfl)) hr3
  have hr4 : q_ir (q_r f x 4) hist := Eq.trans (hB.2.2.r hx (by rw [kx]; rfl)) hr4
  have hr5 : q_ir (q_r f x 5) rep := Eq.trans (hB.2.2.r hx (by rw [kx]; rfl)) hr5
  have hr6 : q_ir (q_r f x 6) now := Eq.trans (hB.2.2.r hx (by rw [kx]; rfl)) hr6
  have hr7 : q_ir (q_r f x 7) dr := Eq.trans (hB.2.2.r hx (by rw [kx]; rfl)) hr7
  have hr8 : q_ir (q_r f x 8) sv := Eq.trans (hB.2.2.r hx (by rw [kx]; rfl)) hr8
  have hr9 : q_ir (q_r f fc 0) tr := Eq.trans (hB.2.2.r hfc (by rw [kfc]; rfl)) hr9
  have hr10 : q_ir (q_r f mo 1) bu := Eq.trans (hB.2.2.r hmo (by rw [kmo]; rfl)) hr10
  have hr11 : q_ir (q_r f mo 13) sr := Eq.trans (hB.2.2.r hmo (by rw [kmo]; rfl)) hr11
  have hr12 : q_ir (q_r f mo 14) sd := Eq.trans (hB.2.2.r hmo (by rw [kmo]; rfl)) hr12
  have hr13 : q_ir (q_r f mo 15) as := Eq.trans (hB.2.2.r hmo (by rw [kmo]; rfl)) hr13
  have hr14 : q_ir (q_r f mo 16) aw := Eq.trans (hB.2.2.r hmo (by rw [kmo]; rfl)) hr14
  have hr15 : q_ir (q_r f mo 17) pa := Eq.trans (hB.2.2.r hmo (by rw [kmo]; rfl)) hr15
  have hr16 : q_ir (q_r f mo 18) nm := Eq.trans (hB.2.2.r hmo (by rw [kmo]; rfl)) hr16
  have hr17 : q_ir (q_r f mo 19) snm := Eq.trans (hB.2.2.r hmo (by rw [kmo]; rfl)) hr17
  have hr18 : q_ir (q_r f mo 20) anm := Eq.trans (hB.2.2.r hmo (by rw [kmo]; rfl)) hr18
  have hr19 : q_ir (q_r f mo 24) hp := Eq.trans (hB.2.2.r hmo (by rw [kmo]; rfl)) hr19
  have hr20 : q_ir (q_r f mo 25) dy := Eq.trans (hB.2.2.r hmo (by rw [kmo]; rfl)) hr20
  have hr21 : q_ir (q_r f mo 29) cs := Eq.trans (hB.2.2.r hmo (by rw [kmo]; rfl)) hr21
  have hr22 : q_ir (q_r f mo 30) c1 := Eq.trans (hB.2.2.r hmo (by rw [kmo]; rfl)) hr22
  have hr23 : q_ir (q_r f mo 31) c2 := Eq.trans (hB.2.2.r hmo (by rw [kmo]; rfl)) hr23
  have hr24 : q_ir (q_r f mo 32) c3 := Eq.trans (hB.2.2.r hmo (by rw [kmo]; rfl)) hr24
  have hr25 : q_ir (q_r f mo 33) bg := Eq.trans (hB.2.2.r hmo (by rw [kmo]; rfl)) hr25
  have hr26 : q_ir (q_r f mo 34) lp := Eq.trans (hB.2.2.r hmo (by rw [kmo]; rfl)) hr26
  have hr27 : q_ir (q_r f mo 38) rp := Eq.trans (hB.2.2.r hmo (by rw [kmo]; rfl)) hr27
  obtain ⟨x1, ex1⟩ : ∃ zz, q_is (q_z f sr 3) zz := ⟨_, q_isr _⟩
  obtain ⟨lx1, ux1⟩ : 0 ≤ x1 ∧ x1 ≤ 9999 := q_isb ex1 ⟨(hgr 3 (by decide)).1, ht3⟩
  obtain ⟨x2, ex2⟩ : ∃ zz, q_is (q_z f sr 4) zz := ⟨_, q_isr _⟩
  obtain ⟨lx2, ux2⟩ : 0 ≤ x2 ∧ x2 ≤ 60 := q_isb ex2 ⟨(hgr 4 (by decide)).1, ht4⟩
  refine q_ald_n cx dL_law_220 rfl (lv_at hl 4 rfl) ?_
  refine q_ald_n cx dL_law_221 rfl (lv_at hl 5 rfl) ?_
  refine lv_iload cx.1 cx.2.1 dL_law_222 (lv_at hl 0 rfl) ?_
  refine q_iconst cx dL_law_224 ?_
  refine q_iadd cx dL_law_225 ?_
  refine va_sld cx.1 cx.2.1 hXs hbl hbA hB.1.2.2.2 (q_in (by omega) (by omega) (by omega)) dL_law_226 ?_
  obtain ⟨a3, ra3, ea3⟩ : ∃ z : Int, q_R z ∧ xs (q_i (ii + 1)).toNatClampNeg = q_i z := ⟨_, q_rng _, (q_of _).symm⟩
  rw [ea3]
  refine q_ald_n cx dL_law_227 rfl (lv_at hl 5 rfl) ?_
  refine lv_iload cx.1 cx.2.1 dL_law_228 (lv_at hl 0 rfl) ?_
  refine q_iconst cx dL_law_230 ?_
  refine q_iadd cx dL_law_231 ?_
  refine va_sld cx.1 cx.2.1 hXs hbl hbA hB.1.2.2.2 (q_in (by omega) (by omega) (by omega)) dL_law_232 ?_
  obtain ⟨a4, ra4, ea4⟩ : ∃ z : Int, q_R z ∧ xs (q_i (ii + 2)).toNatClampNeg = q_i z := ⟨_, q_rng _, (q_of _).symm⟩
  rw [ea4]
  refine q_ald_n cx dL_law_233 rfl (lv_at hl 5 rfl) ?_
  refine lv_iload cx.1 cx.2.1 dL_law_234 (lv_at hl 0 rfl) ?_
  refine q_iconst cx dL_law_236 ?_
  refine q_iadd cx dL_law_237 ?_
  refine va_sld cx.1 cx.2.1 hXs hbl hbA hB.1.2.2.2 (q_in (by omega) (by omega) (by omega)) dL_law_238 ?_
  obtain ⟨a5, ra5, ea5⟩ : ∃ z : Int, q_R z ∧ xs (q_i (ii + 3)).toNatClampNeg = q_i z := ⟨_, q_rng _, (q_of _).symm⟩
  rw [ea5]
  refine q_ald_n cx dL_law_239 rfl (lv_at hl 5 rfl) ?_
  refine lv_iload cx.1 cx.2.1 dL_law_240 (lv_at hl 0 rfl) ?_
  refine q_iconst cx dL_law_242 ?_
  refine q_iadd cx dL_law_243 ?_
  refine va_sld cx.1 cx.2.1 hXs hbl hbA hB.1.2.2.2 (q_in (by omega) (by omega) (by omega)) dL_law_244 ?_
  obtain ⟨a6, ra6, ea6⟩ : ∃ z : Int, q_R z ∧ xs (q_i (ii + 4)).toNatClampNeg = q_i z := ⟨_, q_rng _, (q_of _).symm⟩
  rw [ea6]
  refine q_ald_n cx dL_law_245 rfl (lv_at hl 5 rfl) ?_
  refine lv_iload cx.1 cx.2.1 dL_law_246 (lv_at hl 0 rfl) ?_
  refine q_iconst cx dL_law_248 ?_
  refine q_iadd cx dL_law_249 ?_
  refine va_sld cx.1 cx.2.1 hXs hbl hbA hB.1.2.2.2 (q_in (by omega) (by omega) (by omega)) dL_law_250 ?_
  obtain ⟨a7, ra7, ea7⟩ : ∃ z : Int, q_R z ∧ xs (q_i (ii + 5)).toNatClampNeg = q_i z := ⟨_, q_rng _, (q_of _).symm⟩
  rw [ea7]
  refine q_ald_n cx dL_law_251 rfl (lv_at hl 2 rfl) ?_
  by_cases c8 : xn ≤ 580
  · refine q_cWS (As := [.ref x, .int (q_i a3), .int (q_i a4), .int (q_i a5), .int (q_i a6), .int (q_i a7), .ref out]) (rest := []) cx hX hB (fun q h => hLA q h) (fun q h1 h2 => absurd h1 (Nat.not_le_of_lt h2)) hN (w_feed_a l g ad hN hB.2.1 hfl x hx kx a3 (by omega) (by omega) a4 (by omega) (by omega) a5 (by omega) (by omega) a6 (by omega) (by omega) a7 (by omega) (by omega) out hout kout src hsrc ksrc rdr hrdr krdr scr hscr kscr fc hfc kfc hist hhist khist rep hrep krep now hnow know dr hdr kdr sv hsv ksv tr htr ktr xn (by omega) (by omega) hn0 hr0 hr1 hr2 hr3 hr4 hr5 hr6 hr7 hr8 hr9) q_cL_118 q_dL_feed ⟨by decide, by show cells + 0 ≤ 601024; omega, by show slots + 0 ≤ 7293034; omega⟩ rfl rfl hl.1 rfl (Nat.le_of_ble_eq_true rfl) dL_law_252 (fun v9 H locs f9 h11 hF hB => ?_)
    obtain ⟨y10, rfl, ry10, h11⟩ := h11
    refine W.eq (g2 := F0 m 255 ls [.int (q_i y10)]) rfl ?_
    obtain ⟨qy10, z12, z13⟩ := h11
    have z14 : q_is (q_z f9 mo 2) xn := Eq.trans (hF.z hmo (by rw [kmo]; rfl)) hn1
    have z15 : q_is (q_z f9 sr 3) x1 := Eq.trans (hF.z hsr (by rw [ksr]; rfl)) ex1
    have z16 : q_is (q_z f9 sr 4) x2 := Eq.trans (hF.z hsr (by rw [ksr]; rfl)) ex2
    have z17 : q_ir (q_r f9 x 0) src := Eq.trans (hF.r hx (by rw [kx]; rfl)) hr0
    have z18 : q_ir (q_r f9 x 1) rdr := Eq.trans (hF.r hx (by rw [kx]; rfl)) hr1
    have z19 : q_ir (q_r f9 x 2) scr := Eq.trans (hF.r hx (by rw [kx]; rfl)) hr2
    have z20 : q_ir (q_r f9 x 3) fc := Eq.trans (hF.r hx (by rw [kx]; rfl)) hr3
    have z21 : q_ir (q_r f9 x 4) hist := Eq.trans (hF.r hx (by rw [kx]; rfl)) hr4
    have z22 : q_ir (q_r f9 x 5) rep := Eq.trans (hF.r hx (by rw [kx]; rfl)) hr5
    have z23 : q_ir (q_r f9 x 6) now := Eq.trans (hF.r hx (by rw [kx]; rfl)) hr6
    have z24 : q_ir (q_r f9 x 7) dr := Eq.trans (hF.r hx (by rw [kx]; rfl)) hr7
    have z25 : q_ir (q_r f9 x 8) sv := Eq.trans (hF.r hx (by rw [kx]; rfl)) hr8
    have z26 : q_ir (q_r f9 fc 0) tr := Eq.trans (hF.r hfc (by rw [kfc]; rfl)) hr9
    have z27 : q_ir (q_r f9 mo 1) bu := Eq.trans (hF.r hmo (by rw [kmo]; rfl)) hr10
    have z28 : q_ir (q_r f9 mo 13) sr := Eq.trans (hF.r hmo (by rw [kmo]; rfl)) hr11
    have z29 : q_ir (q_r f9 mo 14) sd := Eq.trans (hF.r hmo (by rw [kmo]; rfl)) hr12
    have z30 : q_ir (q_r f9 mo 15) as := Eq.trans (hF.r hmo (by rw [kmo]; rfl)) hr13
    have z31 : q_ir (q_r f9 mo 16) aw := Eq.trans (hF.r hmo (by rw [kmo]; rfl)) hr14
    have z32 : q_ir (q_r f9 mo 17) pa := Eq.trans (hF.r hmo (by rw [kmo]; rfl)) hr15
    have z33 : q_ir (q_r f9 mo 18) nm := Eq.trans (hF.r hmo (by rw [kmo]; rfl)) hr16
    have z34 : q_ir (q_r f9 mo 19) snm := Eq.trans (hF.r hmo (by rw [kmo]; rfl)) hr17
    have z35 : q_ir (q_r f9 mo 20) anm := Eq.trans (hF.r hmo (by rw [kmo]; rfl)) hr18
    have z36 : q_ir (q_r f9 mo 24) hp := Eq.trans (hF.r hmo (by rw [kmo]; rfl)) hr19
    have z37 : q_ir (q_r f9 mo 25) dy := Eq.trans (hF.r hmo (by rw [kmo]; rfl)) hr20
    have z38 : q_ir (q_r f9 mo 29) cs := Eq.trans (hF.r hmo (by rw [kmo]; rfl)) hr21
    have z39 : q_ir (q_r f9 mo 30) c1 := Eq.trans (hF.r hmo (by rw [kmo]; rfl)) hr22
    have z40 : q_ir (q_r f9 mo 31) c2 := Eq.trans (hF.r hmo (by rw [kmo]; rfl)) hr23
    have z41 : q_ir (q_r f9 mo 32) c3 := Eq.trans (hF.r hmo (by rw [kmo]; rfl)) hr24
    have z42 : q_ir (q_r f9 mo 33) bg := Eq.trans (hF.r hmo (by rw [kmo]; rfl)) hr25
    have z43 : q_ir (q_r f9 mo 34) lp := Eq.trans (hF.r hmo (by rw [kmo]; rfl)) hr26
    have z44 : q_ir (q_r f9 mo 38) rp := Eq.trans (hF.r hmo (by rw [kmo]; rfl)) hr27
    have g45 : q_gr f9 sr := q_gr_fr hgr (fun i9 _ => hF.z hsr (by rw [ksr]; rfl))
    have g46 : q_pk f9 mo pa := q_pk_tr hpk (hF.z hmo (by rw [kmo]; rfl)) (fun i9 => hF.z hpa (by rw [kpa]; rfl))
    have g47 : q_sv f9 mo sd := q_sv_tr hsd9 (hF.z hmo (by rw [kmo]; rfl)) (fun i9 => hF.z hsd (by rw [ksd]; rfl))
    subst qy10
    refine lv_istore (lv' := [(6, .int (q_i 0)), (5, .int (q_i ii)), (4, .ref outD), (3, .ref out), (2, .ref mo), (1, .ref x), (0, .ref b)]) cx.1 cx.2.1 dL_law_255 hl (by decide) rfl (fun ls hl => ?_)
    refine q_ald_n cx dL_law_257 rfl (lv_at hl 4 rfl) ?_
    refine q_ald_n cx dL_law_258 rfl (lv_at hl 6 rfl) ?_
    refine lv_iload cx.1 cx.2.1 dL_law_259 (lv_at hl 1 rfl) ?_
    refine q_iconst cx dL_law_261 ?_
    refine q_iadd cx dL_law_262 ?_
    refine va_sld cx.1 cx.2.1 hXs hbl hbA hB.1.2.2.2 (q_in (by omega) (by omega) (by omega)) dL_law_263 ?_
    rw [ea3]
    refine q_ald_n cx dL_law_264 rfl (lv_at hl 6 rfl) ?_
    refine lv_iload cx.1 cx.2.1 dL_law_265 (lv_at hl 1 rfl) ?_
    refine q_iconst cx dL_law_267 ?_
    refine q_iadd cx dL_law_268 ?_
    refine va_sld cx.1 cx.2.1 hXs hbl hbA hB.1.2.2.2 (q_in (by omega) (by omega) (by omega)) dL_law_269 ?_
    rw [ea4]
    refine q_ald_n cx dL_law_270 rfl (lv_at hl 6 rfl) ?_
    refine lv_iload cx.1 cx.2.1 dL_law_271 (lv_at hl 1 rfl) ?_
    refine q_iconst cx dL_law_273 ?_
    refine q_iadd cx dL_law_274 ?_
    refine va_sld cx.1 cx.2.1 hXs hbl hbA hB.1.2.2.2 (q_in (by omega) (by omega) (by omega)) dL_law_275 ?_
    rw [ea5]
    refine q_ald_n cx dL_law_276 rfl (lv_at hl 6 rfl) ?_
    refine lv_iload cx.1 cx.2.1 dL_law_277 (lv_at hl 1 rfl) ?_
    refine q_iconst cx dL_law_279 ?_
    refine q_iadd cx dL_law_280 ?_
    refine va_sld cx.1 cx.2.1 hXs hbl hbA hB.1.2.2.2 (q_in (by omega) (by omega) (by omega)) dL_law_281 ?_
    rw [ea6]
    refine q_ald_n cx dL_law_282 rfl (lv_at hl 6 rfl) ?_
    refine lv_iload cx.1 cx.2.1 dL_law_283 (lv_at hl 1 rfl) ?_
    refine q_iconst cx dL_law_285 ?_
    refine q_iadd cx dL_law_286 ?_
    refine va_sld cx.1 cx.2.1 hXs hbl hbA hB.1.2.2.2 (q_in (by omega) (by omega) (by omega)) dL_law_287 ?_
    rw [ea7]
    refine q_cVi (As := [.int (q_i a3), .int (q_i a4), .int (q_i a5), .int (q_i a6), .int (q_i a7)]) (rest := []) cx hB (fun q h => hLA q h) hN hmo kmo (by decide) rfl (r_feed_a l g hN hB.2.1 mo hmo kmo a3 (by omega) (by omega) a4 (by omega) (by omega) a5 (by omega) (by omega) a6 (by omega) (by omega) a7 (by omega) (by omega) bu hbu kbu xn (by omega) (by omega) z14 z27) q_cL_123 q_dX12_feed ⟨by decide, by show cells + 0 ≤ 601024; omega, by show slots + 0 ≤ 7293034; omega⟩ rfl rfl hl.1 rfl (Nat.le_of_ble_eq_true rfl) dL_law_288 (fun y49 H locs f48 ry49 h50 hF hB => ?_)
    obtain ⟨qy49, z51, z52⟩ := h50
    have z53 : q_j f48 out 0 = (q_l (xn + 20)) := (hF.j hout (by rw [kout]; rfl)).trans z12
    have z54 : q_is (q_z f48 sr 3) x1 := Eq.trans (hF.z hsr (by rw [ksr]; rfl)) z15
    have z55 : q_is (q_z f48 sr 4) x2 := Eq.trans (hF.z hsr (by rw [ksr]; rfl)) z16
    have z56 : q_is (q_z f48 src 1) (xn + 20) := Eq.trans (hF.z hsrc (by rw [ksrc]; rfl)) z13
    have z57 : q_ir (q_r f48 x 0) src := Eq.trans (hF.r hx (by rw [kx]; rfl)) z17
    have z58 : q_ir (q_r f48 x 1) rdr := Eq.trans (hF.r hx (by rw [kx]; rfl)) z18
    have z59 : q_ir (q_r f48 x 2) scr := Eq.trans (hF.r hx (by rw [kx]; rfl)) z19
    have z60 : q_ir (q_r f48 x 3) fc := Eq.trans (hF.r hx (by rw [kx]; rfl)) z20
    have z61 : q_ir (q_r f48 x 4) hist := Eq.trans (hF.r hx (by rw [kx]; rfl)) z21
    have z62 : q_ir (q_r f48 x 5) rep := Eq.trans (hF.r hx (by rw [kx]; rfl)) z22
    have z63 : q_ir (q_r f48 x 6) now := Eq.trans (hF.r hx (by rw [kx]; rfl)) z23
    have z64 : q_ir (q_r f48 x 7) dr := Eq.trans (hF.r hx (by rw [kx]; rfl)) z24
    have z65 : q_ir (q_r f48 x 8) sv := Eq.trans (hF.r hx (by rw [kx]; rfl)) z25
    have z66 : q_ir (q_r f48 fc 0) tr := Eq.trans (hF.r hfc (by rw [kfc]; rfl)) z26
    have z67 : q_ir (q_r f48 mo 1) bu := Eq.trans (hF.r hmo (by rw [kmo]; rfl)) z27
    have z68 : q_ir (q_r f48 mo 13) sr := Eq.trans (hF.r hmo (by rw [kmo]; rfl)) z28
    have z69 : q_ir (q_r f48 mo 14) sd := Eq.trans (hF.r hmo (by rw [kmo]; rfl)) z29
    have z70 : q_ir (q_r f48 mo 15) as := Eq.trans (hF.r hmo (by rw [kmo]; rfl)) z30
    have z71 : q_ir (q_r f48 mo 16) aw := Eq.trans (hF.r hmo (by rw [kmo]; rfl)) z31
    have z72 : q_ir (q_r f48 mo 17) pa := Eq.trans (hF.r hmo (by rw [kmo]; rfl)) z32
    have z73 : q_ir (q_r f48 mo 18) nm := Eq.trans (hF.r hmo (by rw [kmo]; rfl)) z33
    have z74 : q_ir (q_r f48 mo 19) snm := Eq.trans (hF.r hmo (by rw [kmo]; rfl)) z34
    have z75 : q_ir (q_r f48 mo 20) anm := Eq.trans (hF.r hmo (by rw [kmo]; rfl)) z35
    have z76 : q_ir (q_r f48 mo 24) hp := Eq.trans (hF.r hmo (by rw [kmo]; rfl)) z36
    have z77 : q_ir (q_r f48 mo 25) dy := Eq.trans (hF.r hmo (by rw [kmo]; rfl)) z37
    have z78 : q_ir (q_r f48 mo 29) cs := Eq.trans (hF.r hmo (by rw [kmo]; rfl)) z38
    have z79 : q_ir (q_r f48 mo 30) c1 := Eq.trans (hF.r hmo (by rw [kmo]; rfl)) z39
    have z80 : q_ir (q_r f48 mo 31) c2 := Eq.trans (hF.r hmo (by rw [kmo]; rfl)) z40
    have z81 : q_ir (q_r f48 mo 32) c3 := Eq.trans (hF.r hmo (by rw [kmo]; rfl)) z41
    have z82 : q_ir (q_r f48 mo 33) bg := Eq.trans (hF.r hmo (by rw [kmo]; rfl)) z42
    have z83 : q_ir (q_r f48 mo 34) lp := Eq.trans (hF.r hmo (by rw [kmo]; rfl)) z43
    have z84 : q_ir (q_r f48 mo 38) rp := Eq.trans (hF.r hmo (by rw [kmo]; rfl)) z44
    have g85 : q_gr f48 sr := q_gr_fr g45 (fun i9 _ => hF.z hsr (by rw [ksr]; rfl))
    have g86 : q_pk f48 mo pa := q_pk_tr g46 (hF.z hmo (by rw [kmo]; rfl)) (fun i9 => hF.z hpa (by rw [kpa]; rfl))
    have g87 : q_sv f48 mo sd := q_sv_tr g47 (hF.z hmo (by rw [kmo]; rfl)) (fun i9 => hF.z hsd (by rw [ksd]; rfl))
    refine lv_istore (lv' := [(7, .int (q_i y49)), (6, .int (q_i 0)), (5, .int (q_i ii)), (4, .ref outD), (3, .ref out), (2, .ref mo), (1, .ref x), (0, .ref b)]) cx.1 cx.2.1 dL_law_291 hl (by decide) rfl (fun ls hl => ?_)
    refine lv_goto (tgt := 1521) cx.1 cx.2.1 dL_law_293 (by decide) ?_
    refine W.widen (k := cells + 6) (n := slots + 36) (by omega) (by omega) ?_
    exact kk f48 H locs ls (xn + 20) hB ⟨⟨z56, (Eq.trans z51 (by omega)), by omega, by omega⟩, g85, g86, g87, q_isu z54 (by omega), q_isu z55 (by omega)⟩ (lv_sub hl [2, 3, 4, 5, 6, 7] rfl)
  · refine q_cWS (As := [.ref x, .int (q_i a3), .int (q_i a4), .int (q_i a5), .int (q_i a6), .int (q_i a7), .ref out]) (rest := []) cx hX hB (fun q h => hLA q h) (fun q h1 h2 => absurd h1 (Nat.not_le_of_lt h2)) hN (w_feed_b l g ad hN hB.2.1 hfl x hx kx a3 (by omega) (by omega) a4 (by omega) (by omega) a5 (by omega) (by omega) a6 (by omega) (by omega) a7 (by omega) (by omega) out hout kout src hsrc ksrc rdr hrdr krdr scr hscr kscr fc hfc kfc hist hhist khist rep hrep krep now hnow know dr hdr kdr sv hsv ksv tr htr ktr xn (by omega) (by omega) hn0 hr0 hr1 hr2 hr3 hr4 hr5 hr6 hr7 hr8 hr9) q_cL_118 q_dL_feed ⟨by decide, by show cells + 1 ≤ 601024; omega, by show slots + 6 ≤ 7293034; omega⟩ rfl rfl hl.1 rfl (Nat.le_of_ble_eq_true rfl) dL_law_252 (fun v9 H locs f88 h90 hF hB => ?_)
    obtain ⟨y89, rfl, ry89, h90⟩ := h90
    refine W.eq (g2 := F0 m 255 ls [.int (q_i y89)]) rfl ?_
    obtain ⟨rfl, qy89⟩ := h90
    subst qy89
    refine lv_istore (lv' := [(6, .int (q_i 1)), (5, .int (q_i ii)), (4, .ref outD), (3, .ref out), (2, .ref mo), (1, .ref x), (0, .ref b)]) cx.1 cx.2.1 dL_law_255 hl (by decide) rfl (fun ls hl => ?_)
    refine q_ald_n cx dL_law_257 rfl (lv_at hl 4 rfl) ?_
    refine q_ald_n cx dL_law_258 rfl (lv_at hl 6 rfl) ?_
    refine lv_iload cx.1 cx.2.1 dL_law_259 (lv_at hl 1 rfl) ?_
    refine q_iconst cx dL_law_261 ?_
    refine q_iadd cx dL_law_262 ?_
    refine va_sld cx.1 cx.2.1 hXs hbl hbA hB.1.2.2.2 (q_in (by omega) (by omega) (by omega)) dL_law_263 ?_
    rw [ea3]
    refine q_ald_n cx dL_law_264 rfl (lv_at hl 6 rfl) ?_
    refine lv_iload cx.1 cx.2.1 dL_law_265 (lv_at hl 1 rfl) ?_
    refine q_iconst cx dL_law_267 ?_
    refine q_iadd cx dL_law_268 ?_
    refine va_sld cx.1 cx.2.1 hXs hbl hbA hB.1.2.2.2 (q_in (by omega) (by omega) (by omega)) dL_law_269 ?_
    rw [ea4]
    refine q_ald_n cx dL_law_270 rfl (lv_at hl 6 rfl) ?_
    refine lv_iload cx.1 cx.2.1 dL_law_271 (lv_at hl 1 rfl) ?_
    refine q_iconst cx dL_law_273 ?_
    refine q_iadd cx dL_law_274 ?_
    refine va_sld cx.1 cx.2.1 hXs hbl hbA hB.1.2.2.2 (q_in (by omega) (by omega) (by omega)) dL_law_275 ?_
    rw [ea5]
    refine q_ald_n cx dL_law_276 rfl (lv_at hl 6 rfl) ?_
    refine lv_iload cx.1 cx.2.1 dL_law_277 (lv_at hl 1 rfl) ?_
    refine q_iconst cx dL_law_279 ?_
    refine q_iadd cx dL_law_280 ?_
    refine va_sld cx.1 cx.2.1 hXs hbl hbA hB.1.2.2.2 (q_in (by omega) (by omega) (by omega)) dL_law_281 ?_
    rw [ea6]
    refine q_ald_n cx dL_law_282 rfl (lv_at hl 6 rfl) ?_
    refine lv_iload cx.1 cx.2.1 dL_law_283 (lv_at hl 1 rfl) ?_
    refine q_iconst cx dL_law_285 ?_
    refine q_iadd cx dL_law_286 ?_
    refine va_sld cx.1 cx.2.1 hXs hbl hbA hB.1.2.2.2 (q_in (by omega) (by omega) (by omega)) dL_law_287 ?_
    rw [ea7]
    refine q_cVi (As := [.int (q_i a3), .int (q_i a4), .int (q_i a5), .int (q_i a6), .int (q_i a7)]) (rest := []) cx hB (fun q h => hLA q h) hN hmo kmo (by decide) rfl (r_feed_b l g hN hB.2.1 mo hmo kmo a3 (by omega) (by omega) a4 (by omega) (by omega) a5 (by omega) (by omega) a6 (by omega) (by omega) a7 (by omega) (by omega) bu hbu kbu xn (by omega) (by omega) hn1 hr10) q_cL_123 q_dX12_feed ⟨by decide, by show cells + 1 ≤ 601024; omega, by show slots + 6 ≤ 7293034; omega⟩ rfl rfl hl.1 rfl (Nat.le_of_ble_eq_true rfl) dL_law_288 (fun y92 H locs f91 ry92 h93 hF hB => ?_)
    obtain ⟨qy92, z94, z95⟩ := h93
    have z96 : q_is (q_z f91 src 1) xn := Eq.trans (hF.z hsrc (by rw [ksrc]; rfl)) hn0
    have z97 : q_is (q_z f91 mo 2) xn := Eq.trans (hF.z hmo (by rw [kmo]; rfl)) hn1
    have z98 : q_is (q_z f91 sr 3) x1 := Eq.trans (hF.z hsr (by rw [ksr]; rfl)) ex1
    have z99 : q_is (q_z f91 sr 4) x2 := Eq.trans (hF.z hsr (by rw [ksr]; rfl)) ex2
    have z100 : q_ir (q_r f91 x 0) src := Eq.trans (hF.r hx (by rw [kx]; rfl)) hr0
    have z101 : q_ir (q_r f91 x 1) rdr := Eq.trans (hF.r hx (by rw [kx]; rfl)) hr1
    have z102 : q_ir (q_r f91 x 2) scr := Eq.trans (hF.r hx (by rw [kx]; rfl)) hr2
    have z103 : q_ir (q_r f91 x 3) fc := Eq.trans (hF.r hx (by rw [kx]; rfl)) hr3
    have z104 : q_ir (q_r f91 x 4) hist := Eq.trans (hF.r hx (by rw [kx]; rfl)) hr4
    have z105 : q_ir (q_r f91 x 5) rep := Eq.trans (hF.r hx (by rw [kx]; rfl)) hr5
    have z106 : q_ir (q_r f91 x 6) now := Eq.trans (hF.r hx (by rw [kx]; rfl)) hr6
    have z107 : q_ir (q_r f91 x 7) dr := Eq.trans (hF.r hx (by rw [kx]; rfl)) hr7
    have z108 : q_ir (q_r f91 x 8) sv := Eq.trans (hF.r hx (by rw [kx]; rfl)) hr8
    have z109 : q_ir (q_r f91 fc 0) tr := Eq.trans (hF.r hfc (by rw [kfc]; rfl)) hr9
    have z110 : q_ir (q_r f91 mo 1) bu := Eq.trans (hF.r hmo (by rw [kmo]; rfl)) hr10
    have z111 : q_ir (q_r f91 mo 13) sr := Eq.trans (hF.r hmo (by rw [kmo]; rfl)) hr11
    have z112 : q_ir (q_r f91 mo 14) sd := Eq.trans (hF.r hmo (by rw [kmo]; rfl)) hr12
    have z113 : q_ir (q_r f91 mo 15) as := Eq.trans (hF.r hmo (by rw [kmo]; rfl)) hr13
    have z114 : q_ir (q_r f91 mo 16) aw := Eq.trans (hF.r hmo (by rw [kmo]; rfl)) hr14
    have z115 : q_ir (q_r f91 mo 17) pa := Eq.trans (hF.r hmo (by rw [kmo]; rfl)) hr15
    have z116 : q_ir (q_r f91 mo 18) nm := Eq.trans (hF.r hmo (by rw [kmo]; rfl)) hr16
    have z117 : q_ir (q_r f91 mo 19) snm := Eq.trans (hF.r hmo (by rw [kmo]; rfl)) hr17
    have z118 : q_ir (q_r f91 mo 20) anm := Eq.trans (hF.r hmo (by rw [kmo]; rfl)) hr18
    have z119 : q_ir (q_r f91 mo 24) hp := Eq.trans (hF.r hmo (by rw [kmo]; rfl)) hr19
    have z120 : q_ir (q_r f91 mo 25) dy := Eq.trans (hF.r hmo (by rw [kmo]; rfl)) hr20
    have z121 : q_ir (q_r f91 mo 29) cs := Eq.trans (hF.r hmo (by rw [kmo]; rfl)) hr21
    have z122 : q_ir (q_r f91 mo 30) c1 := Eq.trans (hF.r hmo (by rw [kmo]; rfl)) hr22
    have z123 : q_ir (q_r f91 mo 31) c2 := Eq.trans (hF.r hmo (by rw [kmo]; rfl)) hr23
    have z124 : q_ir (q_r f91 mo 32) c3 := Eq.trans (hF.r hmo (by rw [kmo]; rfl)) hr24
    have z125 : q_ir (q_r f91 mo 33) bg := Eq.trans (hF.r hmo (by rw [kmo]; rfl)) hr25
    have z126 : q_ir (q_r f91 mo 34) lp := Eq.trans (hF.r hmo (by rw [kmo]; rfl)) hr26
    have z127 : q_ir (q_r f91 mo 38) rp := Eq.trans (hF.r hmo (by rw [kmo]; rfl)) hr27
    have g128 : q_gr f91 sr := q_gr_fr hgr (fun i9 _ => hF.z hsr (by rw [ksr]; rfl))
    have g129 : q_pk f91 mo pa := q_pk_tr hpk (hF.z hmo (by rw [kmo]; rfl)) (fun i9 => hF.z hpa (by rw [kpa]; rfl))
    have g130 : q_sv f91 mo sd := q_sv_tr hsd9 (hF.z hmo (by rw [kmo]; rfl)) (fun i9 => hF.z hsd (by rw [ksd]; rfl))
    subst qy92
    refine lv_istore (lv' := [(7, .int (q_i 0)), (6, .int (q_i 1)), (5, .int (q_i ii)), (4, .ref outD), (3, .ref out), (2, .ref mo), (1, .ref x), (0, .ref b)]) cx.1 cx.2.1 dL_law_291 hl (by decide) rfl (fun ls hl => ?_)
    refine lv_goto (tgt := 1521) cx.1 cx.2.1 dL_law_293 (by decide) ?_
    refine W.widen (k := cells + 6) (n := slots + 36) (by omega) (by omega) ?_
    exact kk f91 H locs ls xn hB ⟨⟨z96, (Eq.trans z94 (by omega)), by omega, by omega⟩, g128, g129, g130, q_isu z98 (by omega), q_isu z99 (by omega)⟩ (lv_sub hl [2, 3, 4, 5, 6, 7] rfl)
set_option maxHeartbeats 4000000 in
set_option maxRecDepth 100000 in
theorem law_c296 {p : Program} {l : Launch} {e : Env} {s : State} {m : MethodId} {below : List Frame} {meth : Method} {c : Code} {b N9 : Nat} {xs : Nat → Int32} (hfl : l.stackTraces = false) (hN9 : N9 ≤ 3072) (C0 : lw_At p s m meth c b N9 xs) (cx : CallFix p m c cL_law 10 s #[Value.ref b] q_al RL) {g : q_G} {ad : Nat → Nat} {K : Nat → Nat} {L : List Nat} (hN : L.Nodup) (hLA : ∀ q, q ∈ L → s.heap.size ≤ q) (hX : q_X ad (fun q => q ∈ L) s) {f0 : Nat → va_E} {x : Nat} (hx : x ∈ L) (kx : K x = 11) {src : Nat} (hsrc : src ∈ L) (ksrc : K src = 8) {rdr : Nat} (hrdr : rdr ∈ L) (krdr : K rdr = 9) {scr : Nat} (hscr : scr ∈ L) (kscr : K scr = 7) {fc : Nat} (hfc : fc ∈ L) (kfc : K fc = 1) {hist : Nat} (hhist : hist ∈ L) (khist : K hist = 2) {rep : Nat} (hrep : rep ∈ L) (krep : K rep = 6) {now : Nat} (hnow : now ∈ L) (know : K now = 10) {dr : Nat} (hdr : dr ∈ L) (kdr : K dr = 13) {sv : Nat} (hsv : sv ∈ L) (ksv : K sv = 14) {tr : Nat} (htr : tr ∈ L) (ktr : K tr = 15) {mo : Nat} (hmo : mo ∈ L) (kmo : K mo = 12) {bu : Nat} (hbu : bu ∈ L) (kbu : K bu = 150) {sr : Nat} (hsr : sr ∈ L) (ksr : K sr = 151) {sd : Nat} (hsd : sd ∈ L) (ksd : K sd = 152) {as : Nat} (has : as ∈ L) (kas : K as = 153) {aw : Nat} (haw : aw ∈ L) (kaw : K aw = 154) {pa : Nat} (hpa : pa ∈ L) (kpa : K pa = 155) {nm : Nat} (hnm : nm ∈ L) (knm : K nm = 156) {snm : Nat} (hsnm : snm ∈ L) (ksnm : K snm = 157) {anm : Nat} (hanm : anm ∈ L) (kanm : K anm = 158) {hp : Nat} (hhp : hp ∈ L) (khp : K hp = 159) {dy : Nat} (hdy : dy ∈ L) (kdy : K dy = 160) {cs : Nat} (hcs : cs ∈ L) (kcs : K cs = 161) {c1 : Nat} (hc1 : c1 ∈ L) (kc1 : K c1 = 162) {c2 : Nat} (hc2 : c2 ∈ L) (kc2 : K c2 = 163) {c3 : Nat} (hc3 : c3 ∈ L) (kc3 : K c3 = 164) {bg : Nat} (hbg : bg ∈ L) (kbg : K bg = 165) {lp : Nat} (hlp : lp ∈ L) (klp : K lp = 166) {rp : Nat} (hrp : rp ∈ L) (krp : K rp = 167) {out : Nat} (hout : out ∈ L) (kout : K out = 168) {outD : Nat} (houtD : outD ∈ L) (koutD : K outD = 169) (hr0 : q_ir (q_r f0 x 0) src) (hr1 : q_ir (q_r f0 x 1) rdr) (hr2 : q_ir (q_r f0 x 2) scr) (hr3 : q_ir (q_r f0 x 3) fc) (hr4 : q_ir (q_r f0 x 4) hist) (hr5 : q_ir (q_r f0 x 5) rep) (hr6 : q_ir (q_r f0 x 6) now) (hr7 : q_ir (q_r f0 x 7) dr) (hr8 : q_ir (q_r f0 x 8) sv) (hr9 : q_ir (q_r f0 fc 0) tr) (hr10 : q_ir (q_r f0 mo 1) bu) (hr11 : q_ir (q_r f0 mo 13) sr) (hr12 : q_ir (q_r f0 mo 14) sd) (hr13 : q_ir (q_r f0 mo 15) as) (hr14 : q_ir (q_r f0 mo 16) aw) (hr15 : q_ir (q_r f0 mo 17) pa) (hr16 : q_ir (q_r f0 mo 18) nm) (hr17 : q_ir (q_r f0 mo 19) snm) (hr18 : q_ir (q_r f0 mo 20) anm) (hr19 : q_ir (q_r f0 mo 24) hp) (hr20 : q_ir (q_r f0 mo 25) dy) (hr21 : q_ir (q_r f0 mo 29) cs) (hr22 : q_ir (q_r f0 mo 30) c1) (hr23 : q_ir (q_r f0 mo 31) c2) (hr24 : q_ir (q_r f0 mo 32) c3) (hr25 : q_ir (q_r f0 mo 33) bg) (hr26 : q_ir (q_r f0 mo 34) lp) (hr27 : q_ir (q_r f0 mo 38) rp) {f : Nat → va_E} {H : Heap} {locs : List Loc} {ls : Array Slot} {cells slots : Nat} {ii xn : Int} (hB : q_B g K L (fun q => s.heap.size ≤ q) [(0, 0, 6), (2, 1, 2), (3, 0, 4), (4, 0, 7), (5, 0, 9), (6, 1, 1), (7, 1, 4), (8, 1, 9), (9, 0, 2), (10, 3, 15), (11, 9, 9), (12, 0, 0), (12, 2, 12), (12, 21, 23), (12, 26, 28), (12, 35, 37), (12, 39, 40), (13, 3, 15), (14, 3, 15), (15, 3, 15), (16, 3, 15), (17, 0, 9), (18, 0, 9), (19, 0, 9), (20, 0, 9), (21, 0, 4), (22, 0, 4), (23, 0, 4), (24, 0, 4), (25, 0, 7), (26, 0, 7), (27, 0, 7), (28, 0, 7), (142, 0, 599), (143, 0, 599), (150, 0, 599), (151, 0, 657), (152, 0, 657), (153, 0, 657), (154, 0, 657), (155, 0, 3947), (156, 0, 9), (157, 0, 9), (158, 0, 9), (159, 0, 9), (160, 0, 9), (161, 0, 59), (162, 0, 58), (163, 0, 58), (164, 0, 58), (165, 0, 1), (166, 0, 1), (167, 0, 479), (168, 0, 0), (169, 0, 0)] f0 f s H locs) (hI : q_Inv f src mo sr pa sd xn) (hl : lv_has ls 10 [(5, .int (q_i ii)), (4, .ref outD), (3, .ref out), (2, .ref mo), (1, .ref x), (0, .ref b)]) (hi0 : 0 ≤ ii) (hi6 : ii + 6 ≤ N9) (hce : cells + 6 ≤ 10000) (hse : slots + 36 ≤ 100000) (kk : ∀ (f1 : Nat → va_E) (H1 : Heap) (locs1 : List Loc) (ls1 : Array Slot) (xn1 : Int), q_B g K L (fun q => s.heap.size ≤ q) [(0, 0, 6), (2, 1, 2), (3, 0, 4), (4, 0, 7), (5, 0, 9), (6, 1, 1), (7, 1, 4), (8, 1, 9), (9, 0, 2), (10, 3, 15), (11, 9, 9), (12, 0, 0), (12, 2, 12), (12, 21, 23), (12, 26, 28), (12, 35, 37), (12, 39, 40), (13, 3, 15), (14, 3, 15), (15, 3, 15), (16, 3, 15), (17, 0, 9), (18, 0, 9), (19, 0, 9), (20, 0, 9), (21, 0, 4), (22, 0, 4), (23, 0, 4), (24, 0, 4), (25, 0, 7), (26, 0, 7), (27, 0, 7), (28, 0, 7), (142, 0, 599), (143, 0, 599), (150, 0, 599), (151, 0, 657), (152, 0, 657), (153, 0, 657), (154, 0, 657), (155, 0, 3947), (156, 0, 9), (157, 0, 9), (158, 0, 9), (159, 0, 9), (160, 0, 9), (161, 0, 59), (162, 0, 58), (163, 0, 58), (164, 0, 58), (165, 0, 1), (166, 0, 1), (167, 0, 479), (168, 0, 0), (169, 0, 0)] f0 f1 s H1 locs1 → q_Inv f1 src mo sr pa sd xn1 → lv_has ls1 10 [(5, .int (q_i ii)), (4, .ref outD), (3, .ref out), (2, .ref mo), (1, .ref x), (0, .ref b)] → W p l e room_1 s m #[Value.ref b] below meth c H1 locs1 (cells + 6) (slots + 36) (lw_Z below #[Value.ref b] s) (F0 m 1521 ls1 [])) : W p l e room_1 s m #[Value.ref b] below meth c H locs (cells) (slots) (lw_Z below #[Value.ref b] s) (F0 m 296 ls []) := by
  have hXs := C0.2.2.2.2.2.2.1
  have hbl := C0.2.2.2.2.2.2.2.1
  have hbA := q_bA hbl
  obtain ⟨⟨hn0, hn1, lxn, uxn⟩, hgr, hpk, hsd9, ht3, ht4⟩ := hI
  have hr0 : q_ir (q_r f x 0) src := Eq.trans (hB.2.2.r hx (by rw [kx]; rfl)) hr0
  have hr1 : q_ir (q_r f x 1) rdr := Eq.trans (hB.2.2.r hx (by rw [kx]; rfl)) hr1
  have hr2 : q_ir (q_r f x 2) scr := Eq.trans (hB.2.2.r hx (by rw [kx]; rfl)) hr2
  have hr3 : q_ir (q_r f x 3) fc := Eq.trans (hB.2.2.r hx (by rw [kx]; rfl)) hr3
  have hr4 : q_ir (q_r f x 4) hist := Eq.trans (hB.2.2.r hx (by rw [kx]; rfl)) hr4
  have hr5 : q_ir (q_r f x 5) rep := Eq.trans (hB.2.2.r hx (by rw [kx]; rfl)) hr5
  have hr6 : q_ir (q_r f x 6) now := Eq.trans (hB.2.2.r hx (by rw [kx]; rfl)) hr6
  have hr7 : q_ir (q_r f x 7) dr := Eq.trans (hB.2.2.r hx (by rw [kx]; rfl)) hr7
  have hr8 : q_ir (q_r f x 8) sv := Eq.trans (hB.2.2.r hx (by rw [kx]; rfl)) hr8
  have hr9 : q_ir (q_r f fc 0) tr := Eq.trans (hB.2.2.r hfc (by rw [kfc]; rfl)) hr9
  have hr10 : q_ir (q_r f mo 1) bu := Eq.trans (hB.2.2.r hmo (by rw [kmo]; rfl)) hr10
  have hr11 : q_ir (q_r f mo 13) sr := Eq.trans (hB.2.2.r hmo (by rw [kmo]; rfl)) hr11
  have hr12 : q_ir (q_r f mo 14) sd := Eq.trans (hB.2.2.r hmo (by rw [kmo]; rfl)) hr12
  have hr13 : q_ir (q_r f mo 15) as := Eq.trans (hB.2.2.r hmo (by rw [kmo]; rfl)) hr13
  have hr14 : q_ir (q_r f mo 16) aw := Eq.trans (hB.2.2.r hmo (by rw [kmo]; rfl)) hr14
  have hr15 : q_ir (q_r f mo 17) pa := Eq.trans (hB.2.2.r hmo (by rw [kmo]; rfl)) hr15
  have hr16 : q_ir (q_r f mo 18) nm := Eq.trans (hB.2.2.r hmo (by rw [kmo]; rfl)) hr16
  have hr17 : q_ir (q_r f mo 19) snm := Eq.trans (hB.2.2.r hmo (by rw [kmo]; rfl)) hr17
  have hr18 : q_ir (q_r f mo 20) anm := Eq.trans (hB.2.2.r hmo (by rw [kmo]; rfl)) hr18
  have hr19 : q_ir (q_r f mo 24) hp := Eq.trans (hB.2.2.r hmo (by rw [kmo]; rfl)) hr19
  have hr20 : q_ir (q_r f mo 25) dy := Eq.trans (hB.2.2.r hmo (by rw [kmo]; rfl)) hr20
  have hr21 : q_ir (q_r f mo 29) cs := Eq.trans (hB.2.2.r hmo (by rw [kmo]; rfl)) hr21
  have hr22 : q_ir (q_r f mo 30) c1 := Eq.trans (hB.2.2.r hmo (by rw [kmo]; rfl)) hr22
  have hr23 : q_ir (q_r f mo 31) c2 := Eq.trans (hB.2.2.r hmo (by rw [kmo]; rfl)) hr23
  have hr24 : q_ir (q_r f mo 32) c3 := Eq.trans (hB.2.2.r hmo (by rw [kmo]; rfl)) hr24
  have hr25 : q_ir (q_r f mo 33) bg := Eq.trans (hB.2.2.r hmo (by rw [kmo]; rfl)) hr25
  have hr26 : q_ir (q_r f mo 34) lp := Eq.trans (hB.2.2.r hmo (by rw [kmo]; rfl)) hr26
  have hr27 : q_ir (q_r f mo 38) rp := Eq.trans (hB.2.2.r hmo (by rw [kmo]; rfl)) hr27
  obtain ⟨x1, ex1⟩ : ∃ zz, q_is (q_z f sr 3) zz := ⟨_, q_isr _⟩
  obtain ⟨lx1, ux1⟩ : 0 ≤ x1 ∧ x1 ≤ 9999 := q_isb ex1 ⟨(hgr 3 (by decide)).1, ht3⟩
  obtain ⟨x2, ex2⟩ : ∃ zz, q_is (q_z f sr 4) zz := ⟨_, q_isr _⟩
  obtain ⟨lx2, ux2⟩ : 0 ≤ x2 ∧ x2 ≤ 60 := q_isb ex2 ⟨(hgr 4 (by decide)).1, ht4⟩
  refine q_ald_n cx dL_law_296 rfl (lv_at hl 4 rfl) ?_
  refine q_ald_n cx dL_law_297 rfl (lv_at hl 5 rfl) ?_
  refine lv_iload cx.1 cx.2.1 dL_law_298 (lv_at hl 0 rfl) ?_
  refine q_iconst cx dL_law_300 ?_
  refine q_iadd cx dL_law_301 ?_
  refine va_sld cx.1 cx.2.1 hXs hbl hbA hB.1.2.2.2 (q_in (by omega) (by omega) (by omega)) dL_law_302 ?_
  obtain ⟨a3, ra3, ea3⟩ : ∃ z : Int, q_R z ∧ xs (q_i (ii + 1)).toNatClampNeg = q_i z := ⟨_, q_rng _, (q_of _).symm⟩
  rw [ea3]
  refine q_ald_n cx dL_law_303 rfl (lv_at hl 2 rfl) ?_
  by_cases c4 : a3 ≤ (-1)
  · refine q_cWS (As := [.ref x, .int (q_i a3), .ref out]) (rest := []) cx hX hB (fun q h => hLA q h) (fun q h1 h2 => absurd h1 (Nat.not_le_of_lt h2)) hN (w_truncate_a l g ad hN hB.2.1 hfl x hx kx a3 (by omega) (by omega) out hout kout src hsrc ksrc rdr hrdr krdr scr hscr kscr fc hfc kfc hist hhist khist rep hrep krep now hnow know dr hdr kdr sv hsv ksv tr htr ktr xn (by omega) (by omega) hn0 hr0 hr1 hr2 hr3 hr4 hr5 hr6 hr7 hr8 hr9) q_cL_124 q_dL_truncate ⟨by decide, by show cells + 1 ≤ 601024; omega, by show slots + 6 ≤ 7293034; omega⟩ rfl rfl hl.1 rfl (Nat.le_of_ble_eq_true rfl) dL_law_304 (fun v9 H locs f5 h7 hF hB => ?_)
    obtain ⟨y6, rfl, ry6, h7⟩ := h7
    refine W.eq (g2 := F0 m 307 ls [.int (q_i y6)]) rfl ?_
    obtain ⟨rfl, qy6⟩ := h7
    subst qy6
    refine lv_istore (lv' := [(6, .int (q_i 1)), (5, .int (q_i ii)), (4, .ref outD), (3, .ref out), (2, .ref mo), (1, .ref x), (0, .ref b)]) cx.1 cx.2.1 dL_law_307 hl (by decide) rfl (fun ls hl => ?_)
    refine q_ald_n cx dL_law_309 rfl (lv_at hl 4 rfl) ?_
    refine q_ald_n cx dL_law_310 rfl (lv_at hl 6 rfl) ?_
    refine lv_iload cx.1 cx.2.1 dL_law_311 (lv_at hl 1 rfl) ?_
    refine q_iconst cx dL_law_313 ?_
    refine q_iadd cx dL_law_314 ?_
    refine va_sld cx.1 cx.2.1 hXs hbl hbA hB.1.2.2.2 (q_in (by omega) (by omega) (by omega)) dL_law_315 ?_
    rw [ea3]
    refine q_cVi (As := [.int (q_i a3)]) (rest := []) cx hB (fun q h => hLA q h) hN hmo kmo (by decide) rfl (r_truncate_a l g hN hB.2.1 mo hmo kmo a3 (by omega) (by omega) xn (by omega) (by omega) hn1) q_cL_127 q_dX12_truncate ⟨by decide, by show cells + 1 ≤ 601024; omega, by show slots + 6 ≤ 7293034; omega⟩ rfl rfl hl.1 rfl (Nat.le_of_ble_eq_true rfl) dL_law_316 (fun y9 H locs f8 ry9 h10 hF hB => ?_)
    obtain ⟨qy9, z11, z12⟩ := h10
    have z13 : q_is (q_z f8 src 1) xn := Eq.trans (hF.z hsrc (by rw [ksrc]; rfl)) hn0
    have z14 : q_is (q_z f8 mo 2) xn := Eq.trans (hF.z hmo (by rw [kmo]; rfl)) hn1
    have z15 : q_is (q_z f8 sr 3) x1 := Eq.trans (hF.z hsr (by rw [ksr]; rfl)) ex1
    have z16 : q_is (q_z f8 sr 4) x2 := Eq.trans (hF.z hsr (by rw [ksr]; rfl)) ex2
    have z17 : q_ir (q_r f8 x 0) src := Eq.trans (hF.r hx (by rw [kx]; rfl)) hr0
    have z18 : q_ir (q_r f8 x 1) rdr := Eq.trans (hF.r hx (by rw [kx]; rfl)) hr1
    have z19 : q_ir (q_r f8 x 2) scr := Eq.trans (hF.r hx (by rw [kx]; rfl)) hr2
    have z20 : q_ir (q_r f8 x 3) fc := Eq.trans (hF.r hx (by rw [kx]; rfl)) hr3
    have z21 : q_ir (q_r f8 x 4) hist := Eq.trans (hF.r hx (by rw [kx]; rfl)) hr4
    have z22 : q_ir (q_r f8 x 5) rep := Eq.trans (hF.r hx (by rw [kx]; rfl)) hr5
    have z23 : q_ir (q_r f8 x 6) now := Eq.trans (hF.r hx (by rw [kx]; rfl)) hr6
    have z24 : q_ir (q_r f8 x 7) dr := Eq.trans (hF.r hx (by rw [kx]; rfl)) hr7
    have z25 : q_ir (q_r f8 x 8) sv := Eq.trans (hF.r hx (by rw [kx]; rfl)) hr8
    have z26 : q_ir (q_r f8 fc 0) tr := Eq.trans (hF.r hfc (by rw [kfc]; rfl)) hr9
    have z27 : q_ir (q_r f8 mo 1) bu := Eq.trans (hF.r hmo (by rw [kmo]; rfl)) hr10
    have z28 : q_ir (q_r f8 mo 13) sr := Eq.trans (hF.r hmo (by rw [kmo]; rfl)) hr11
    have z29 : q_ir (q_r f8 mo 14) sd := Eq.trans (hF.r hmo (by rw [kmo]; rfl)) hr12
    have z30 : q_ir (q_r f8 mo 15) as := Eq.trans (hF.r hmo (by rw [kmo]; rfl)) hr13
    have z31 : q_ir (q_r f8 mo 16) aw := Eq.trans (hF.r hmo (by rw [kmo]; rfl)) hr14
    have z32 : q_ir (q_r f8 mo 17) pa := Eq.trans (hF.r hmo (by rw [kmo]; rfl)) hr15
    have z33 : q_ir (q_r f8 mo 18) nm := Eq.trans (hF.r hmo (by rw [kmo]; rfl)) hr16
    have z34 : q_ir (q_r f8 mo 19) snm := Eq.trans (hF.r hmo (by rw [kmo]; rfl)) hr17
    have z35 : q_ir (q_r f8 mo 20) anm := Eq.trans (hF.r hmo (by rw [kmo]; rfl)) hr18
    have z36 : q_ir (q_r f8 mo 24) hp := Eq.trans (hF.r hmo (by rw [kmo]; rfl)) hr19
    have z37 : q_ir (q_r f8 mo 25) dy := Eq.trans (hF.r hmo (by rw [kmo]; rfl)) hr20
    have z38 : q_ir (q_r f8 mo 29) cs := Eq.trans (hF.r hmo (by rw [kmo]; rfl)) hr21
    have z39 : q_ir (q_r f8 mo 30) c1 := Eq.trans (hF.r hmo (by rw [kmo]; rfl)) hr22
    have z40 : q_ir (q_r f8 mo 31) c2 := Eq.trans (hF.r hmo (by rw [kmo]; rfl)) hr23
    have z41 : q_ir (q_r f8 mo 32) c3 := Eq.trans (hF.r hmo (by rw [kmo]; rfl)) hr24
    have z42 : q_ir (q_r f8 mo 33) bg := Eq.trans (hF.r hmo (by rw [kmo]; rfl)) hr25
    have z43 : q_ir (q_r f8 mo 34) lp := Eq.trans (hF.r hmo (by rw [kmo]; rfl)) hr26
    have z44 : q_ir (q_r f8 mo 38) rp := Eq.trans (hF.r hmo (by rw [kmo]; rfl)) hr27
    have g45 : q_gr f8 sr := q_gr_fr hgr (fun i9 _ => hF.z hsr (by rw [ksr]; rfl))
    have g46 : q_pk f8 mo pa := q_pk_tr hpk (hF.z hmo (by rw [kmo]; rfl)) (fun i9 => hF.z hpa (by rw [kpa]; rfl))
    have g47 : q_sv f8 mo sd := q_sv_tr hsd9 (hF.z hmo (by rw [kmo]; rfl)) (fun i9 => hF.z hsd (by rw [ksd]; rfl))
    subst qy9
    refine lv_istore (lv' := [(7, .int (q_i 0)), (6, .int (q_i 1)), (5, .int (q_i ii)), (4, .ref outD), (3, .ref out), (2, .ref mo), (1, .ref x), (0, .ref b)]) cx.1 cx.2.1 dL_law_319 hl (by decide) rfl (fun ls hl => ?_)
    refine q_ald_n cx dL_law_321 rfl (lv_at hl 5 rfl) ?_
    refine q_cVi (As := []) (rest := []) cx hB (fun q h => hLA q h) hN hmo kmo (by decide) rfl (r_thrown l g hN hB.2.1 mo hmo kmo 1 (by decide) (by decide) z12) q_cL_128 q_dX12_thrown ⟨by decide, by show cells + 1 ≤ 601024; omega, by show slots + 6 ≤ 7293034; omega⟩ rfl rfl hl.1 rfl (Nat.le_of_ble_eq_true rfl) dL_law_322 (fun y49 H locs f48 ry49 h50 hF hB => ?_)
    obtain ⟨rfl, qy49⟩ := h50
    subst qy49
    refine lv_iload cx.1 cx.2.1 dL_law_325 (lv_at hl 1 rfl) ?_
    refine q_iceq (tgt := 332) cx ⟨by decide, by decide⟩ ⟨by decide, by decide⟩ dL_law_327 (by decide) (fun c51 => ?_) (fun c51 => ?_)
    · refine lv_iload cx.1 cx.2.1 dL_law_332 (lv_at hl 1 rfl) ?_
      refine q_ifne (tgt := 349) cx ⟨by decide, by decide⟩ dL_law_334 (by decide) (fun c52 => ?_) (fun c52 => ?_)
      · refine lv_goto (tgt := 1521) cx.1 cx.2.1 dL_law_349 (by decide) ?_
        refine W.widen (k := cells + 6) (n := slots + 36) (by omega) (by omega) ?_
        exact kk f8 H locs ls xn hB ⟨⟨z13, (Eq.trans z11 (by omega)), by omega, by omega⟩, g45, g46, g47, q_isu z15 (by omega), q_isu z16 (by omega)⟩ (lv_sub hl [2, 3, 4, 5, 6, 7] rfl)
      · exact absurd c52 (by omega)
    · exact absurd c51 (by omega)
  · by_cases c53 : a3 ≤ 600
    · by_cases c54 : (1 * xn + -1 * a3 + 0) ≤ (-1)
      · refine q_cWS (As := [.ref x, .int (q_i a3), .ref out]) (rest := []) cx hX hB (fun q h => hLA q h) (fun q h1 h2 => absurd h1 (Nat.not_le_of_lt h2)) hN (w_truncate_c l g ad hN hB.2.1 hfl x hx kx a3 (by omega) (by omega) out hout kout src hsrc ksrc rdr hrdr krdr scr hscr kscr fc hfc kfc hist hhist khist rep hrep krep now hnow know dr hdr kdr sv hsv ksv tr htr ktr xn (by omega) (by omega) hn0 hr0 hr1 hr2 hr3 hr4 hr5 hr6 hr7 hr8 hr9 (by omega)) q_cL_124 q_dL_truncate ⟨by decide, by show cells + 1 ≤ 601024; omega, by show slots + 6 ≤ 7293034; omega⟩ rfl rfl hl.1 rfl (Nat.le_of_ble_eq_true rfl) dL_law_304 (fun v9 H locs f55 h57 hF hB => ?_)
        obtain ⟨y56, rfl, ry56, h57⟩ := h57
        refine W.eq (g2 := F0 m 307 ls [.int (q_i y56)]) rfl ?_
        obtain ⟨rfl, qy56⟩ := h57
        subst qy56
        refine lv_istore (lv' := [(6, .int (q_i 1)), (5, .int (q_i ii)), (4, .ref outD), (3, .ref out), (2, .ref mo), (1, .ref x), (0, .ref b)]) cx.1 cx.2.1 dL_law_307 hl (by decide) rfl (fun ls hl => ?_)
        refine q_ald_n cx dL_law_309 rfl (lv_at hl 4 rfl) ?_
        refine q_ald_n cx dL_law_310 rfl (lv_at hl 6 rfl) ?_
        refine lv_iload cx.1 cx.2.1 dL_law_311 (lv_at hl 1 rfl) ?_
        refine q_iconst cx dL_law_313 ?_
        refine q_iadd cx dL_law_314 ?_
        refine va_sld cx.1 cx.2.1 hXs hbl hbA hB.1.2.2.2 (q_in (by omega) (by omega) (by omega)) dL_law_315 ?_
        rw [ea3]
        refine q_cVi (As := [.int (q_i a3)]) (rest := []) cx hB (fun q h => hLA q h) hN hmo kmo (by decide) rfl (r_truncate_c l g hN hB.2.1 mo hmo kmo a3 (by omega) (by omega) xn (by omega) (by omega) hn1 (by omega)) q_cL_127 q_dX12_truncate ⟨by decide, by show cells + 1 ≤ 601024; omega, by show slots + 6 ≤ 7293034; omega⟩ rfl rfl hl.1 rfl (Nat.le_of_ble_eq_true rfl) dL_law_316 (fun y59 H locs f58 ry59 h60 hF hB => ?_)
        obtain ⟨qy59, z61, z62⟩ := h60
        have z63 : q_is (q_z f58 src 1) xn := Eq.trans (hF.z hsrc (by rw [ksrc]; rfl)) hn0
        have z64 : q_is (q_z f58 mo 2) xn := Eq.trans (hF.z hmo (by rw [kmo]; rfl)) hn1
        have z65 : q_is (q_z f58 sr 3) x1 := Eq.trans (hF.z hsr (by rw [ksr]; rfl)) ex1
        have z66 : q_is (q_z f58 sr 4) x2 := Eq.trans (hF.z hsr (by rw [ksr]; rfl)) ex2
        have z67 : q_ir (q_r f58 x 0) src := Eq.trans (hF.r hx (by rw [kx]; rfl)) hr0
        have z68 : q_ir (q_r f58 x 1) rdr := Eq.trans (hF.r hx (by rw [kx]; rfl)) hr1
        have z69 : q_ir (q_r f58 x 2) scr := Eq.trans (hF.r hx (by rw [kx]; rfl)) hr2
        have z70 : q_ir (q_r f58 x 3) fc := Eq.trans (hF.r hx (by rw [kx]; rfl)) hr3
        have z71 : q_ir (q_r f58 x 4) hist := Eq.trans (hF.r hx (by rw [kx]; rfl)) hr4
        have z72 : q_ir (q_r f58 x 5) rep := Eq.trans (hF.r hx (by rw [kx]; rfl)) hr5
        have z73 : q_ir (q_r f58 x 6) now := Eq.trans (hF.r hx (by rw [kx]; rfl)) hr6
        have z74 : q_ir (q_r f58 x 7) dr := Eq.trans (hF.r hx (by rw [kx]; rfl)) hr7
        have z75 : q_ir (q_r f58 x 8) sv := Eq.trans (hF.r hx (by rw [kx]; rfl)) hr8
        have z76 : q_ir (q_r f58 fc 0) tr := Eq.trans (hF.r hfc (by rw [kfc]; rfl)) hr9
        have z77 : q_ir (q_r f58 mo 1) bu := Eq.trans (hF.r hmo (by rw [kmo]; rfl)) hr10
        have z78 : q_ir (q_r f58 mo 13) sr := Eq.trans (hF.r hmo (by rw [kmo]; rfl)) hr11
        have z79 : q_ir (q_r f58 mo 14) sd := Eq.trans (hF.r hmo (by rw [kmo]; rfl)) hr12
        have z80 : q_ir (q_r f58 mo 15) as := Eq.trans (hF.r hmo (by rw [kmo]; rfl)) hr13
        have z81 : q_ir (q_r f58 mo 16) aw := Eq.trans (hF.r hmo (by rw [kmo]; rfl)) hr14
        have z82 : q_ir (q_r f58 mo 17) pa := Eq.trans (hF.r hmo (by rw [kmo]; rfl)) hr15
        have z83 : q_ir (q_r f58 mo 18) nm := Eq.trans (hF.r hmo (by rw [kmo]; rfl)) hr16
        have z84 : q_ir (q_r f58 mo 19) snm := Eq.trans (hF.r hmo (by rw [kmo]; rfl)) hr17
        have z85 : q_ir (q_r f58 mo 20) anm := Eq.trans (hF.r hmo (by rw [kmo]; rfl)) hr18
        have z86 : q_ir (q_r f58 mo 24) hp := Eq.trans (hF.r hmo (by rw [kmo]; rfl)) hr19
        have z87 : q_ir (q_r f58 mo 25) dy := Eq.trans (hF.r hmo (by rw [kmo]; rfl)) hr20
        have z88 : q_ir (q_r f58 mo 29) cs := Eq.trans (hF.r hmo (by rw [kmo]; rfl)) hr21
        have z89 : q_ir (q_r f58 mo 30) c1 := Eq.trans (hF.r hmo (by rw [kmo]; rfl)) hr22
        have z90 : q_ir (q_r f58 mo 31) c2 := Eq.trans (hF.r hmo (by rw [kmo]; rfl)) hr23
        have z91 : q_ir (q_r f58 mo 32) c3 := Eq.trans (hF.r hmo (by rw [kmo]; rfl)) hr24
        have z92 : q_ir (q_r f58 mo 33) bg := Eq.trans (hF.r hmo (by rw [kmo]; rfl)) hr25
        have z93 : q_ir (q_r f58 mo 34) lp := Eq.trans (hF.r hmo (by rw [kmo]; rfl)) hr26
        have z94 : q_ir (q_r f58 mo 38) rp := Eq.trans (hF.r hmo (by rw [kmo]; rfl)) hr27
        have g95 : q_gr f58 sr := q_gr_fr hgr (fun i9 _ => hF.z hsr (by rw [ksr]; rfl))
        have g96 : q_pk f58 mo pa := q_pk_tr hpk (hF.z hmo (by rw [kmo]; rfl)) (fun i9 => hF.z hpa (by rw [kpa]; rfl))
        have g97 : q_sv f58 mo sd := q_sv_tr hsd9 (hF.z hmo (by rw [kmo]; rfl)) (fun i9 => hF.z hsd (by rw [ksd]; rfl))
        subst qy59
        refine lv_istore (lv' := [(7, .int (q_i 0)), (6, .int (q_i 1)), (5, .int (q_i ii)), (4, .ref outD), (3, .ref out), (2, .ref mo), (1, .ref x), (0, .ref b)]) cx.1 cx.2.1 dL_law_319 hl (by decide) rfl (fun ls hl => ?_)
        refine q_ald_n cx dL_law_321 rfl (lv_at hl 5 rfl) ?_
        refine q_cVi (As := []) (rest := []) cx hB (fun q h => hLA q h) hN hmo kmo (by decide) rfl (r_thrown l g hN hB.2.1 mo hmo kmo 1 (by decide) (by decide) z62) q_cL_128 q_dX12_thrown ⟨by decide, by show cells + 1 ≤ 601024; omega, by show slots + 6 ≤ 7293034; omega⟩ rfl rfl hl.1 rfl (Nat.le_of_ble_eq_true rfl) dL_law_322 (fun y99 H locs f98 ry99 h100 hF hB => ?_)
        obtain ⟨rfl, qy99⟩ := h100
        subst qy99
        refine lv_iload cx.1 cx.2.1 dL_law_325 (lv_at hl 1 rfl) ?_
        refine q_iceq (tgt := 332) cx ⟨by decide, by decide⟩ ⟨by decide, by decide⟩ dL_law_327 (by decide) (fun c101 => ?_) (fun c101 => ?_)
        · refine lv_iload cx.1 cx.2.1 dL_law_332 (lv_at hl 1 rfl) ?_
          refine q_ifne (tgt := 349) cx ⟨by decide, by decide⟩ dL_law_334 (by decide) (fun c102 => ?_) (fun c102 => ?_)
          · refine lv_goto (tgt := 1521) cx.1 cx.2.1 dL_law_349 (by decide) ?_
            refine W.widen (k := cells + 6) (n := slots + 36) (by omega) (by omega) ?_
            exact kk f58 H locs ls xn hB ⟨⟨z63, (Eq.trans z61 (by omega)), by omega, by omega⟩, g95, g96, g97, q_isu z65 (by omega), q_isu z66 (by omega)⟩ (lv_sub hl [2, 3, 4, 5, 6, 7] rfl)
          · exact absurd c102 (by omega)
        · exact absurd c101 (by omega)
      · refine q_cWS (As := [.ref x, .int (q_i a3), .ref out]) (rest := []) cx hX hB (fun q h => hLA q h) (fun q h1 h2 => absurd h1 (Nat.not_le_of_lt h2)) hN (w_truncate_b l g ad hN hB.2.1 hfl x hx kx a3 (by omega) (by omega) out hout kout src hsrc ksrc rdr hrdr krdr scr hscr kscr fc hfc kfc hist hhist khist rep hrep krep now hnow know dr hdr kdr sv hsv ksv tr htr ktr xn (by omega) (by omega) hn0 hr0 hr1 hr2 hr3 hr4 hr5 hr6 hr7 hr8 hr9 (by omega)) q_cL_124 q_dL_truncate ⟨by decide, by show cells + 0 ≤ 601024; omega, by show slots + 0 ≤ 7293034; omega⟩ rfl rfl hl.1 rfl (Nat.le_of_ble_eq_true rfl) dL_law_304 (fun v9 H locs f103 h105 hF hB => ?_)
        obtain ⟨y104, rfl, ry104, h105⟩ := h105
        refine W.eq (g2 := F0 m 307 ls [.int (q_i y104)]) rfl ?_
        obtain ⟨qy104, z106, z107⟩ := h105
        have z108 : q_is (q_z f103 mo 2) xn := Eq.trans (hF.z hmo (by rw [kmo]; rfl)) hn1
        have z109 : q_is (q_z f103 sr 3) x1 := Eq.trans (hF.z hsr (by rw [ksr]; rfl)) ex1
        have z110 : q_is (q_z f103 sr 4) x2 := Eq.trans (hF.z hsr (by rw [ksr]; rfl)) ex2
        have z111 : q_ir (q_r f103 x 0) src := Eq.trans (hF.r hx (by rw [kx]; rfl)) hr0
        have z112 : q_ir (q_r f103 x 1) rdr := Eq.trans (hF.r hx (by rw [kx]; rfl)) hr1
        have z113 : q_ir (q_r f103 x 2) scr := Eq.trans (hF.r hx (by rw [kx]; rfl)) hr2
        have z114 : q_ir (q_r f103 x 3) fc := Eq.trans (hF.r hx (by rw [kx]; rfl)) hr3
        have z115 : q_ir (q_r f103 x 4) hist := Eq.trans (hF.r hx (by rw [kx]; rfl)) hr4
        have z116 : q_ir (q_r f103 x 5) rep := Eq.trans (hF.r hx (by rw [kx]; rfl)) hr5
        have z117 : q_ir (q_r f103 x 6) now := Eq.trans (hF.r hx (by rw [kx]; rfl)) hr6
        have z118 : q_ir (q_r f103 x 7) dr := Eq.trans (hF.r hx (by rw [kx]; rfl)) hr7
        have z119 : q_ir (q_r f103 x 8) sv := Eq.trans (hF.r hx (by rw [kx]; rfl)) hr8
        have z120 : q_ir (q_r f103 fc 0) tr := Eq.trans (hF.r hfc (by rw [kfc]; rfl)) hr9
        have z121 : q_ir (q_r f103 mo 1) bu := Eq.trans (hF.r hmo (by rw [kmo]; rfl)) hr10
        have z122 : q_ir (q_r f103 mo 13) sr := Eq.trans (hF.r hmo (by rw [kmo]; rfl)) hr11
        have z123 : q_ir (q_r f103 mo 14) sd := Eq.trans (hF.r hmo (by rw [kmo]; rfl)) hr12
        have z124 : q_ir (q_r f103 mo 15) as := Eq.trans (hF.r hmo (by rw [kmo]; rfl)) hr13
        have z125 : q_ir (q_r f103 mo 16) aw := Eq.trans (hF.r hmo (by rw [kmo]; rfl)) hr14
        have z126 : q_ir (q_r f103 mo 17) pa := Eq.trans (hF.r hmo (by rw [kmo]; rfl)) hr15
        have z127 : q_ir (q_r f103 mo 18) nm := Eq.trans (hF.r hmo (by rw [kmo]; rfl)) hr16
        have z128 : q_ir (q_r f103 mo 19) snm := Eq.trans (hF.r hmo (by rw [kmo]; rfl)) hr17
        have z129 : q_ir (q_r f103 mo 20) anm := Eq.trans (hF.r hmo (by rw [kmo]; rfl)) hr18
        have z130 : q_ir (q_r f103 mo 24) hp := Eq.trans (hF.r hmo (by rw [kmo]; rfl)) hr19
        have z131 : q_ir (q_r f103 mo 25) dy := Eq.trans (hF.r hmo (by rw [kmo]; rfl)) hr20
        have z132 : q_ir (q_r f103 mo 29) cs := Eq.trans (hF.r hmo (by rw [kmo]; rfl)) hr21
        have z133 : q_ir (q_r f103 mo 30) c1 := Eq.trans (hF.r hmo (by rw [kmo]; rfl)) hr22
        have z134 : q_ir (q_r f103 mo 31) c2 := Eq.trans (hF.r hmo (by rw [kmo]; rfl)) hr23
        have z135 : q_ir (q_r f103 mo 32) c3 := Eq.trans (hF.r hmo (by rw [kmo]; rfl)) hr24
        have z136 : q_ir (q_r f103 mo 33) bg := Eq.trans (hF.r hmo (by rw [kmo]; rfl)) hr25
        have z137 : q_ir (q_r f103 mo 34) lp := Eq.trans (hF.r hmo (by rw [kmo]; rfl)) hr26
        have z138 : q_ir (q_r f103 mo 38) rp := Eq.trans (hF.r hmo (by rw [kmo]; rfl)) hr27
        have g139 : q_gr f103 sr := q_gr_fr hgr (fun i9 _ => hF.z hsr (by rw [ksr]; rfl))
        have g140 : q_pk f103 mo pa := q_pk_tr hpk (hF.z hmo (by rw [kmo]; rfl)) (fun i9 => hF.z hpa (by rw [kpa]; rfl))
        have g141 : q_sv f103 mo sd := q_sv_tr hsd9 (hF.z hmo (by rw [kmo]; rfl)) (fun i9 => hF.z hsd (by rw [ksd]; rfl))
        subst qy104
        refine lv_istore (lv' := [(6, .int (q_i 0)), (5, .int (q_i ii)), (4, .ref outD), (3, .ref out), (2, .ref mo), (1, .ref x), (0, .ref b)]) cx.1 cx.2.1 dL_law_307 hl (by decide) rfl (fun ls hl => ?_)
        refine q_ald_n cx dL_law_309 rfl (lv_at hl 4 rfl) ?_
        refine q_ald_n cx dL_law_310 rfl (lv_at hl 6 rfl) ?_
        refine lv_iload cx.1 cx.2.1 dL_law_311 (lv_at hl 1 rfl) ?_
        refine q_iconst cx dL_law_313 ?_
        refine q_iadd cx dL_law_314 ?_
        refine va_sld cx.1 cx.2.1 hXs hbl hbA hB.1.2.2.2 (q_in (by omega) (by omega) (by omega)) dL_law_315 ?_
        rw [ea3]
        refine q_cVi (As := [.int (q_i a3)]) (rest := []) cx hB (fun q h => hLA q h) hN hmo kmo (by decide) rfl (r_truncate_b l g hN hB.2.1 mo hmo kmo a3 (by omega) (by omega) xn (by omega) (by omega) z108 (by omega)) q_cL_127 q_dX12_truncate ⟨by decide, by show cells + 0 ≤ 601024; omega, by show slots + 0 ≤ 7293034; omega⟩ rfl rfl hl.1 rfl (Nat.le_of_ble_eq_true rfl) dL_law_316 (fun y143 H locs f142 ry143 h144 hF hB => ?_)
        obtain ⟨qy143, z145, z146⟩ := h144
        have z147 : q_j f142 out 0 = (q_l a3) := (hF.j hout (by rw [kout]; rfl)).trans z106
        have z148 : q_is (q_z f142 sr 3) x1 := Eq.trans (hF.z hsr (by rw [ksr]; rfl)) z109
        have z149 : q_is (q_z f142 sr 4) x2 := Eq.trans (hF.z hsr (by rw [ksr]; rfl)) z110
        have z150 : q_is (q_z f142 src 1) a3 := Eq.trans (hF.z hsrc (by rw [ksrc]; rfl)) z107
        have z151 : q_ir (q_r f142 x 0) src := Eq.trans (hF.r hx (by rw [kx]; rfl)) z111
        have z152 : q_ir (q_r f142 x 1) rdr := Eq.trans (hF.r hx (by rw [kx]; rfl)) z112
        have z153 : q_ir (q_r f142 x 2) scr := Eq.trans (hF.r hx (by rw [kx]; rfl)) z113
        have z154 : q_ir (q_r f142 x 3) fc := Eq.trans (hF.r hx (by rw [kx]; rfl)) z114
        have z155 : q_ir (q_r f142 x 4) hist := Eq.trans (hF.r hx (by rw [kx]; rfl)) z115
        have z156 : q_ir (q_r f142 x 5) rep := Eq.trans (hF.r hx (by rw [kx]; rfl)) z116
        have z157 : q_ir (q_r f142 x 6) now := Eq.trans (hF.r hx (by rw [kx]; rfl)) z117
        have z158 : q_ir (q_r f142 x 7) dr := Eq.trans (hF.r hx (by rw [kx]; rfl)) z118
        have z159 : q_ir (q_r f142 x 8) sv := Eq.trans (hF.r hx (by rw [kx]; rfl)) z119
        have z160 : q_ir (q_r f142 fc 0) tr := Eq.trans (hF.r hfc (by rw [kfc]; rfl)) z120
        have z161 : q_ir (q_r f142 mo 1) bu := Eq.trans (hF.r hmo (by rw [kmo]; rfl)) z121
        have z162 : q_ir (q_r f142 mo 13) sr := Eq.trans (hF.r hmo (by rw [kmo]; rfl)) z122
        have z163 : q_ir (q_r f142 mo 14) sd := Eq.trans (hF.r hmo (by rw [kmo]; rfl)) z123
        have z164 : q_ir (q_r f142 mo 15) as := Eq.trans (hF.r hmo (by rw [kmo]; rfl)) z124
        have z165 : q_ir (q_r f142 mo 16) aw := Eq.trans (hF.r hmo (by rw [kmo]; rfl)) z125
        have z166 : q_ir (q_r f142 mo 17) pa := Eq.trans (hF.r hmo (by rw [kmo]; rfl)) z126
        have z167 : q_ir (q_r f142 mo 18) nm := Eq.trans (hF.r hmo (by rw [kmo]; rfl)) z127
        have z168 : q_ir (q_r f142 mo 19) snm := Eq.trans (hF.r hmo (by rw [kmo]; rfl)) z128
        have z169 : q_ir (q_r f142 mo 20) anm := Eq.trans (hF.r hmo (by rw [kmo]; rfl)) z129
        have z170 : q_ir (q_r f142 mo 24) hp := Eq.trans (hF.r hmo (by rw [kmo]; rfl)) z130
        have z171 : q_ir (q_r f142 mo 25) dy := Eq.trans (hF.r hmo (by rw [kmo]; rfl)) z131
        have z172 : q_ir (q_r f142 mo 29) cs := Eq.trans (hF.r hmo (by rw [kmo]; rfl)) z132
        have z173 : q_ir (q_r f142 mo 30) c1 := Eq.trans (hF.r hmo (by rw [kmo]; rfl)) z133
        have z174 : q_ir (q_r f142 mo 31) c2 := Eq.trans (hF.r hmo (by rw [kmo]; rfl)) z134
        have z175 : q_ir (q_r f142 mo 32) c3 := Eq.trans (hF.r hmo (by rw [kmo]; rfl)) z135
        have z176 : q_ir (q_r f142 mo 33) bg := Eq.trans (hF.r hmo (by rw [kmo]; rfl)) z136
        have z177 : q_ir (q_r f142 mo 34) lp := Eq.trans (hF.r hmo (by rw [kmo]; rfl)) z137
        have z178 : q_ir (q_r f142 mo 38) rp := Eq.trans (hF.r hmo (by rw [kmo]; rfl)) z138
        have g179 : q_gr f142 sr := q_gr_fr g139 (fun i9 _ => hF.z hsr (by rw [ksr]; rfl))
        have g180 : q_pk f142 mo pa := q_pk_tr g140 (hF.z hmo (by rw [kmo]; rfl)) (fun i9 => hF.z hpa (by rw [kpa]; rfl))
        have g181 : q_sv f142 mo sd := q_sv_tr g141 (hF.z hmo (by rw [kmo]; rfl)) (fun i9 => hF.z hsd (by rw [ksd]; rfl))
        refine lv_istore (lv' := [(7, .int (q_i y143)), (6, .int (q_i 0)), (5, .int (q_i ii)), (4, .ref outD), (3, .ref out), (2, .ref mo), (1, .ref x), (0, .ref b)]) cx.1 cx.2.1 dL_law_319 hl (by decide) rfl (fun ls hl => ?_)
        refine q_ald_n cx dL_law_321 rfl (lv_at hl 5 rfl) ?_
        refine q_cVi (As := []) (rest := []) cx hB (fun q h => hLA q h) hN hmo kmo (by decide) rfl (r_thrown l g hN hB.2.1 mo hmo kmo 0 (by decide) (by decide) z146) q_cL_128 q_dX12_thrown ⟨by decide, by show cells + 0 ≤ 601024; omega, by show slots + 0 ≤ 7293034; omega⟩ rfl rfl hl.1 rfl (Nat.le_of_ble_eq_true rfl) dL_law_322 (fun y183 H locs f182 ry183 h184 hF hB => ?_)
        obtain ⟨rfl, qy183⟩ := h184
        subst qy183
        refine lv_iload cx.1 cx.2.1 dL_law_325 (lv_at hl 1 rfl) ?_
        refine q_iceq (tgt := 332) cx ⟨by decide, by decide⟩ ⟨by decide, by decide⟩ dL_law_327 (by decide) (fun c185 => ?_) (fun c185 => ?_)
        · refine lv_iload cx.1 cx.2.1 dL_law_332 (lv_at hl 1 rfl) ?_
          refine q_ifne (tgt := 349) cx ⟨by decide, by decide⟩ dL_law_334 (by decide) (fun c186 => ?_) (fun c186 => ?_)
          · exact absurd c186 (by omega)
          · refine q_ald_n cx dL_law_337 rfl (lv_at hl 4 rfl) ?_
            refine q_iconst cx dL_law_338 ?_
            refine q_lald (n := 1) cx hB hout kout (by decide) rfl rfl (by decide) (by decide) (by decide) rfl z147 dL_law_339 ?_
            refine lv_iload cx.1 cx.2.1 dL_law_340 (lv_at hl 0 rfl) ?_
            refine q_i2l cx ⟨by omega, by omega⟩ dL_law_342 ?_
            refine q_lcmp cx dL_law_343 (fun y187 ly187 uy187 ey187 gy187 hy187 => ?_)
            rw [q_lInt ⟨by omega, by omega⟩, q_lInt ⟨by omega, by omega⟩] at ey187 hy187
            refine q_ifeq (tgt := 349) cx ⟨by omega, by omega⟩ dL_law_344 (by decide) (fun c188 => ?_) (fun c188 => ?_)
            · refine lv_goto (tgt := 1521) cx.1 cx.2.1 dL_law_349 (by decide) ?_
              refine W.widen (k := cells + 6) (n := slots + 36) (by omega) (by omega) ?_
              exact kk f142 H locs ls a3 hB ⟨⟨z150, (Eq.trans z145 (by omega)), by omega, by omega⟩, g179, g180, g181, q_isu z148 (by omega), q_isu z149 (by omega)⟩ (lv_sub hl [2, 3, 4, 5, 6, 7] rfl)
            · exact absurd c188 (by omega)
        · exact absurd c185 (by omega)
    · refine q_cWS (As := [.ref x, .int (q_i a3), .ref out]) (rest := []) cx hX hB (fun q h => hLA q h) (fun q h1 h2 => absurd h1 (Nat.not_le_of_lt h2)) hN (w_truncate_c l g ad hN hB.2.1 hfl x hx kx a3 (by omega) (by omega) out hout kout src hsrc ksrc rdr hrdr krdr scr hscr kscr fc hfc kfc hist hhist khist rep hrep krep now hnow know dr hdr kdr sv hsv ksv tr htr ktr xn (by omega) (by omega) hn0 hr0 hr1 hr2 hr3 hr4 hr5 hr6 hr7 hr8 hr9 (by omega)) q_cL_124 q_dL_truncate ⟨by decide, by show cells + 1 ≤ 601024; omega, by show slots + 6 ≤ 7293034; omega⟩ rfl rfl hl.1 rfl (Nat.le_of_ble_eq_true rfl) dL_law_304 (fun v9 H locs f189 h191 hF hB => ?_)
      obtain ⟨y190, rfl, ry190, h191⟩ := h191
      refine W.eq (g2 := F0 m 307 ls [.int (q_i y190)]) rfl ?_
      obtain ⟨rfl, qy190⟩ := h191
      subst qy190
      refine lv_istore (lv' := [(6, .int (q_i 1)), (5, .int (q_i ii)), (4, .ref outD), (3, .ref out), (2, .ref mo), (1, .ref x), (0, .ref b)]) cx.1 cx.2.1 dL_law_307 hl (by decide) rfl (fun ls hl => ?_)
      refine q_ald_n cx dL_law_309 rfl (lv_at hl 4 rfl) ?_
      refine q_ald_n cx dL_law_310 rfl (lv_at hl 6 rfl) ?_
      refine lv_iload cx.1 cx.2.1 dL_law_311 (lv_at hl 1 rfl) ?_
      refine q_iconst cx dL_law_313 ?_
      refine q_iadd cx dL_law_314 ?_
      refine va_sld cx.1 cx.2.1 hXs hbl hbA hB.1.2.2.2 (q_in (by omega) (by omega) (by omega)) dL_law_315 ?_
      rw [ea3]
      refine q_cVi (As := [.int (q_i a3)]) (rest := []) cx hB (fun q h => hLA q h) hN hmo kmo (by decide) rfl (r_truncate_c l g hN hB.2.1 mo hmo kmo a3 (by omega) (by omega) xn (by omega) (by omega) hn1 (by omega)) q_cL_127 q_dX12_truncate ⟨by decide, by show cells + 1 ≤ 601024; omega, by show slots + 6 ≤ 7293034; omega⟩ rfl rfl hl.1 rfl (Nat.le_of_ble_eq_true rfl) dL_law_316 (fun y193 H locs f192 ry193 h194 hF hB => ?_)
      obtain ⟨qy193, z195, z196⟩ := h194
      have z197 : q_is (q_z f192 src 1) xn := Eq.trans (hF.z hsrc (by rw [ksrc]; rfl)) hn0
      have z198 : q_is (q_z f192 mo 2) xn := Eq.trans (hF.z hmo (by rw [kmo]; rfl)) hn1
      have z199 : q_is (q_z f192 sr 3) x1 := Eq.trans (hF.z hsr (by rw [ksr]; rfl)) ex1
      have z200 : q_is (q_z f192 sr 4) x2 := Eq.trans (hF.z hsr (by rw [ksr]; rfl)) ex2
      have z201 : q_ir (q_r f192 x 0) src := Eq.trans (hF.r hx (by rw [kx]; rfl)) hr0
      have z202 : q_ir (q_r f192 x 1) rdr := Eq.trans (hF.r hx (by rw [kx]; rfl)) hr1
      have z203 : q_ir (q_r f192 x 2) scr := Eq.trans (hF.r hx (by rw [kx]; rfl)) hr2
      have z204 : q_ir (q_r f192 x 3) fc := Eq.trans (hF.r hx (by rw [kx]; rfl)) hr3
      have z205 : q_ir (q_r f192 x 4) hist := Eq.trans (hF.r hx (by rw [kx]; rfl)) hr4
      have z206 : q_ir (q_r f192 x 5) rep := Eq.trans (hF.r hx (by rw [kx]; rfl)) hr5
      have z207 : q_ir (q_r f192 x 6) now := Eq.trans (hF.r hx (by rw [kx]; rfl)) hr6
      have z208 : q_ir (q_r f192 x 7) dr := Eq.trans (hF.r hx (by rw [kx]; rfl)) hr7
      have z209 : q_ir (q_r f192 x 8) sv := Eq.trans (hF.r hx (by rw [kx]; rfl)) hr8
      have z210 : q_ir (q_r f192 fc 0) tr := Eq.trans (hF.r hfc (by rw [kfc]; rfl)) hr9
      have z211 : q_ir (q_r f192 mo 1) bu := Eq.trans (hF.r hmo (by rw [kmo]; rfl)) hr10
      have z212 : q_ir (q_r f192 mo 13) sr := Eq.trans (hF.r hmo (by rw [kmo]; rfl)) hr11
      have z213 : q_ir (q_r f192 mo 14) sd := Eq.trans (hF.r hmo (by rw [kmo]; rfl)) hr12
      have z214 : q_ir (q_r f192 mo 15) as := Eq.trans (hF.r hmo (by rw [kmo]; rfl)) hr13
      have z215 : q_ir (q_r f192 mo 16) aw := Eq.trans (hF.r hmo (by rw [kmo]; rfl)) hr14
      have z216 : q_ir (q_r f192 mo 17) pa := Eq.trans (hF.r hmo (by rw [kmo]; rfl)) hr15
      have z217 : q_ir (q_r f192 mo 18) nm := Eq.trans (hF.r hmo (by rw [kmo]; rfl)) hr16
      have z218 : q_ir (q_r f192 mo 19) snm := Eq.trans (hF.r hmo (by rw [kmo]; rfl)) hr17
      have z219 : q_ir (q_r f192 mo 20) anm := Eq.trans (hF.r hmo (by rw [kmo]; rfl)) hr18
      have z220 : q_ir (q_r f192 mo 24) hp := Eq.trans (hF.r hmo (by rw [kmo]; rfl)) hr19
      have z221 : q_ir (q_r f192 mo 25) dy := Eq.trans (hF.r hmo (by rw [kmo]; rfl)) hr20
      have z222 : q_ir (q_r f192 mo 29) cs := Eq.trans (hF.r hmo (by rw [kmo]; rfl)) hr21
      have z223 : q_ir (q_r f192 mo 30) c1 := Eq.trans (hF.r hmo (by rw [kmo]; rfl)) hr22
      have z224 : q_ir (q_r f192 mo 31) c2 := Eq.trans (hF.r hmo (by rw [kmo]; rfl)) hr23
      have z225 : q_ir (q_r f192 mo 32) c3 := Eq.trans (hF.r hmo (by rw [kmo]; rfl)) hr24
      have z226 : q_ir (q_r f192 mo 33) bg := Eq.trans (hF.r hmo (by rw [kmo]; rfl)) hr25
      have z227 : q_ir (q_r f192 mo 34) lp := Eq.trans (hF.r hmo (by rw [kmo]; rfl)) hr26
      have z228 : q_ir (q_r f192 mo 38) rp := Eq.trans (hF.r hmo (by rw [kmo]; rfl)) hr27
      have g229 : q_gr f192 sr := q_gr_fr hgr (fun i9 _ => hF.z hsr (by rw [ksr]; rfl))
      have g230 : q_pk f192 mo pa := q_pk_tr hpk (hF.z hmo (by rw [kmo]; rfl)) (fun i9 => hF.z hpa (by rw [kpa]; rfl))
      have g231 : q_sv f192 mo sd := q_sv_tr hsd9 (hF.z hmo (by rw [kmo]; rfl)) (fun i9 => hF.z hsd (by rw [ksd]; rfl))
      subst qy193
      refine lv_istore (lv' := [(7, .int (q_i 0)), (6, .int (q_i 1)), (5, .int (q_i ii)), (4, .ref outD), (3, .ref out), (2, .ref mo), (1, .ref x), (0, .ref b)]) cx.1 cx.2.1 dL_law_319 hl (by decide) rfl (fun ls hl => ?_)
      refine q_ald_n cx dL_law_321 rfl (lv_at hl 5 rfl) ?_
      refine q_cVi (As := []) (rest := []) cx hB (fun q h => hLA q h) hN hmo kmo (by decide) rfl (r_thrown l g hN hB.2.1 mo hmo kmo 1 (by decide) (by decide) z196) q_cL_128 q_dX12_thrown ⟨by decide, by show cells + 1 ≤ 601024; omega, by show slots + 6 ≤ 7293034; omega⟩ rfl rfl hl.1 rfl (Nat.le_of_ble_eq_true rfl) dL_law_322 (fun y233 H locs f232 ry233 h234 hF hB => ?_)
      obtain ⟨rfl, qy233⟩ := h234
      subst qy233
      refine lv_iload cx.1 cx.2.1 dL_law_325 (lv_at hl 1 rfl) ?_
      refine q_iceq (tgt := 332) cx ⟨by decide, by decide⟩ ⟨by decide, by decide⟩ dL_law_327 (by decide) (fun c235 => ?_) (fun c235 => ?_)
      · refine lv_iload cx.1 cx.2.1 dL_law_332 (lv_at hl 1 rfl) ?_
        refine q_ifne (tgt := 349) cx ⟨by decide, by decide⟩ dL_law_334 (by decide) (fun c236 => ?_) (fun c236 => ?_)
        · refine lv_goto (tgt := 1521) cx.1 cx.2.1 dL_law_349 (by decide) ?_
          refine W.widen (k := cells + 6) (n := slots + 36) (by omega) (by omega) ?_
          exact kk f192 H locs ls xn hB ⟨⟨z197, (Eq.trans z195 (by omega)), by omega, by omega⟩, g229, g230, g231, q_isu z199 (by omega), q_isu z200 (by omega)⟩ (lv_sub hl [2, 3, 4, 5, 6, 7] rfl)
        · exact absurd c236 (by omega)
      · exact absurd c235 (by omega)
