set_option maxHeartbeats 4000000 in
set_option maxRecDepth 100000 in
theorem law_c1262 {p : Program} {l : Launch} {e : Env} {s : State} {m : MethodId} {below : List Frame} {meth : Method} {c : Code} {b N9 : Nat} {xs : Nat → Int32} (hfl : l.stackTraces = false) (hN9 : N9 ≤ 3072) (C0 : lw_At p s m meth c b N9 xs) (cx : CallFix p m c cL_law 10 s #[Value.ref b] q_al RL) {g : q_G} {ad : Nat → Nat} {K : Nat → Nat} {L : List Nat} (hN : L.Nodup) (hLA : ∀ q, q ∈ L → s.heap.size ≤ q) (hX : q_X ad (fun q => q ∈ L) s) {f0 : Nat → va_E} {x : Nat} (hx : x ∈ L) (kx : K x = 11) {src : Nat} (hsrc : src ∈ L) (ksrc : K src = 8) {rdr : Nat} (hrdr : rdr ∈ L) (krdr : K rdr = 9) {scr : Nat} (hscr : scr ∈ L) (kscr : K scr = 7) {fc : Nat} (hfc : fc ∈ L) (kfc : K fc = 1) {hist : Nat} (hhist : hist ∈ L) (khist : K hist = 2) {rep : Nat} (hrep : rep ∈ L) (krep : K rep = 6) {now : Nat} (hnow : now ∈ L) (know : K now = 10) {dr : Nat} (hdr : dr ∈ L) (kdr : K dr = 13) {sv : Nat} (hsv : sv ∈ L) (ksv : K sv = 14) {tr : Nat} (htr : tr ∈ L) (ktr : K tr = 15) {mo : Nat} (hmo : mo ∈ L) (kmo : K mo = 12) {bu : Nat} (hbu : bu ∈ L) (kbu : K bu = 150) {sr : Nat} (hsr : sr ∈ L) (ksr : K sr = 151) {sd : Nat} (hsd : sd ∈ L) (ksd : K sd = 152) {as : Nat} (has : as ∈ L) (kas : K as = 153) {aw : Nat} (haw : aw ∈ L) (kaw : K aw = 154) {pa : Nat} (hpa : pa ∈ L) (kpa : K pa = 155) {nm : Nat} (hnm : nm ∈ L) (knm : K nm = 156) {snm : Nat} (hsnm : snm ∈ L) (ksnm : K snm = 157) {anm : Nat} (hanm : anm ∈ L) (kanm : K anm = 158) {hp : Nat} (hhp : hp ∈ L) (khp : K hp = 159) {dy : Nat} (hdy : dy ∈ L) (kdy : K dy = 160) {cs : Nat} (hcs : cs ∈ L) (kcs : K cs = 161) {c1 : Nat} (hc1 : c1 ∈ L) (kc1 : K c1 = 162) {c2 : Nat} (hc2 : c2 ∈ L) (kc2 : K c2 = 163) {c3 : Nat} (hc3 : c3 ∈ L) (kc3 : K c3 = 164) {bg : Nat} (hbg : bg ∈ L) (kbg : K bg = 165) {lp : Nat} (hlp : lp ∈ L) (klp : K lp = 166) {rp : Nat} (hrp : rp ∈ L) (krp : K rp = 167) {out : Nat} (hout : out ∈ L) (kout : K out = 168) {outD : Nat} (houtD : outD ∈ L) (koutD : K outD = 169) (hr0 : q_ir (q_r f0 x 0) src) (hr1 : q_ir (q_r f0 x 1) rdr) (hr2 : q_ir (q_r f0 x 2) scr) (hr3 : q_ir (q_r f0 x 3) fc) (hr4 : q_ir (q_r f0 x 4) hist) (hr5 : q_ir (q_r f0 x 5) rep) (hr6 : q_ir (q_r f0 x 6) now) (hr7 : q_ir (q_r f0 x 7) dr) (hr8 : q_ir (q_r f0 x 8) sv) (hr9 : q_ir (q_r f0 fc 0) tr) (hr10 : q_ir (q_r f0 mo 1) bu) (hr11 : q_ir (q_r f0 mo 13) sr) (hr12 : q_ir (q_r f0 mo 14) sd) (hr13 : q_ir (q_r f0 mo 15) as) (hr14 : q_ir (q_r f0 mo 16) aw) (hr15 : q_ir (q_r f0 mo 17) pa) (hr16 : q_ir (q_r f0 mo 18) nm) (hr17 : q_ir (q_r f0 mo 19) snm) (hr18 : q_ir (q_r f0 mo 20) anm) (hr19 : q_ir (q_r f0 mo 24) hp) (hr20 : q_ir (q_r f0 mo 25) dy) (hr21 : q_ir (q_r f0 mo 29) cs) (hr22 : q_ir (q_r f0 mo 30) c1) (hr23 : q_ir (q_r f0 mo 31) c2) (hr24 : q_ir (q_r f0 mo 32) c3) (hr25 : q_ir (q_r f0 mo 33) bg) (hr26 : q_ir (q_r f0 mo 34) lp) (hr27 : q_ir (q_r f0 mo 38) rp) {f : Nat → va_E} {H : Heap} {locs : List Loc} {ls : Array Slot} {cells slots : Nat} {ii xn : Int} (hB : q_B g K L (fun q => s.heap.size ≤ q) [(0, 0, 6), (2, 1, 2), (3, 0, 4), (4, 0, 7), (5, 0, 9), (6, 1, 1), (7, 1, 4), (8, 1, 9), (9, 0, 2), (10, 3, 15), (11, 9, 9), (12, 0, 0), (12, 2, 12), (12, 21, 23), (12, 26, 28), (12, 35, 37), (12, 39, 40), (13, 3, 15), (14, 3, 15), (15, 3, 15), (16, 3, 15), (17, 0, 9), (18, 0, 9), (19, 0, 9), (20, 0, 9), (21, 0, 4), (22, 0, 4), (23, 0, 4), (24, 0, 4), (25, 0, 7), (26, 0, 7), (27, 0, 7), (28, 0, 7), (142, 0, 599), (143, 0, 599), (150, 0, 599), (151, 0, 657), (152, 0, 657), (153, 0, 657), (154, 0, 657), (155, 0, 3947), (156, 0, 9), (157, 0, 9), (158, 0, 9), (159, 0, 9), (160, 0, 9), (161, 0, 59), (162, 0, 58), (163, 0, 58), (164, 0, 58), (165, 0, 1), (166, 0, 1), (167, 0, 479), (168, 0, 0), (169, 0, 0)] f0 f s H locs) (hI : q_Inv f src mo sr pa sd xn) (hl : lv_has ls 10 [(5, .int (q_i ii)), (4, .ref outD), (3, .ref out), (2, .ref mo), (1, .ref x), (0, .ref b)]) (hi0 : 0 ≤ ii) (hi6 : ii + 6 ≤ N9) (hce : cells + 6 ≤ 10000) (hse : slots + 36 ≤ 100000) (kk : ∀ (f1 : Nat → va_E) (H1 : Heap) (locs1 : List Loc) (ls1 : Array Slot) (xn1 : Int), q_B g K L (fun q => s.heap.size ≤ q) [(0, 0, 6), (2, 1, 2), (3, 0, 4), (4, 0, 7), (5, 0, 9), (6, 1, 1), (7, 1, 4), (8, 1, 9), (9, 0, 2), (10, 3, 15), (11, 9, 9), (12, 0, 0), (12, 2, 12), (12, 21, 23), (12, 26, 28), (12, 35, 37), (12, 39, 40), (13, 3, 15), (14, 3, 15), (15, 3, 15), (16, 3, 15), (17, 0, 9), (18, 0, 9), (19, 0, 9), (20, 0, 9), (21, 0, 4), (22, 0, 4), (23, 0, 4), (24, 0, 4), (25, 0, 7), (26, 0, 7), (27, 0, 7), (28, 0, 7), (142, 0, 599), (143, 0, 599), (150, 0, 599), (151, 0, 657), (152, 0, 657), (153, 0, 657), (154, 0, 657), (155, 0, 3947), (156, 0, 9), (157, 0, 9), (158, 0, 9), (159, 0, 9), (160, 0, 9), (161, 0, 59), (162, 0, 58), (163, 0, 58), (164, 0, 58), (165, 0, 1), (166, 0, 1), (167, 0, 479), (168, 0, 0), (169, 0, 0)] f0 f1 s H1 locs1 → q_Inv f1 src mo sr pa sd xn1 → lv_has ls1 10 [(5, .int (q_i ii)), (4, .ref outD), (3, .ref out), (2, .ref mo), (1, .ref x), (0, .ref b)] → W p l e room_1 s m #[Value.ref b] below meth c H1 locs1 (cells + 6) (slots + 36) (lw_Z below #[Value.ref b] s) (F0 m 1521 ls1 [])) : W p l e room_1 s m #[Value.ref b] below meth c H locs (cells) (slots) (lw_Z below #[Value.ref b] s) (F0 m 1262 ls []) := by
  have hXs := C0.2.2.2.2.2.2.1
  have hbl := C0.2.2.2.2.2.2.2.1
  have hbA := q_bA hbl
  obtain ⟨⟨hn0, hn1, lxn, uxn⟩, hgr, hpk, hsd9, ht3, ht4⟩ := hI
  have hr0 : q_ir (q_r f x 0) src := Eq.trans (hB.2.2.r hx (by rw [kx]; rfl)) hr0
  have hr1 : q_ir (q_r f x 1) rdr := Eq.trans (hB.2.2.r hx (by rw [kx]; rfl)) hr1
  have hr2 : q_ir (q_r f x 2) scr := Eq.trans (hB.2.2.r hx (by rw [kx]; rfl)) hr2
  have hr3 : q_ir (q_r f x 3) fc := Eq.trans (hB.2.2.r hx (by rw [kx]; rfl)) hr3
  have hr4 : q_ir (q_r f x 4) hist := Eq.trans (hB.2.2.r hx (by rw [kx]; rfl)) hr4
  have hr5 : q_ir (q_r f x 5) rep := Eq.trans (hB.2.2.r hx (by rw [kx]; rfl)) hr5
  have hr6 : q_ir (q_r f x 6) now := Eq.trans (hB.2.2.r hx (by rw [kx]; rfl)) hr6
  have hr7 : q_ir (q_r f x 7) dr := Eq.trans (hB.2.2.r hx (by rw [kx]; rfl)) hr7
  have hr8 : q_ir (q_r f x 8) sv := Eq.trans (hB.2.2.r hx (by rw [kx]; rfl)) hr8
  have hr9 : q_ir (q_r f fc 0) tr := Eq.trans (hB.2.2.r hfc (by rw [kfc]; rfl)) hr9
  have hr10 : q_ir (q_r f mo 1) bu := Eq.trans (hB.2.2.r hmo (by rw [kmo]; rfl)) hr10
  have hr11 : q_ir (q_r f mo 13) sr := Eq.trans (hB.2.2.r hmo (by rw [kmo]; rfl)) hr11
  have hr12 : q_ir (q_r f mo 14) sd := Eq.trans (hB.2.2.r hmo (by rw [kmo]; rfl)) hr12
  have hr13 : q_ir (q_r f mo 15) as := Eq.trans (hB.2.2.r hmo (by rw [kmo]; rfl)) hr13
  have hr14 : q_ir (q_r f mo 16) aw := Eq.trans (hB.2.2.r hmo (by rw [kmo]; rfl)) hr14
  have hr15 : q_ir (q_r f mo 17) pa := Eq.trans (hB.2.2.r hmo (by rw [kmo]; rfl)) hr15
  have hr16 : q_ir (q_r f mo 18) nm := Eq.trans (hB.2.2.r hmo (by rw [kmo]; rfl)) hr16
  have hr17 : q_ir (q_r f mo 19) snm := Eq.trans (hB.2.2.r hmo (by rw [kmo]; rfl)) hr17
  have hr18 : q_ir (q_r f mo 20) anm := Eq.trans (hB.2.2.r hmo (by rw [kmo]; rfl)) hr18
  have hr19 : q_ir (q_r f mo 24) hp := Eq.trans (hB.2.2.r hmo (by rw [kmo]; rfl)) hr19
  have hr20 : q_ir (q_r f mo 25) dy := Eq.trans (hB.2.2.r hmo (by rw [kmo]; rfl)) hr20
  have hr21 : q_ir (q_r f mo 29) cs := Eq.trans (hB.2.2.r hmo (by rw [kmo]; rfl)) hr21
  have hr22 : q_ir (q_r f mo 30) c1 := Eq.trans (hB.2.2.r hmo (by rw [kmo]; rfl)) hr22
  have hr23 : q_ir (q_r f mo 31) c2 := Eq.trans (hB.2.2.r hmo (by rw [kmo]; rfl)) hr23
  have hr24 : q_ir (q_r f mo 32) c3 := Eq.trans (hB.2.2.r hmo (by rw [kmo]; rfl)) hr24
  have hr25 : q_ir (q_r f mo 33) bg := Eq.trans (hB.2.2.r hmo (by rw [kmo]; rfl)) hr25
  have hr26 : q_ir (q_r f mo 34) lp := Eq.trans (hB.2.2.r hmo (by rw [kmo]; rfl)) hr26
  have hr27 : q_ir (q_r f mo 38) rp := Eq.trans (hB.2.2.r hmo (by rw [kmo]; rfl)) hr27
  obtain ⟨x1, ex1⟩ : ∃ zz, q_is (q_z f sr 3) zz := ⟨_, q_isr _⟩
  obtain ⟨lx1, ux1⟩ : 0 ≤ x1 ∧ x1 ≤ 9999 := q_isb ex1 ⟨(hgr 3 (by decide)).1, ht3⟩
  obtain ⟨x2, ex2⟩ : ∃ zz, q_is (q_z f sr 4) zz := ⟨_, q_isr _⟩
  obtain ⟨lx2, ux2⟩ : 0 ≤ x2 ∧ x2 ≤ 60 := q_isb ex2 ⟨(hgr 4 (by decide)).1, ht4⟩
  refine q_ald_n cx dL_law_1262 rfl (lv_at hl 4 rfl) ?_
  refine q_ald_n cx dL_law_1263 rfl (lv_at hl 5 rfl) ?_
  refine lv_iload cx.1 cx.2.1 dL_law_1264 (lv_at hl 0 rfl) ?_
  refine q_iconst cx dL_law_1266 ?_
  refine q_iadd cx dL_law_1267 ?_
  refine va_sld cx.1 cx.2.1 hXs hbl hbA hB.1.2.2.2 (q_in (by omega) (by omega) (by omega)) dL_law_1268 ?_
  obtain ⟨a3, ra3, ea3⟩ : ∃ z : Int, q_R z ∧ xs (q_i (ii + 1)).toNatClampNeg = q_i z := ⟨_, q_rng _, (q_of _).symm⟩
  rw [ea3]
  refine q_ald_n cx dL_law_1269 rfl (lv_at hl 5 rfl) ?_
  refine lv_iload cx.1 cx.2.1 dL_law_1270 (lv_at hl 0 rfl) ?_
  refine q_iconst cx dL_law_1272 ?_
  refine q_iadd cx dL_law_1273 ?_
  refine va_sld cx.1 cx.2.1 hXs hbl hbA hB.1.2.2.2 (q_in (by omega) (by omega) (by omega)) dL_law_1274 ?_
  obtain ⟨a4, ra4, ea4⟩ : ∃ z : Int, q_R z ∧ xs (q_i (ii + 2)).toNatClampNeg = q_i z := ⟨_, q_rng _, (q_of _).symm⟩
  rw [ea4]
  refine q_ald_n cx dL_law_1275 rfl (lv_at hl 5 rfl) ?_
  refine lv_iload cx.1 cx.2.1 dL_law_1276 (lv_at hl 0 rfl) ?_
  refine q_iconst cx dL_law_1278 ?_
  refine q_iadd cx dL_law_1279 ?_
  refine va_sld cx.1 cx.2.1 hXs hbl hbA hB.1.2.2.2 (q_in (by omega) (by omega) (by omega)) dL_law_1280 ?_
  obtain ⟨a5, ra5, ea5⟩ : ∃ z : Int, q_R z ∧ xs (q_i (ii + 3)).toNatClampNeg = q_i z := ⟨_, q_rng _, (q_of _).symm⟩
  rw [ea5]
  refine q_ifeq (tgt := 1288) cx ⟨by omega, by omega⟩ dL_law_1281 (by decide) (fun c6 => ?_) (fun c6 => ?_)
  · refine q_iconst cx dL_law_1288 ?_
    refine q_ald_n cx dL_law_1289 rfl (lv_at hl 2 rfl) ?_
    refine q_cWS (As := [.ref x, .int (q_i a3), .int (q_i a4), .int (q_i 0), .ref out]) (rest := []) cx hX hB (fun q h => hLA q h) (fun q h1 h2 => absurd h1 (Nat.not_le_of_lt h2)) hN (w_watch l g ad hN hB.2.1 hfl x hx kx a3 (by omega) (by omega) a4 (by omega) (by omega) 0 (by decide) (by decide) out hout kout src hsrc ksrc rdr hrdr krdr scr hscr kscr fc hfc kfc hist hhist khist rep hrep krep now hnow know dr hdr kdr sv hsv ksv tr htr ktr hr0 hr1 hr2 hr3 hr4 hr5 hr6 hr7 hr8 hr9) q_cL_231 q_dL_watch ⟨by decide, by show cells + 2 ≤ 601024; omega, by show slots + 12 ≤ 7293034; omega⟩ rfl rfl hl.1 rfl (Nat.le_of_ble_eq_true rfl) dL_law_1290 (fun v9 H locs f7 h9 hF hB => ?_)
    obtain ⟨y8, rfl, ry8, h9⟩ := h9
    refine W.eq (g2 := F0 m 1293 ls [.int (q_i y8)]) rfl ?_
    obtain ⟨ly8, uy8⟩ := h9
    have z10 : q_is (q_z f7 src 1) xn := Eq.trans (hF.z hsrc (by rw [ksrc]; rfl)) hn0
    have z11 : q_is (q_z f7 mo 2) xn := Eq.trans (hF.z hmo (by rw [kmo]; rfl)) hn1
    have z12 : q_is (q_z f7 sr 3) x1 := Eq.trans (hF.z hsr (by rw [ksr]; rfl)) ex1
    have z13 : q_is (q_z f7 sr 4) x2 := Eq.trans (hF.z hsr (by rw [ksr]; rfl)) ex2
    have z14 : q_ir (q_r f7 x 0) src := Eq.trans (hF.r hx (by rw [kx]; rfl)) hr0
    have z15 : q_ir (q_r f7 x 1) rdr := Eq.trans (hF.r hx (by rw [kx]; rfl)) hr1
    have z16 : q_ir (q_r f7 x 2) scr := Eq.trans (hF.r hx (by rw [kx]; rfl)) hr2
    have z17 : q_ir (q_r f7 x 3) fc := Eq.trans (hF.r hx (by rw [kx]; rfl)) hr3
    have z18 : q_ir (q_r f7 x 4) hist := Eq.trans (hF.r hx (by rw [kx]; rfl)) hr4
    have z19 : q_ir (q_r f7 x 5) rep := Eq.trans (hF.r hx (by rw [kx]; rfl)) hr5
    have z20 : q_ir (q_r f7 x 6) now := Eq.trans (hF.r hx (by rw [kx]; rfl)) hr6
    have z21 : q_ir (q_r f7 x 7) dr := Eq.trans (hF.r hx (by rw [kx]; rfl)) hr7
    have z22 : q_ir (q_r f7 x 8) sv := Eq.trans (hF.r hx (by rw [kx]; rfl)) hr8
    have z23 : q_ir (q_r f7 fc 0) tr := Eq.trans (hF.r hfc (by rw [kfc]; rfl)) hr9
    have z24 : q_ir (q_r f7 mo 1) bu := Eq.trans (hF.r hmo (by rw [kmo]; rfl)) hr10
    have z25 : q_ir (q_r f7 mo 13) sr := Eq.trans (hF.r hmo (by rw [kmo]; rfl)) hr11
    have z26 : q_ir (q_r f7 mo 14) sd := Eq.trans (hF.r hmo (by rw [kmo]; rfl)) hr12
    have z27 : q_ir (q_r f7 mo 15) as := Eq.trans (hF.r hmo (by rw [kmo]; rfl)) hr13
    have z28 : q_ir (q_r f7 mo 16) aw := Eq.trans (hF.r hmo (by rw [kmo]; rfl)) hr14
    have z29 : q_ir (q_r f7 mo 17) pa := Eq.trans (hF.r hmo (by rw [kmo]; rfl)) hr15
    have z30 : q_ir (q_r f7 mo 18) nm := Eq.trans (hF.r hmo (by rw [kmo]; rfl)) hr16
    have z31 : q_ir (q_r f7 mo 19) snm := Eq.trans (hF.r hmo (by rw [kmo]; rfl)) hr17
    have z32 : q_ir (q_r f7 mo 20) anm := Eq.trans (hF.r hmo (by rw [kmo]; rfl)) hr18
    have z33 : q_ir (q_r f7 mo 24) hp := Eq.trans (hF.r hmo (by rw [kmo]; rfl)) hr19
    have z34 : q_ir (q_r f7 mo 25) dy := Eq.trans (hF.r hmo (by rw [kmo]; rfl)) hr20
    have z35 : q_ir (q_r f7 mo 29) cs := Eq.trans (hF.r hmo (by rw [kmo]; rfl)) hr21
    have z36 : q_ir (q_r f7 mo 30) c1 := Eq.trans (hF.r hmo (by rw [kmo]; rfl)) hr22
    have z37 : q_ir (q_r f7 mo 31) c2 := Eq.trans (hF.r hmo (by rw [kmo]; rfl)) hr23
    have z38 : q_ir (q_r f7 mo 32) c3 := Eq.trans (hF.r hmo (by rw [kmo]; rfl)) hr24
    have z39 : q_ir (q_r f7 mo 33) bg := Eq.trans (hF.r hmo (by rw [kmo]; rfl)) hr25
    have z40 : q_ir (q_r f7 mo 34) lp := Eq.trans (hF.r hmo (by rw [kmo]; rfl)) hr26
    have z41 : q_ir (q_r f7 mo 38) rp := Eq.trans (hF.r hmo (by rw [kmo]; rfl)) hr27
    have g42 : q_gr f7 sr := q_gr_fr hgr (fun i9 _ => hF.z hsr (by rw [ksr]; rfl))
    have g43 : q_pk f7 mo pa := q_pk_tr hpk (hF.z hmo (by rw [kmo]; rfl)) (fun i9 => hF.z hpa (by rw [kpa]; rfl))
    have g44 : q_sv f7 mo sd := q_sv_tr hsd9 (hF.z hmo (by rw [kmo]; rfl)) (fun i9 => hF.z hsd (by rw [ksd]; rfl))
    refine lv_istore (lv' := [(6, .int (q_i y8)), (5, .int (q_i ii)), (4, .ref outD), (3, .ref out), (2, .ref mo), (1, .ref x), (0, .ref b)]) cx.1 cx.2.1 dL_law_1293 hl (by decide) rfl (fun ls hl => ?_)
    refine q_ald_n cx dL_law_1295 rfl (lv_at hl 4 rfl) ?_
    refine q_ald_n cx dL_law_1296 rfl (lv_at hl 6 rfl) ?_
    refine lv_iload cx.1 cx.2.1 dL_law_1297 (lv_at hl 1 rfl) ?_
    refine q_iconst cx dL_law_1299 ?_
    refine q_iadd cx dL_law_1300 ?_
    refine va_sld cx.1 cx.2.1 hXs hbl hbA hB.1.2.2.2 (q_in (by omega) (by omega) (by omega)) dL_law_1301 ?_
    rw [ea3]
    refine q_ald_n cx dL_law_1302 rfl (lv_at hl 6 rfl) ?_
    refine lv_iload cx.1 cx.2.1 dL_law_1303 (lv_at hl 1 rfl) ?_
    refine q_iconst cx dL_law_1305 ?_
    refine q_iadd cx dL_law_1306 ?_
    refine va_sld cx.1 cx.2.1 hXs hbl hbA hB.1.2.2.2 (q_in (by omega) (by omega) (by omega)) dL_law_1307 ?_
    rw [ea4]
    refine q_ald_n cx dL_law_1308 rfl (lv_at hl 6 rfl) ?_
    refine lv_iload cx.1 cx.2.1 dL_law_1309 (lv_at hl 1 rfl) ?_
    refine q_iconst cx dL_law_1311 ?_
    refine q_iadd cx dL_law_1312 ?_
    refine va_sld cx.1 cx.2.1 hXs hbl hbA hB.1.2.2.2 (q_in (by omega) (by omega) (by omega)) dL_law_1313 ?_
    rw [ea5]
    refine q_ifeq (tgt := 1321) cx ⟨by omega, by omega⟩ dL_law_1314 (by decide) (fun c45 => ?_) (fun c45 => ?_)
    · refine q_iconst cx dL_law_1321 ?_
      refine q_cVi (As := [.int (q_i a3), .int (q_i a4), .int (q_i 0)]) (rest := []) cx hB (fun q h => hLA q h) hN hmo kmo (by decide) rfl (r_watch l g hN hB.2.1 mo hmo kmo a3 (by omega) (by omega) a4 (by omega) (by omega) 0 (by decide) (by decide) sr hsr ksr as has kas pa hpa kpa x1 (by omega) (by omega) x2 (by omega) (by omega) z12 z13 z25 z27 z29 g42 g43) q_cL_233 q_dX12_watch ⟨by decide, by show cells + 2 ≤ 601024; omega, by show slots + 12 ≤ 7293034; omega⟩ rfl rfl hl.1 rfl (Nat.le_of_ble_eq_true rfl) dL_law_1322 (fun y47 H locs f46 ry47 h48 hF hB => ?_)
      obtain ⟨ly47, uy47, lz49, uz49, lz50, uz50, g51, g52⟩ := h48
      have z53 : q_is (q_z f46 src 1) xn := Eq.trans (hF.z hsrc (by rw [ksrc]; rfl)) z10
      have z54 : q_is (q_z f46 mo 2) xn := Eq.trans (hF.z hmo (by rw [kmo]; rfl)) z11
      have z55 : q_is (q_z f46 sr 3) x1 := Eq.trans (hF.z hsr (by rw [ksr]; rfl)) z12
      have z56 : q_is (q_z f46 sr 4) x2 := Eq.trans (hF.z hsr (by rw [ksr]; rfl)) z13
      have z57 : q_ir (q_r f46 x 0) src := Eq.trans (hF.r hx (by rw [kx]; rfl)) z14
      have z58 : q_ir (q_r f46 x 1) rdr := Eq.trans (hF.r hx (by rw [kx]; rfl)) z15
      have z59 : q_ir (q_r f46 x 2) scr := Eq.trans (hF.r hx (by rw [kx]; rfl)) z16
      have z60 : q_ir (q_r f46 x 3) fc := Eq.trans (hF.r hx (by rw [kx]; rfl)) z17
      have z61 : q_ir (q_r f46 x 4) hist := Eq.trans (hF.r hx (by rw [kx]; rfl)) z18
      have z62 : q_ir (q_r f46 x 5) rep := Eq.trans (hF.r hx (by rw [kx]; rfl)) z19
      have z63 : q_ir (q_r f46 x 6) now := Eq.trans (hF.r hx (by rw [kx]; rfl)) z20
      have z64 : q_ir (q_r f46 x 7) dr := Eq.trans (hF.r hx (by rw [kx]; rfl)) z21
      have z65 : q_ir (q_r f46 x 8) sv := Eq.trans (hF.r hx (by rw [kx]; rfl)) z22
      have z66 : q_ir (q_r f46 fc 0) tr := Eq.trans (hF.r hfc (by rw [kfc]; rfl)) z23
      have z67 : q_ir (q_r f46 mo 1) bu := Eq.trans (hF.r hmo (by rw [kmo]; rfl)) z24
      have z68 : q_ir (q_r f46 mo 13) sr := Eq.trans (hF.r hmo (by rw [kmo]; rfl)) z25
      have z69 : q_ir (q_r f46 mo 14) sd := Eq.trans (hF.r hmo (by rw [kmo]; rfl)) z26
      have z70 : q_ir (q_r f46 mo 15) as := Eq.trans (hF.r hmo (by rw [kmo]; rfl)) z27
      have z71 : q_ir (q_r f46 mo 16) aw := Eq.trans (hF.r hmo (by rw [kmo]; rfl)) z28
      have z72 : q_ir (q_r f46 mo 17) pa := Eq.trans (hF.r hmo (by rw [kmo]; rfl)) z29
      have z73 : q_ir (q_r f46 mo 18) nm := Eq.trans (hF.r hmo (by rw [kmo]; rfl)) z30
      have z74 : q_ir (q_r f46 mo 19) snm := Eq.trans (hF.r hmo (by rw [kmo]; rfl)) z31
      have z75 : q_ir (q_r f46 mo 20) anm := Eq.trans (hF.r hmo (by rw [kmo]; rfl)) z32
      have z76 : q_ir (q_r f46 mo 24) hp := Eq.trans (hF.r hmo (by rw [kmo]; rfl)) z33
      have z77 : q_ir (q_r f46 mo 25) dy := Eq.trans (hF.r hmo (by rw [kmo]; rfl)) z34
      have z78 : q_ir (q_r f46 mo 29) cs := Eq.trans (hF.r hmo (by rw [kmo]; rfl)) z35
      have z79 : q_ir (q_r f46 mo 30) c1 := Eq.trans (hF.r hmo (by rw [kmo]; rfl)) z36
      have z80 : q_ir (q_r f46 mo 31) c2 := Eq.trans (hF.r hmo (by rw [kmo]; rfl)) z37
      have z81 : q_ir (q_r f46 mo 32) c3 := Eq.trans (hF.r hmo (by rw [kmo]; rfl)) z38
      have z82 : q_ir (q_r f46 mo 33) bg := Eq.trans (hF.r hmo (by rw [kmo]; rfl)) z39
      have z83 : q_ir (q_r f46 mo 34) lp := Eq.trans (hF.r hmo (by rw [kmo]; rfl)) z40
      have z84 : q_ir (q_r f46 mo 38) rp := Eq.trans (hF.r hmo (by rw [kmo]; rfl)) z41
      have g85 : q_sv f46 mo sd := q_sv_tr g44 (hF.z hmo (by rw [kmo]; rfl)) (fun i9 => hF.z hsd (by rw [ksd]; rfl))
      obtain ⟨x86, ex86⟩ : ∃ zz, q_is (q_z f46 sr 3) zz := ⟨_, q_isr _⟩
      obtain ⟨lx86, ux86⟩ := q_isb ex86 ⟨lz49, uz49⟩
      obtain ⟨x87, ex87⟩ : ∃ zz, q_is (q_z f46 sr 4) zz := ⟨_, q_isr _⟩
      obtain ⟨lx87, ux87⟩ := q_isb ex87 ⟨lz50, uz50⟩
      refine lv_istore (lv' := [(7, .int (q_i y47)), (6, .int (q_i y8)), (5, .int (q_i ii)), (4, .ref outD), (3, .ref out), (2, .ref mo), (1, .ref x), (0, .ref b)]) cx.1 cx.2.1 dL_law_1325 hl (by decide) rfl (fun ls hl => ?_)
      refine lv_goto (tgt := 1521) cx.1 cx.2.1 dL_law_1327 (by decide) ?_
      refine W.widen (k := cells + 6) (n := slots + 36) (by omega) (by omega) ?_
      exact kk f46 H locs ls xn hB ⟨⟨z53, (Eq.trans z54 (by omega)), by omega, by omega⟩, g51, g52, g85, q_isu ex86 (by omega), q_isu ex87 (by omega)⟩ (lv_sub hl [2, 3, 4, 5, 6, 7] rfl)
    · exact absurd c45 (by omega)
  · refine q_iconst cx dL_law_1284 ?_
    refine lv_goto (tgt := 1289) cx.1 cx.2.1 dL_law_1285 (by decide) ?_
    refine q_ald_n cx dL_law_1289 rfl (lv_at hl 2 rfl) ?_
    refine q_cWS (As := [.ref x, .int (q_i a3), .int (q_i a4), .int (q_i 1), .ref out]) (rest := []) cx hX hB (fun q h => hLA q h) (fun q h1 h2 => absurd h1 (Nat.not_le_of_lt h2)) hN (w_watch l g ad hN hB.2.1 hfl x hx kx a3 (by omega) (by omega) a4 (by omega) (by omega) 1 (by decide) (by decide) out hout kout src hsrc ksrc rdr hrdr krdr scr hscr kscr fc hfc kfc hist hhist khist rep hrep krep now hnow know dr hdr kdr sv hsv ksv tr htr ktr hr0 hr1 hr2 hr3 hr4 hr5 hr6 hr7 hr8 hr9) q_cL_231 q_dL_watch ⟨by decide, by show cells + 2 ≤ 601024; omega, by show slots + 12 ≤ 7293034; omega⟩ rfl rfl hl.1 rfl (Nat.le_of_ble_eq_true rfl) dL_law_1290 (fun v9 H locs f88 h90 hF hB => ?_)
    obtain ⟨y89, rfl, ry89, h90⟩ := h90
    refine W.eq (g2 := F0 m 1293 ls [.int (q_i y89)]) rfl ?_
    obtain ⟨ly89, uy89⟩ := h90
    have z91 : q_is (q_z f88 src 1) xn := Eq.trans (hF.z hsrc (by rw [ksrc]; rfl)) hn0
    have z92 : q_is (q_z f88 mo 2) xn := Eq.trans (hF.z hmo (by rw [kmo]; rfl)) hn1
    have z93 : q_is (q_z f88 sr 3) x1 := Eq.trans (hF.z hsr (by rw [ksr]; rfl)) ex1
    have z94 : q_is (q_z f88 sr 4) x2 := Eq.trans (hF.z hsr (by rw [ksr]; rfl)) ex2
    have z95 : q_ir (q_r f88 x 0) src := Eq.trans (hF.r hx (by rw [kx]; rfl)) hr0
    have z96 : q_ir (q_r f88 x 1) rdr := Eq.trans (hF.r hx (by rw [kx]; rfl)) hr1
    have z97 : q_ir (q_r f88 x 2) scr := Eq.trans (hF.r hx (by rw [kx]; rfl)) hr2
    have z98 : q_ir (q_r f88 x 3) fc := Eq.trans (hF.r hx (by rw [kx]; rfl)) hr3
    have z99 : q_ir (q_r f88 x 4) hist := Eq.trans (hF.r hx (by rw [kx]; rfl)) hr4
    have z100 : q_ir (q_r f88 x 5) rep := Eq.trans (hF.r hx (by rw [kx]; rfl)) hr5
    have z101 : q_ir (q_r f88 x 6) now := Eq.trans (hF.r hx (by rw [kx]; rfl)) hr6
    have z102 : q_ir (q_r f88 x 7) dr := Eq.trans (hF.r hx (by rw [kx]; rfl)) hr7
    have z103 : q_ir (q_r f88 x 8) sv := Eq.trans (hF.r hx (by rw [kx]; rfl)) hr8
    have z104 : q_ir (q_r f88 fc 0) tr := Eq.trans (hF.r hfc (by rw [kfc]; rfl)) hr9
    have z105 : q_ir (q_r f88 mo 1) bu := Eq.trans (hF.r hmo (by rw [kmo]; rfl)) hr10
    have z106 : q_ir (q_r f88 mo 13) sr := Eq.trans (hF.r hmo (by rw [kmo]; rfl)) hr11
    have z107 : q_ir (q_r f88 mo 14) sd := Eq.trans (hF.r hmo (by rw [kmo]; rfl)) hr12
    have z108 : q_ir (q_r f88 mo 15) as := Eq.trans (hF.r hmo (by rw [kmo]; rfl)) hr13
    have z109 : q_ir (q_r f88 mo 16) aw := Eq.trans (hF.r hmo (by rw [kmo]; rfl)) hr14
    have z110 : q_ir (q_r f88 mo 17) pa := Eq.trans (hF.r hmo (by rw [kmo]; rfl)) hr15
    have z111 : q_ir (q_r f88 mo 18) nm := Eq.trans (hF.r hmo (by rw [kmo]; rfl)) hr16
    have z112 : q_ir (q_r f88 mo 19) snm := Eq.trans (hF.r hmo (by rw [kmo]; rfl)) hr17
    have z113 : q_ir (q_r f88 mo 20) anm := Eq.trans (hF.r hmo (by rw [kmo]; rfl)) hr18
    have z114 : q_ir (q_r f88 mo 24) hp := Eq.trans (hF.r hmo (by rw [kmo]; rfl)) hr19
    have z115 : q_ir (q_r f88 mo 25) dy := Eq.trans (hF.r hmo (by rw [kmo]; rfl)) hr20
    have z116 : q_ir (q_r f88 mo 29) cs := Eq.trans (hF.r hmo (by rw [kmo]; rfl)) hr21
    have z117 : q_ir (q_r f88 mo 30) c1 := Eq.trans (hF.r hmo (by rw [kmo]; rfl)) hr22
    have z118 : q_ir (q_r f88 mo 31) c2 := Eq.trans (hF.r hmo (by rw [kmo]; rfl)) hr23
    have z119 : q_ir (q_r f88 mo 32) c3 := Eq.trans (hF.r hmo (by rw [kmo]; rfl)) hr24
    have z120 : q_ir (q_r f88 mo 33) bg := Eq.trans (hF.r hmo (by rw [kmo]; rfl)) hr25
    have z121 : q_ir (q_r f88 mo 34) lp := Eq.trans (hF.r hmo (by rw [kmo]; rfl)) hr26
    have z122 : q_ir (q_r f88 mo 38) rp := Eq.trans (hF.r hmo (by rw [kmo]; rfl)) hr27
    have g123 : q_gr f88 sr := q_gr_fr hgr (fun i9 _ => hF.z hsr (by rw [ksr]; rfl))
    have g124 : q_pk f88 mo pa := q_pk_tr hpk (hF.z hmo (by rw [kmo]; rfl)) (fun i9 => hF.z hpa (by rw [kpa]; rfl))
    have g125 : q_sv f88 mo sd := q_sv_tr hsd9 (hF.z hmo (by rw [kmo]; rfl)) (fun i9 => hF.z hsd (by rw [ksd]; rfl))
    refine lv_istore (lv' := [(6, .int (q_i y89)), (5, .int (q_i ii)), (4, .ref outD), (3, .ref out), (2, .ref mo), (1, .ref x), (0, .ref b)]) cx.1 cx.2.1 dL_law_1293 hl (by decide) rfl (fun ls hl => ?_)
    refine q_ald_n cx dL_law_1295 rfl (lv_at hl 4 rfl) ?_
    refine q_ald_n cx dL_law_1296 rfl (lv_at hl 6 rfl) ?_
    refine lv_iload cx.1 cx.2.1 dL_law_1297 (lv_at hl 1 rfl) ?_
    refine q_iconst cx dL_law_1299 ?_
    refine q_iadd cx dL_law_1300 ?_
    refine va_sld cx.1 cx.2.1 hXs hbl hbA hB.1.2.2.2 (q_in (by omega) (by omega) (by omega)) dL_law_1301 ?_
    rw [ea3]
    refine q_ald_n cx dL_law_1302 rfl (lv_at hl 6 rfl) ?_
    refine lv_iload cx.1 cx.2.1 dL_law_1303 (lv_at hl 1 rfl) ?_
    refine q_iconst cx dL_law_1305 ?_
    refine q_iadd cx dL_law_1306 ?_
    refine va_sld cx.1 cx.2.1 hXs hbl hbA hB.1.2.2.2 (q_in (by omega) (by omega) (by omega)) dL_law_1307 ?_
    rw [ea4]
    refine q_ald_n cx dL_law_1308 rfl (lv_at hl 6 rfl) ?_
    refine lv_iload cx.1 cx.2.1 dL_law_1309 (lv_at hl 1 rfl) ?_
    refine q_iconst cx dL_law_1311 ?_
    refine q_iadd cx dL_law_1312 ?_
    refine va_sld cx.1 cx.2.1 hXs hbl hbA hB.1.2.2.2 (q_in (by omega) (by omega) (by omega)) dL_law_1313 ?_
    rw [ea5]
    refine q_ifeq (tgt := 1321) cx ⟨by omega, by omega⟩ dL_law_1314 (by decide) (fun c126 => ?_) (fun c126 => ?_)
    · refine q_iconst cx dL_law_1321 ?_
      refine q_cVi (As := [.int (q_i a3), .int (q_i a4), .int (q_i 0)]) (rest := []) cx hB (fun q h => hLA q h) hN hmo kmo (by decide) rfl (r_watch l g hN hB.2.1 mo hmo kmo a3 (by omega) (by omega) a4 (by omega) (by omega) 0 (by decide) (by decide) sr hsr ksr as has kas pa hpa kpa x1 (by omega) (by omega) x2 (by omega) (by omega) z93 z94 z106 z108 z110 g123 g124) q_cL_233 q_dX12_watch ⟨by decide, by show cells + 2 ≤ 601024; omega, by show slots + 12 ≤ 7293034; omega⟩ rfl rfl hl.1 rfl (Nat.le_of_ble_eq_true rfl) dL_law_1322 (fun y128 H locs f127 ry128 h129 hF hB => ?_)
      obtain ⟨ly128, uy128, lz130, uz130, lz131, uz131, g132, g133⟩ := h129
      have z134 : q_is (q_z f127 src 1) xn := Eq.trans (hF.z hsrc (by rw [ksrc]; rfl)) z91
      have z135 : q_is (q_z f127 mo 2) xn := Eq.trans (hF.z hmo (by rw [kmo]; rfl)) z92
      have z136 : q_is (q_z f127 sr 3) x1 := Eq.trans (hF.z hsr (by rw [ksr]; rfl)) z93
      have z137 : q_is (q_z f127 sr 4) x2 := Eq.trans (hF.z hsr (by rw [ksr]; rfl)) z94
      have z138 : q_ir (q_r f127 x 0) src := Eq.trans (hF.r hx (by rw [kx]; rfl)) z95
      have z139 : q_ir (q_r f127 x 1) rdr := Eq.trans (hF.r hx (by rw [kx]; rfl)) z96
      have z140 : q_ir (q_r f127 x 2) scr := Eq.trans (hF.r hx (by rw [kx]; rfl)) z97
      have z141 : q_ir (q_r f127 x 3) fc := Eq.trans (hF.r hx (by rw [kx]; rfl)) z98
      have z142 : q_ir (q_r f127 x 4) hist := Eq.trans (hF.r hx (by rw [kx]; rfl)) z99
      have z143 : q_ir (q_r f127 x 5) rep := Eq.trans (hF.r hx (by rw [kx]; rfl)) z100
      have z144 : q_ir (q_r f127 x 6) now := Eq.trans (hF.r hx (by rw [kx]; rfl)) z101
      have z145 : q_ir (q_r f127 x 7) dr := Eq.trans (hF.r hx (by rw [kx]; rfl)) z102
      have z146 : q_ir (q_r f127 x 8) sv := Eq.trans (hF.r hx (by rw [kx]; rfl)) z103
      have z147 : q_ir (q_r f127 fc 0) tr := Eq.trans (hF.r hfc (by rw [kfc]; rfl)) z104
      have z148 : q_ir (q_r f127 mo 1) bu := Eq.trans (hF.r hmo (by rw [kmo]; rfl)) z105
      have z149 : q_ir (q_r f127 mo 13) sr := Eq.trans (hF.r hmo (by rw [kmo]; rfl)) z106
      have z150 : q_ir (q_r f127 mo 14) sd := Eq.trans (hF.r hmo (by rw [kmo]; rfl)) z107
      have z151 : q_ir (q_r f127 mo 15) as := Eq.trans (hF.r hmo (by rw [kmo]; rfl)) z108
      have z152 : q_ir (q_r f127 mo 16) aw := Eq.trans (hF.r hmo (by rw [kmo]; rfl)) z109
      have z153 : q_ir (q_r f127 mo 17) pa := Eq.trans (hF.r hmo (by rw [kmo]; rfl)) z110
      have z154 : q_ir (q_r f127 mo 18) nm := Eq.trans (hF.r hmo (by rw [kmo]; rfl)) z111
      have z155 : q_ir (q_r f127 mo 19) snm := Eq.trans (hF.r hmo (by rw [kmo]; rfl)) z112
      have z156 : q_ir (q_r f127 mo 20) anm := Eq.trans (hF.r hmo (by rw [kmo]; rfl)) z113
      have z157 : q_ir (q_r f127 mo 24) hp := Eq.trans (hF.r hmo (by rw [kmo]; rfl)) z114
      have z158 : q_ir (q_r f127 mo 25) dy := Eq.trans (hF.r hmo (by rw [kmo]; rfl)) z115
      have z159 : q_ir (q_r f127 mo 29) cs := Eq.trans (hF.r hmo (by rw [kmo]; rfl)) z116
      have z160 : q_ir (q_r f127 mo 30) c1 := Eq.trans (hF.r hmo (by rw [kmo]; rfl)) z117
      have z161 : q_ir (q_r f127 mo 31) c2 := Eq.trans (hF.r hmo (by rw [kmo]; rfl)) z118
      have z162 : q_ir (q_r f127 mo 32) c3 := Eq.trans (hF.r hmo (by rw [kmo]; rfl)) z119
      have z163 : q_ir (q_r f127 mo 33) bg := Eq.trans (hF.r hmo (by rw [kmo]; rfl)) z120
      have z164 : q_ir (q_r f127 mo 34) lp := Eq.trans (hF.r hmo (by rw [kmo]; rfl)) z121
      have z165 : q_ir (q_r f127 mo 38) rp := Eq.trans (hF.r hmo (by rw [kmo]; rfl)) z122
      have g166 : q_sv f127 mo sd := q_sv_tr g125 (hF.z hmo (by rw [kmo]; rfl)) (fun i9 => hF.z hsd (by rw [ksd]; rfl))
      obtain ⟨x167, ex167⟩ : ∃ zz, q_is (q_z f127 sr 3) zz := ⟨_, q_isr _⟩
      obtain ⟨lx167, ux167⟩ := q_isb ex167 ⟨lz130, uz130⟩
      obtain ⟨x168, ex168⟩ : ∃ zz, q_is (q_z f127 sr 4) zz := ⟨_, q_isr _⟩
      obtain ⟨lx168, ux168⟩ := q_isb ex168 ⟨lz131, uz131⟩
      refine lv_istore (lv' := [(7, .int (q_i y128)), (6, .int (q_i y89)), (5, .int (q_i ii)), (4, .ref outD), (3, .ref out), (2, .ref mo), (1, .ref x), (0, .ref b)]) cx.1 cx.2.1 dL_law_1325 hl (by decide) rfl (fun ls hl => ?_)
      refine lv_goto (tgt := 1521) cx.1 cx.2.1 dL_law_1327 (by decide) ?_
      refine W.widen (k := cells + 6) (n := slots + 36) (by omega) (by omega) ?_
      exact kk f127 H locs ls xn hB ⟨⟨z134, (Eq.trans z135 (by omega)), by omega, by omega⟩, g132, g133, g166, q_isu ex167 (by omega), q_isu ex168 (by omega)⟩ (lv_sub hl [2, 3, 4, 5, 6, 7] rfl)
    · refine q_iconst cx dL_law_1317 ?_
      refine lv_goto (tgt := 1322) cx.1 cx.2.1 dL_law_1318 (by decide) ?_
      refine q_cVi (As := [.int (q_i a3), .int (q_i a4), .int (q_i 1)]) (rest := []) cx hB (fun q h => hLA q h) hN hmo kmo (by decide) rfl (r_watch l g hN hB.2.1 mo hmo kmo a3 (by omega) (by omega) a4 (by omega) (by omega) 1 (by decide) (by decide) sr hsr ksr as has kas pa hpa kpa x1 (by omega) (by omega) x2 (by omega) (by omega) z93 z94 z106 z108 z110 g123 g124) q_cL_233 q_dX12_watch ⟨by decide, by show cells + 2 ≤ 601024; omega, by show slots + 12 ≤ 7293034; omega⟩ rfl rfl hl.1 rfl (Nat.le_of_ble_eq_true rfl) dL_law_1322 (fun y170 H locs f169 ry170 h171 hF hB => ?_)
      obtain ⟨ly170, uy170, lz172, uz172, lz173, uz173, g174, g175⟩ := h171
      have z176 : q_is (q_z f169 src 1) xn := Eq.trans (hF.z hsrc (by rw [ksrc]; rfl)) z91
      have z177 : q_is (q_z f169 mo 2) xn := Eq.trans (hF.z hmo (by rw [kmo]; rfl)) z92
      have z178 : q_is (q_z f169 sr 3) x1 := Eq.trans (hF.z hsr (by rw [ksr]; rfl)) z93
      have z179 : q_is (q_z f169 sr 4) x2 := Eq.trans (hF.z hsr (by rw [ksr]; rfl)) z94
      have z180 : q_ir (q_r f169 x 0) src := Eq.trans (hF.r hx (by rw [kx]; rfl)) z95
      have z181 : q_ir (q_r f169 x 1) rdr := Eq.trans (hF.r hx (by rw [kx]; rfl)) z96
      have z182 : q_ir (q_r f169 x 2) scr := Eq.trans (hF.r hx (by rw [kx]; rfl)) z97
      have z183 : q_ir (q_r f169 x 3) fc := Eq.trans (hF.r hx (by rw [kx]; rfl)) z98
      have z184 : q_ir (q_r f169 x 4) hist := Eq.trans (hF.r hx (by rw [kx]; rfl)) z99
      have z185 : q_ir (q_r f169 x 5) rep := Eq.trans (hF.r hx (by rw [kx]; rfl)) z100
      have z186 : q_ir (q_r f169 x 6) now := Eq.trans (hF.r hx (by rw [kx]; rfl)) z101
      have z187 : q_ir (q_r f169 x 7) dr := Eq.trans (hF.r hx (by rw [kx]; rfl)) z102
      have z188 : q_ir (q_r f169 x 8) sv := Eq.trans (hF.r hx (by rw [kx]; rfl)) z103
      have z189 : q_ir (q_r f169 fc 0) tr := Eq.trans (hF.r hfc (by rw [kfc]; rfl)) z104
      have z190 : q_ir (q_r f169 mo 1) bu := Eq.trans (hF.r hmo (by rw [kmo]; rfl)) z105
      have z191 : q_ir (q_r f169 mo 13) sr := Eq.trans (hF.r hmo (by rw [kmo]; rfl)) z106
      have z192 : q_ir (q_r f169 mo 14) sd := Eq.trans (hF.r hmo (by rw [kmo]; rfl)) z107
      have z193 : q_ir (q_r f169 mo 15) as := Eq.trans (hF.r hmo (by rw [kmo]; rfl)) z108
      have z194 : q_ir (q_r f169 mo 16) aw := Eq.trans (hF.r hmo (by rw [kmo]; rfl)) z109
      have z195 : q_ir (q_r f169 mo 17) pa := Eq.trans (hF.r hmo (by rw [kmo]; rfl)) z110
      have z196 : q_ir (q_r f169 mo 18) nm := Eq.trans (hF.r hmo (by rw [kmo]; rfl)) z111
      have z197 : q_ir (q_r f169 mo 19) snm := Eq.trans (hF.r hmo (by rw [kmo]; rfl)) z112
      have z198 : q_ir (q_r f169 mo 20) anm := Eq.trans (hF.r hmo (by rw [kmo]; rfl)) z113
      have z199 : q_ir (q_r f169 mo 24) hp := Eq.trans (hF.r hmo (by rw [kmo]; rfl)) z114
      have z200 : q_ir (q_r f169 mo 25) dy := Eq.trans (hF.r hmo (by rw [kmo]; rfl)) z115
      have z201 : q_ir (q_r f169 mo 29) cs := Eq.trans (hF.r hmo (by rw [kmo]; rfl)) z116
      have z202 : q_ir (q_r f169 mo 30) c1 := Eq.trans (hF.r hmo (by rw [kmo]; rfl)) z117
      have z203 : q_ir (q_r f169 mo 31) c2 := Eq.trans (hF.r hmo (by rw [kmo]; rfl)) z118
      have z204 : q_ir (q_r f169 mo 32) c3 := Eq.trans (hF.r hmo (by rw [kmo]; rfl)) z119
      have z205 : q_ir (q_r f169 mo 33) bg := Eq.trans (hF.r hmo (by rw [kmo]; rfl)) z120
      have z206 : q_ir (q_r f169 mo 34) lp := Eq.trans (hF.r hmo (by rw [kmo]; rfl)) z121
      have z207 : q_ir (q_r f169 mo 38) rp := Eq.trans (hF.r hmo (by rw [kmo]; rfl)) z122
      have g208 : q_sv f169 mo sd := q_sv_tr g125 (hF.z hmo (by rw [kmo]; rfl)) (fun i9 => hF.z hsd (by rw [ksd]; rfl))
      obtain ⟨x209, ex209⟩ : ∃ zz, q_is (q_z f169 sr 3) zz := ⟨_, q_isr _⟩
      obtain ⟨lx209, ux209⟩ := q_isb ex209 ⟨lz172, uz172⟩
      obtain ⟨x210, ex210⟩ : ∃ zz, q_is (q_z f169 sr 4) zz := ⟨_, q_isr _⟩
      obtain ⟨lx210, ux210⟩ := q_isb ex210 ⟨lz173, uz173⟩
      refine lv_istore (lv' := [(7, .int (q_i y170)), (6, .int (q_i y89)), (5, .int (q_i ii)), (4, .ref outD), (3, .ref out), (2, .ref mo), (1, .ref x), (0, .ref b)]) cx.1 cx.2.1 dL_law_1325 hl (by decide) rfl (fun ls hl => ?_)
      refine lv_goto (tgt := 1521) cx.1 cx.2.1 dL_law_1327 (by decide) ?_
      refine W.widen (k := cells + 6) (n := slots + 36) (by omega) (by omega) ?_
      exact kk f169 H locs ls xn hB ⟨⟨z176, (Eq.trans z177 (by omega)), by omega, by omega⟩, g174, g175, g208, q_isu ex209 (by omega), q_isu ex210 (by omega)⟩ (lv_sub hl [2, 3, 4, 5, 6, 7] rfl)
set_option maxHeartbeats 4000000 in
set_option maxRecDepth 100000 in
theorem law_c1330 {p : Program} {l : Launch} {e : Env} {s : State} {m : MethodId} {below : List Frame} {meth : Method} {c : Code} {b N9 : Nat} {xs : Nat → Int32} (hfl : l.stackTraces = false) (hN9 : N9 ≤ 3072) (C0 : lw_At p s m meth c b N9 xs) (cx : CallFix p m c cL_law 10 s #[Value.ref b] q_al RL) {g : q_G} {ad : Nat → Nat} {K : Nat → Nat} {L : List Nat} (hN : L.Nodup) (hLA : ∀ q, q ∈ L → s.heap.size ≤ q) (hX : q_X ad (fun q => q ∈ L) s) {f0 : Nat → va_E} {x : Nat} (hx : x ∈ L) (kx : K x = 11) {src : Nat} (hsrc : src ∈ L) (ksrc : K src = 8) {rdr : Nat} (hrdr : rdr ∈ L) (krdr : K rdr = 9) {scr : Nat} (hscr : scr ∈ L) (kscr : K scr = 7) {fc : Nat} (hfc : fc ∈ L) (kfc : K fc = 1) {hist : Nat} (hhist : hist ∈ L) (khist : K hist = 2) {rep : Nat} (hrep : rep ∈ L) (krep : K rep = 6) {now : Nat} (hnow : now ∈ L) (know : K now = 10) {dr : Nat} (hdr : dr ∈ L) (kdr : K dr = 13) {sv : Nat} (hsv : sv ∈ L) (ksv : K sv = 14) {tr : Nat} (htr : tr ∈ L) (ktr : K tr = 15) {mo : Nat} (hmo : mo ∈ L) (kmo : K mo = 12) {bu : Nat} (hbu : bu ∈ L) (kbu : K bu = 150) {sr : Nat} (hsr : sr ∈ L) (ksr : K sr = 151) {sd : Nat} (hsd : sd ∈ L) (ksd : K sd = 152) {as : Nat} (has : as ∈ L) (kas : K as = 153) {aw : Nat} (haw : aw ∈ L) (kaw : K aw = 154) {pa : Nat} (hpa : pa ∈ L) (kpa : K pa = 155) {nm : Nat} (hnm : nm ∈ L) (knm : K nm = 156) {snm : Nat} (hsnm : snm ∈ L) (ksnm : K snm = 157) {anm : Nat} (hanm : anm ∈ L) (kanm : K anm = 158) {hp : Nat} (hhp : hp ∈ L) (khp : K hp = 159) {dy : Nat} (hdy : dy ∈ L) (kdy : K dy = 160) {cs : Nat} (hcs : cs ∈ L) (kcs : K cs = 161) {c1 : Nat} (hc1 : c1 ∈ L) (kc1 : K c1 = 162) {c2 : Nat} (hc2 : c2 ∈ L) (kc2 : K c2 = 163) {c3 : Nat} (hc3 : c3 ∈ L) (kc3 : K c3 = 164) {bg : Nat} (hbg : bg ∈ L) (kbg : K bg = 165) {lp : Nat} (hlp : lp ∈ L) (klp : K lp = 166) {rp : Nat} (hrp : rp ∈ L) (krp : K rp = 167) {out : Nat} (hout : out ∈ L) (kout : K out = 168) {outD : Nat} (houtD : outD ∈ L) (koutD : K outD = 169) (hr0 : q_ir (q_r f0 x 0) src) (hr1 : q_ir (q_r f0 x 1) rdr) (hr2 : q_ir (q_r f0 x 2) scr) (hr3 : q_ir (q_r f0 x 3) fc) (hr4 : q_ir (q_r f0 x 4) hist) (hr5 : q_ir (q_r f0 x 5) rep) (hr6 : q_ir (q_r f0 x 6) now) (hr7 : q_ir (q_r f0 x 7) dr) (hr8 : q_ir (q_r f0 x 8) sv) (hr9 : q_ir (q_r f0 fc 0) tr) (hr10 : q_ir (q_r f0 mo 1) bu) (hr11 : q_ir (q_r f0 mo 13) sr) (hr12 : q_ir (q_r f0 mo 14) sd) (hr13 : q_ir (q_r f0 mo 15) as) (hr14 : q_ir (q_r f0 mo 16) aw) (hr15 : q_ir (q_r f0 mo 17) pa) (hr16 : q_ir (q_r f0 mo 18) nm) (hr17 : q_ir (q_r f0 mo 19) snm) (hr18 : q_ir (q_r f0 mo 20) anm) (hr19 : q_ir (q_r f0 mo 24) hp) (hr20 : q_ir (q_r f0 mo 25) dy) (hr21 : q_ir (q_r f0 mo 29) cs) (hr22 : q_ir (q_r f0 mo 30) c1) (hr23 : q_ir (q_r f0 mo 31) c2) (hr24 : q_ir (q_r f0 mo 32) c3) (hr25 : q_ir (q_r f0 mo 33) bg) (hr26 : q_ir (q_r f0 mo 34) lp) (hr27 : q_ir (q_r f0 mo 38) rp) {f : Nat → va_E} {H : Heap} {locs : List Loc} {ls : Array Slot} {cells slots : Nat} {ii xn : Int} (hB : q_B g K L (fun q => s.heap.size ≤ q) [(0, 0, 6), (2, 1, 2), (3, 0, 4), (4, 0, 7), (5, 0, 9), (6, 1, 1), (7, 1, 4), (8, 1, 9), (9, 0, 2), (10, 3, 15), (11, 9, 9), (12, 0, 0), (12, 2, 12), (12, 21, 23), (12, 26, 28), (12, 35, 37), (12, 39, 40), (13, 3, 15), (14, 3, 15), (15, 3, 15), (16, 3, 15), (17, 0, 9), (18, 0, 9), (19, 0, 9), (20, 0, 9), (21, 0, 4), (22, 0, 4), (23, 0, 4), (24, 0, 4), (25, 0, 7), (26, 0, 7), (27, 0, 7), (28, 0, 7), (142, 0, 599), (143, 0, 599), (150, 0, 599), (151, 0, 657), (152, 0, 657), (153, 0, 657), (154, 0, 657), (155, 0, 3947), (156, 0, 9), (157, 0, 9), (158, 0, 9), (159, 0, 9), (160, 0, 9), (161, 0, 59), (162, 0, 58), (163, 0, 58), (164, 0, 58), (165, 0, 1), (166, 0, 1), (167, 0, 479), (168, 0, 0), (169, 0, 0)] f0 f s H locs) (hI : q_Inv f src mo sr pa sd xn) (hl : lv_has ls 10 [(5, .int (q_i ii)), (4, .ref outD), (3, .ref out), (2, .ref mo), (1, .ref x), (0, .ref b)]) (hi0 : 0 ≤ ii) (hi6 : ii + 6 ≤ N9) (hce : cells + 6 ≤ 10000) (hse : slots + 36 ≤ 100000) (kk : ∀ (f1 : Nat → va_E) (H1 : Heap) (locs1 : List Loc) (ls1 : Array Slot) (xn1 : Int), q_B g K L (fun q => s.heap.size ≤ q) [(0, 0, 6), (2, 1, 2), (3, 0, 4), (4, 0, 7), (5, 0, 9), (6, 1, 1), (7, 1, 4), (8, 1, 9), (9, 0, 2), (10, 3, 15), (11, 9, 9), (12, 0, 0), (12, 2, 12), (12, 21, 23), (12, 26, 28), (12, 35, 37), (12, 39, 40), (13, 3, 15), (14, 3, 15), (15, 3, 15), (16, 3, 15), (17, 0, 9), (18, 0, 9), (19, 0, 9), (20, 0, 9), (21, 0, 4), (22, 0, 4), (23, 0, 4), (24, 0, 4), (25, 0, 7), (26, 0, 7), (27, 0, 7), (28, 0, 7), (142, 0, 599), (143, 0, 599), (150, 0, 599), (151, 0, 657), (152, 0, 657), (153, 0, 657), (154, 0, 657), (155, 0, 3947), (156, 0, 9), (157, 0, 9), (158, 0, 9), (159, 0, 9), (160, 0, 9), (161, 0, 59), (162, 0, 58), (163, 0, 58), (164, 0, 58), (165, 0, 1), (166, 0, 1), (167, 0, 479), (168, 0, 0), (169, 0, 0)] f0 f1 s H1 locs1 → q_Inv f1 src mo sr pa sd xn1 → lv_has ls1 10 [(5, .int (q_i ii)), (4, .ref outD), (3, .ref out), (2, .ref mo), (1, .ref x), (0, .ref b)] → W p l e room_1 s m #[Value.ref b] below meth c H1 locs1 (cells + 6) (slots + 36) (lw_Z below #[Value.ref b] s) (F0 m 1521 ls1 [])) : W p l e room_1 s m #[Value.ref b] below meth c H locs (cells) (slots) (lw_Z below #[Value.ref b] s) (F0 m 1330 ls []) := by
  have hXs := C0.2.2.2.2.2.2.1
  have hbl := C0.2.2.2.2.2.2.2.1
  have hbA := q_bA hbl
  obtain ⟨⟨hn0, hn1, lxn, uxn⟩, hgr, hpk, hsd9, ht3, ht4⟩ := hI
  have hr0 : q_ir (q_r f x 0) src := Eq.trans (hB.2.2.r hx (by rw [kx]; rfl)) hr0
  have hr1 : q_ir (q_r f x 1) rdr := Eq.trans (hB.2.2.r hx (by rw [kx]; rfl)) hr1
  have hr2 : q_ir (q_r f x 2) scr := Eq.trans (hB.2.2.r hx (by rw [kx]; rfl)) hr2
  have hr3 : q_ir (q_r f x 3) fc := Eq.trans (hB.2.2.r hx (by rw [kx]; rfl)) hr3
  have hr4 : q_ir (q_r f x 4) hist := Eq.trans (hB.2.2.r hx (by rw [kx]; rfl)) hr4
  have hr5 : q_ir (q_r f x 5) rep := Eq.trans (hB.2.2.r hx (by rw [kx]; rfl)) hr5
  have hr6 : q_ir (q_r f x 6) now := Eq.trans (hB.2.2.r hx (by rw [kx]; rfl)) hr6
  have hr7 : q_ir (q_r f x 7) dr := Eq.trans (hB.2.2.r hx (by rw [kx]; rfl)) hr7
  have hr8 : q_ir (q_r f x 8) sv := Eq.trans (hB.2.2.r hx (by rw [kx]; rfl)) hr8
  have hr9 : q_ir (q_r f fc 0) tr := Eq.trans (hB.2.2.r hfc (by rw [kfc]; rfl)) hr9
  have hr10 : q_ir (q_r f mo 1) bu := Eq.trans (hB.2.2.r hmo (by rw [kmo]; rfl)) hr10
  have hr11 : q_ir (q_r f mo 13) sr := Eq.trans (hB.2.2.r hmo (by rw [kmo]; rfl)) hr11
  have hr12 : q_ir (q_r f mo 14) sd := Eq.trans (hB.2.2.r hmo (by rw [kmo]; rfl)) hr12
  have hr13 : q_ir (q_r f mo 15) as := Eq.trans (hB.2.2.r hmo (by rw [kmo]; rfl)) hr13
  have hr14 : q_ir (q_r f mo 16) aw := Eq.trans (hB.2.2.r hmo (by rw [kmo]; rfl)) hr14
  have hr15 : q_ir (q_r f mo 17) pa := Eq.trans (hB.2.2.r hmo (by rw [kmo]; rfl)) hr15
  have hr16 : q_ir (q_r f mo 18) nm := Eq.trans (hB.2.2.r hmo (by rw [kmo]; rfl)) hr16
  have hr17 : q_ir (q_r f mo 19) snm := Eq.trans (hB.2.2.r hmo (by rw [kmo]; rfl)) hr17
  have hr18 : q_ir (q_r f mo 20) anm := Eq.trans (hB.2.2.r hmo (by rw [kmo]; rfl)) hr18
  have hr19 : q_ir (q_r f mo 24) hp := Eq.trans (hB.2.2.r hmo (by rw [kmo]; rfl)) hr19
  have hr20 : q_ir (q_r f mo 25) dy := Eq.trans (hB.2.2.r hmo (by rw [kmo]; rfl)) hr20
  have hr21 : q_ir (q_r f mo 29) cs := Eq.trans (hB.2.2.r hmo (by rw [kmo]; rfl)) hr21
  have hr22 : q_ir (q_r f mo 30) c1 := Eq.trans (hB.2.2.r hmo (by rw [kmo]; rfl)) hr22
  have hr23 : q_ir (q_r f mo 31) c2 := Eq.trans (hB.2.2.r hmo (by rw [kmo]; rfl)) hr23
  have hr24 : q_ir (q_r f mo 32) c3 := Eq.trans (hB.2.2.r hmo (by rw [kmo]; rfl)) hr24
  have hr25 : q_ir (q_r f mo 33) bg := Eq.trans (hB.2.2.r hmo (by rw [kmo]; rfl)) hr25
  have hr26 : q_ir (q_r f mo 34) lp := Eq.trans (hB.2.2.r hmo (by rw [kmo]; rfl)) hr26
  have hr27 : q_ir (q_r f mo 38) rp := Eq.trans (hB.2.2.r hmo (by rw [kmo]; rfl)) hr27
  obtain ⟨x1, ex1⟩ : ∃ zz, q_is (q_z f sr 3) zz := ⟨_, q_isr _⟩
  obtain ⟨lx1, ux1⟩ : 0 ≤ x1 ∧ x1 ≤ 9999 := q_isb ex1 ⟨(hgr 3 (by decide)).1, ht3⟩
  obtain ⟨x2, ex2⟩ : ∃ zz, q_is (q_z f sr 4) zz := ⟨_, q_isr _⟩
  obtain ⟨lx2, ux2⟩ : 0 ≤ x2 ∧ x2 ≤ 60 := q_isb ex2 ⟨(hgr 4 (by decide)).1, ht4⟩
  refine q_ald_n cx dL_law_1330 rfl (lv_at hl 4 rfl) ?_
  refine q_ald_n cx dL_law_1331 rfl (lv_at hl 5 rfl) ?_
  refine lv_iload cx.1 cx.2.1 dL_law_1332 (lv_at hl 0 rfl) ?_
  refine q_iconst cx dL_law_1334 ?_
  refine q_iadd cx dL_law_1335 ?_
  refine va_sld cx.1 cx.2.1 hXs hbl hbA hB.1.2.2.2 (q_in (by omega) (by omega) (by omega)) dL_law_1336 ?_
  obtain ⟨a3, ra3, ea3⟩ : ∃ z : Int, q_R z ∧ xs (q_i (ii + 1)).toNatClampNeg = q_i z := ⟨_, q_rng _, (q_of _).symm⟩
  rw [ea3]
  refine q_ald_n cx dL_law_1337 rfl (lv_at hl 5 rfl) ?_
  refine lv_iload cx.1 cx.2.1 dL_law_1338 (lv_at hl 0 rfl) ?_
  refine q_iconst cx dL_law_1340 ?_
  refine q_iadd cx dL_law_1341 ?_
  refine va_sld cx.1 cx.2.1 hXs hbl hbA hB.1.2.2.2 (q_in (by omega) (by omega) (by omega)) dL_law_1342 ?_
  obtain ⟨a4, ra4, ea4⟩ : ∃ z : Int, q_R z ∧ xs (q_i (ii + 2)).toNatClampNeg = q_i z := ⟨_, q_rng _, (q_of _).symm⟩
  rw [ea4]
  refine q_ald_n cx dL_law_1343 rfl (lv_at hl 2 rfl) ?_
  refine q_cWS (As := [.ref x, .int (q_i a3), .int (q_i a4), .ref out]) (rest := []) cx hX hB (fun q h => hLA q h) (fun q h1 h2 => absurd h1 (Nat.not_le_of_lt h2)) hN (w_setBorn l g ad hN hB.2.1 hfl x hx kx a3 (by omega) (by omega) a4 (by omega) (by omega) out hout kout src hsrc ksrc rdr hrdr krdr scr hscr kscr fc hfc kfc hist hhist khist rep hrep krep now hnow know dr hdr kdr sv hsv ksv tr htr ktr hr0 hr1 hr2 hr3 hr4 hr5 hr6 hr7 hr8 hr9) q_cL_234 q_dL_setBorn ⟨by decide, by show cells + 2 ≤ 601024; omega, by show slots + 12 ≤ 7293034; omega⟩ rfl rfl hl.1 rfl (Nat.le_of_ble_eq_true rfl) dL_law_1344 (fun v9 H locs f5 h7 hF hB => ?_)
  obtain ⟨y6, rfl, ry6, h7⟩ := h7
  refine W.eq (g2 := F0 m 1347 ls [.int (q_i y6)]) rfl ?_
  obtain ⟨ly6, uy6⟩ := h7
  have z8 : q_is (q_z f5 src 1) xn := Eq.trans (hF.z hsrc (by rw [ksrc]; rfl)) hn0
  have z9 : q_is (q_z f5 mo 2) xn := Eq.trans (hF.z hmo (by rw [kmo]; rfl)) hn1
  have z10 : q_is (q_z f5 sr 3) x1 := Eq.trans (hF.z hsr (by rw [ksr]; rfl)) ex1
  have z11 : q_is (q_z f5 sr 4) x2 := Eq.trans (hF.z hsr (by rw [ksr]; rfl)) ex2
  have z12 : q_ir (q_r f5 x 0) src := Eq.trans (hF.r hx (by rw [kx]; rfl)) hr0
  have z13 : q_ir (q_r f5 x 1) rdr := Eq.trans (hF.r hx (by rw [kx]; rfl)) hr1
  have z14 : q_ir (q_r f5 x 2) scr := Eq.trans (hF.r hx (by rw [kx]; rfl)) hr2
  have z15 : q_ir (q_r f5 x 3) fc := Eq.trans (hF.r hx (by rw [kx]; rfl)) hr3
  have z16 : q_ir (q_r f5 x 4) hist := Eq.trans (hF.r hx (by rw [kx]; rfl)) hr4
  have z17 : q_ir (q_r f5 x 5) rep := Eq.trans (hF.r hx (by rw [kx]; rfl)) hr5
  have z18 : q_ir (q_r f5 x 6) now := Eq.trans (hF.r hx (by rw [kx]; rfl)) hr6
  have z19 : q_ir (q_r f5 x 7) dr := Eq.trans (hF.r hx (by rw [kx]; rfl)) hr7
  have z20 : q_ir (q_r f5 x 8) sv := Eq.trans (hF.r hx (by rw [kx]; rfl)) hr8
  have z21 : q_ir (q_r f5 fc 0) tr := Eq.trans (hF.r hfc (by rw [kfc]; rfl)) hr9
  have z22 : q_ir (q_r f5 mo 1) bu := Eq.trans (hF.r hmo (by rw [kmo]; rfl)) hr10
  have z23 : q_ir (q_r f5 mo 13) sr := Eq.trans (hF.r hmo (by rw [kmo]; rfl)) hr11
  have z24 : q_ir (q_r f5 mo 14) sd := Eq.trans (hF.r hmo (by rw [kmo]; rfl)) hr12
  have z25 : q_ir (q_r f5 mo 15) as := Eq.trans (hF.r hmo (by rw [kmo]; rfl)) hr13
  have z26 : q_ir (q_r f5 mo 16) aw := Eq.trans (hF.r hmo (by rw [kmo]; rfl)) hr14
  have z27 : q_ir (q_r f5 mo 17) pa := Eq.trans (hF.r hmo (by rw [kmo]; rfl)) hr15
  have z28 : q_ir (q_r f5 mo 18) nm := Eq.trans (hF.r hmo (by rw [kmo]; rfl)) hr16
  have z29 : q_ir (q_r f5 mo 19) snm := Eq.trans (hF.r hmo (by rw [kmo]; rfl)) hr17
  have z30 : q_ir (q_r f5 mo 20) anm := Eq.trans (hF.r hmo (by rw [kmo]; rfl)) hr18
  have z31 : q_ir (q_r f5 mo 24) hp := Eq.trans (hF.r hmo (by rw [kmo]; rfl)) hr19
  have z32 : q_ir (q_r f5 mo 25) dy := Eq.trans (hF.r hmo (by rw [kmo]; rfl)) hr20
  have z33 : q_ir (q_r f5 mo 29) cs := Eq.trans (hF.r hmo (by rw [kmo]; rfl)) hr21
  have z34 : q_ir (q_r f5 mo 30) c1 := Eq.trans (hF.r hmo (by rw [kmo]; rfl)) hr22
  have z35 : q_ir (q_r f5 mo 31) c2 := Eq.trans (hF.r hmo (by rw [kmo]; rfl)) hr23
  have z36 : q_ir (q_r f5 mo 32) c3 := Eq.trans (hF.r hmo (by rw [kmo]; rfl)) hr24
  have z37 : q_ir (q_r f5 mo 33) bg := Eq.trans (hF.r hmo (by rw [kmo]; rfl)) hr25
  have z38 : q_ir (q_r f5 mo 34) lp := Eq.trans (hF.r hmo (by rw [kmo]; rfl)) hr26
  have z39 : q_ir (q_r f5 mo 38) rp := Eq.trans (hF.r hmo (by rw [kmo]; rfl)) hr27
  have g40 : q_gr f5 sr := q_gr_fr hgr (fun i9 _ => hF.z hsr (by rw [ksr]; rfl))
  have g41 : q_pk f5 mo pa := q_pk_tr hpk (hF.z hmo (by rw [kmo]; rfl)) (fun i9 => hF.z hpa (by rw [kpa]; rfl))
  have g42 : q_sv f5 mo sd := q_sv_tr hsd9 (hF.z hmo (by rw [kmo]; rfl)) (fun i9 => hF.z hsd (by rw [ksd]; rfl))
  refine lv_istore (lv' := [(6, .int (q_i y6)), (5, .int (q_i ii)), (4, .ref outD), (3, .ref out), (2, .ref mo), (1, .ref x), (0, .ref b)]) cx.1 cx.2.1 dL_law_1347 hl (by decide) rfl (fun ls hl => ?_)
  refine q_ald_n cx dL_law_1349 rfl (lv_at hl 4 rfl) ?_
  refine q_ald_n cx dL_law_1350 rfl (lv_at hl 6 rfl) ?_
  refine lv_iload cx.1 cx.2.1 dL_law_1351 (lv_at hl 1 rfl) ?_
  refine q_iconst cx dL_law_1353 ?_
  refine q_iadd cx dL_law_1354 ?_
  refine va_sld cx.1 cx.2.1 hXs hbl hbA hB.1.2.2.2 (q_in (by omega) (by omega) (by omega)) dL_law_1355 ?_
  rw [ea3]
  refine q_ald_n cx dL_law_1356 rfl (lv_at hl 6 rfl) ?_
  refine lv_iload cx.1 cx.2.1 dL_law_1357 (lv_at hl 1 rfl) ?_
  refine q_iconst cx dL_law_1359 ?_
  refine q_iadd cx dL_law_1360 ?_
  refine va_sld cx.1 cx.2.1 hXs hbl hbA hB.1.2.2.2 (q_in (by omega) (by omega) (by omega)) dL_law_1361 ?_
  rw [ea4]
  refine q_cVi (As := [.int (q_i a3), .int (q_i a4)]) (rest := []) cx hB (fun q h => hLA q h) hN hmo kmo (by decide) rfl (r_setBorn l g hN hB.2.1 mo hmo kmo a3 (by omega) (by omega) a4 (by omega) (by omega) sr hsr ksr as has kas pa hpa kpa x1 (by omega) (by omega) x2 (by omega) (by omega) z10 z11 z23 z25 z27 g40 g41) q_cL_236 q_dX12_setBorn ⟨by decide, by show cells + 2 ≤ 601024; omega, by show slots + 12 ≤ 7293034; omega⟩ rfl rfl hl.1 rfl (Nat.le_of_ble_eq_true rfl) dL_law_1362 (fun y44 H locs f43 ry44 h45 hF hB => ?_)
  obtain ⟨ly44, uy44, lz46, uz46, lz47, uz47, g48, g49⟩ := h45
  have z50 : q_is (q_z f43 src 1) xn := Eq.trans (hF.z hsrc (by rw [ksrc]; rfl)) z8
  have z51 : q_is (q_z f43 mo 2) xn := Eq.trans (hF.z hmo (by rw [kmo]; rfl)) z9
  have z52 : q_is (q_z f43 sr 3) x1 := Eq.trans (hF.z hsr (by rw [ksr]; rfl)) z10
  have z53 : q_is (q_z f43 sr 4) x2 := Eq.trans (hF.z hsr (by rw [ksr]; rfl)) z11
  have z54 : q_ir (q_r f43 x 0) src := Eq.trans (hF.r hx (by rw [kx]; rfl)) z12
  have z55 : q_ir (q_r f43 x 1) rdr := Eq.trans (hF.r hx (by rw [kx]; rfl)) z13
  have z56 : q_ir (q_r f43 x 2) scr := Eq.trans (hF.r hx (by rw [kx]; rfl)) z14
  have z57 : q_ir (q_r f43 x 3) fc := Eq.trans (hF.r hx (by rw [kx]; rfl)) z15
  have z58 : q_ir (q_r f43 x 4) hist := Eq.trans (hF.r hx (by rw [kx]; rfl)) z16
  have z59 : q_ir (q_r f43 x 5) rep := Eq.trans (hF.r hx (by rw [kx]; rfl)) z17
  have z60 : q_ir (q_r f43 x 6) now := Eq.trans (hF.r hx (by rw [kx]; rfl)) z18
  have z61 : q_ir (q_r f43 x 7) dr := Eq.trans (hF.r hx (by rw [kx]; rfl)) z19
  have z62 : q_ir (q_r f43 x 8) sv := Eq.trans (hF.r hx (by rw [kx]; rfl)) z20
  have z63 : q_ir (q_r f43 fc 0) tr := Eq.trans (hF.r hfc (by rw [kfc]; rfl)) z21
  have z64 : q_ir (q_r f43 mo 1) bu := Eq.trans (hF.r hmo (by rw [kmo]; rfl)) z22
  have z65 : q_ir (q_r f43 mo 13) sr := Eq.trans (hF.r hmo (by rw [kmo]; rfl)) z23
  have z66 : q_ir (q_r f43 mo 14) sd := Eq.trans (hF.r hmo (by rw [kmo]; rfl)) z24
  have z67 : q_ir (q_r f43 mo 15) as := Eq.trans (hF.r hmo (by rw [kmo]; rfl)) z25
  have z68 : q_ir (q_r f43 mo 16) aw := Eq.trans (hF.r hmo (by rw [kmo]; rfl)) z26
  have z69 : q_ir (q_r f43 mo 17) pa := Eq.trans (hF.r hmo (by rw [kmo]; rfl)) z27
  have z70 : q_ir (q_r f43 mo 18) nm := Eq.trans (hF.r hmo (by rw [kmo]; rfl)) z28
  have z71 : q_ir (q_r f43 mo 19) snm := Eq.trans (hF.r hmo (by rw [kmo]; rfl)) z29
  have z72 : q_ir (q_r f43 mo 20) anm := Eq.trans (hF.r hmo (by rw [kmo]; rfl)) z30
  have z73 : q_ir (q_r f43 mo 24) hp := Eq.trans (hF.r hmo (by rw [kmo]; rfl)) z31
  have z74 : q_ir (q_r f43 mo 25) dy := Eq.trans (hF.r hmo (by rw [kmo]; rfl)) z32
  have z75 : q_ir (q_r f43 mo 29) cs := Eq.trans (hF.r hmo (by rw [kmo]; rfl)) z33
  have z76 : q_ir (q_r f43 mo 30) c1 := Eq.trans (hF.r hmo (by rw [kmo]; rfl)) z34
  have z77 : q_ir (q_r f43 mo 31) c2 := Eq.trans (hF.r hmo (by rw [kmo]; rfl)) z35
  have z78 : q_ir (q_r f43 mo 32) c3 := Eq.trans (hF.r hmo (by rw [kmo]; rfl)) z36
  have z79 : q_ir (q_r f43 mo 33) bg := Eq.trans (hF.r hmo (by rw [kmo]; rfl)) z37
  have z80 : q_ir (q_r f43 mo 34) lp := Eq.trans (hF.r hmo (by rw [kmo]; rfl)) z38
  have z81 : q_ir (q_r f43 mo 38) rp := Eq.trans (hF.r hmo (by rw [kmo]; rfl)) z39
  have g82 : q_sv f43 mo sd := q_sv_tr g42 (hF.z hmo (by rw [kmo]; rfl)) (fun i9 => hF.z hsd (by rw [ksd]; rfl))
  obtain ⟨x83, ex83⟩ : ∃ zz, q_is (q_z f43 sr 3) zz := ⟨_, q_isr _⟩
  obtain ⟨lx83, ux83⟩ := q_isb ex83 ⟨lz46, uz46⟩
  obtain ⟨x84, ex84⟩ : ∃ zz, q_is (q_z f43 sr 4) zz := ⟨_, q_isr _⟩
  obtain ⟨lx84, ux84⟩ := q_isb ex84 ⟨lz47, uz47⟩
  refine lv_istore (lv' := [(7, .int (q_i y44)), (6, .int (q_i y6)), (5, .int (q_i ii)), (4, .ref outD), (3, .ref out), (2, .ref mo), (1, .ref x), (0, .ref b)]) cx.1 cx.2.1 dL_law_1365 hl (by decide) rfl (fun ls hl => ?_)
  refine lv_goto (tgt := 1521) cx.1 cx.2.1 dL_law_1367 (by decide) ?_
  refine W.widen (k := cells + 6) (n := slots + 36) (by omega) (by omega) ?_
  exact kk f43 H locs ls xn hB ⟨⟨z50, (Eq.trans z51 (by omega)), by omega, by omega⟩, g48, g49, g82, q_isu ex83 (by omega), q_isu ex84 (by omega)⟩ (lv_sub hl [2, 3, 4, 5, 6, 7] rfl)
set_option maxHeartbeats 4000000 in
set_option maxRecDepth 100000 in
theorem law_c1370 {p : Program} {l : Launch} {e : Env} {s : State} {m : MethodId} {below : List Frame} {meth : Method} {c : Code} {b N9 : Nat} {xs : Nat → Int32} (hfl : l.stackTraces = false) (hN9 : N9 ≤ 3072) (C0 : lw_At p s m meth c b N9 xs) (cx : CallFix p m c cL_law 10 s #[Value.ref b] q_al RL) {g : q_G} {ad : Nat → Nat} {K : Nat → Nat} {L : List Nat} (hN : L.Nodup) (hLA : ∀ q, q ∈ L → s.heap.size ≤ q) (hX : q_X ad (fun q => q ∈ L) s) {f0 : Nat → va_E} {x : Nat} (hx : x ∈ L) (kx : K x = 11) {src : Nat} (hsrc : src ∈ L) (ksrc : K src = 8) {rdr : Nat} (hrdr : rdr ∈ L) (krdr : K rdr = 9) {scr : Nat} (hscr : scr ∈ L) (kscr : K scr = 7) {fc : Nat} (hfc : fc ∈ L) (kfc : K fc = 1) {hist : Nat} (hhist : hist ∈ L) (khist : K hist = 2) {rep : Nat} (hrep : rep ∈ L) (krep : K rep = 6) {now : Nat} (hnow : now ∈ L) (know : K now = 10) {dr : Nat} (hdr : dr ∈ L) (kdr : K dr = 13) {sv : Nat} (hsv : sv ∈ L) (ksv : K sv = 14) {tr : Nat} (htr : tr ∈ L) (ktr : K tr = 15) {mo : Nat} (hmo : mo ∈ L) (kmo : K mo = 12) {bu : Nat} (hbu : bu ∈ L) (kbu : K bu = 150) {sr : Nat} (hsr : sr ∈ L) (ksr : K sr = 151) {sd : Nat} (hsd : sd ∈ L) (ksd : K sd = 152) {as : Nat} (has : as ∈ L) (kas : K as = 153) {aw : Nat} (haw : aw ∈ L) (kaw : K aw = 154) {pa : Nat} (hpa : pa ∈ L) (kpa : K pa = 155) {nm : Nat} (hnm : nm ∈ L) (knm : K nm = 156) {snm : Nat} (hsnm : snm ∈ L) (ksnm : K snm = 157) {anm : Nat} (hanm : anm ∈ L) (kanm : K anm = 158) {hp : Nat} (hhp : hp ∈ L) (khp : K hp = 159) {dy : Nat} (hdy : dy ∈ L) (kdy : K dy = 160) {cs : Nat} (hcs : cs ∈ L) (kcs : K cs = 161) {c1 : Nat} (hc1 : c1 ∈ L) (kc1 : K c1 = 162) {c2 : Nat} (hc2 : c2 ∈ L) (kc2 : K c2 = 163) {c3 : Nat} (hc3 : c3 ∈ L) (kc3 : K c3 = 164) {bg : Nat} (hbg : bg ∈ L) (kbg : K bg = 165) {lp : Nat} (hlp : lp ∈ L) (klp : K lp = 166) {rp : Nat} (hrp : rp ∈ L) (krp : K rp = 167) {out : Nat} (hout : out ∈ L) (kout : K out = 168) {outD : Nat} (houtD : outD ∈ L) (koutD : K outD = 169) (hr0 : q_ir (q_r f0 x 0) src) (hr1 : q_ir (q_r f0 x 1) rdr) (hr2 : q_ir (q_r f0 x 2) scr) (hr3 : q_ir (q_r f0 x 3) fc) (hr4 : q_ir (q_r f0 x 4) hist) (hr5 : q_ir (q_r f0 x 5) rep) (hr6 : q_ir (q_r f0 x 6) now) (hr7 : q_ir (q_r f0 x 7) dr) (hr8 : q_ir (q_r f0 x 8) sv) (hr9 : q_ir (q_r f0 fc 0) tr) (hr10 : q_ir (q_r f0 mo 1) bu) (hr11 : q_ir (q_r f0 mo 13) sr) (hr12 : q_ir (q_r f0 mo 14) sd) (hr13 : q_ir (q_r f0 mo 15) as) (hr14 : q_ir (q_r f0 mo 16) aw) (hr15 : q_ir (q_r f0 mo 17) pa) (hr16 : q_ir (q_r f0 mo 18) nm) (hr17 : q_ir (q_r f0 mo 19) snm) (hr18 : q_ir (q_r f0 mo 20) anm) (hr19 : q_ir (q_r f0 mo 24) hp) (hr20 : q_ir (q_r f0 mo 25) dy) (hr21 : q_ir (q_r f0 mo 29) cs) (hr22 : q_ir (q_r f0 mo 30) c1) (hr23 : q_ir (q_r f0 mo 31) c2) (hr24 : q_ir (q_r f0 mo 32) c3) (hr25 : q_ir (q_r f0 mo 33) bg) (hr26 : q_ir (q_r f0 mo 34) lp) (hr27 : q_ir (q_r f0 mo 38) rp) {f : Nat → va_E} {H : Heap} {locs : List Loc} {ls : Array Slot} {cells slots : Nat} {ii xn : Int} (hB : q_B g K L (fun q => s.heap.size ≤ q) [(0, 0, 6), (2, 1, 2), (3, 0, 4), (4, 0, 7), (5, 0, 9), (6, 1, 1), (7, 1, 4), (8, 1, 9), (9, 0, 2), (10, 3, 15), (11, 9, 9), (12, 0, 0), (12, 2, 12), (12, 21, 23), (12, 26, 28), (12, 35, 37), (12, 39, 40), (13, 3, 15), (14, 3, 15), (15, 3, 15), (16, 3, 15), (17, 0, 9), (18, 0, 9), (19, 0, 9), (20, 0, 9), (21, 0, 4), (22, 0, 4), (23, 0, 4), (24, 0, 4), (25, 0, 7), (26, 0, 7), (27, 0, 7), (28, 0, 7), (142, 0, 599), (143, 0, 599), (150, 0, 599), (151, 0, 657), (152, 0, 657), (153, 0, 657), (154, 0, 657), (155, 0, 3947), (156, 0, 9), (157, 0, 9), (158, 0, 9), (159, 0, 9), (160, 0, 9), (161, 0, 59), (162, 0, 58), (163, 0, 58), (164, 0, 58), (165, 0, 1), (166, 0, 1), (167, 0, 479), (168, 0, 0), (169, 0, 0)] f0 f s H locs) (hI : q_Inv f src mo sr pa sd xn) (hl : lv_has ls 10 [(5, .int (q_i ii)), (4, .ref outD), (3, .ref out), (2, .ref mo), (1, .ref x), (0, .ref b)]) (hi0 : 0 ≤ ii) (hi6 : ii + 6 ≤ N9) (hce : cells + 6 ≤ 10000) (hse : slots + 36 ≤ 100000) (kk : ∀ (f1 : Nat → va_E) (H1 : Heap) (locs1 : List Loc) (ls1 : Array Slot) (xn1 : Int), q_B g K L (fun q => s.heap.size ≤ q) [(0, 0, 6), (2, 1, 2), (3, 0, 4), (4, 0, 7), (5, 0, 9), (6, 1, 1), (7, 1, 4), (8, 1, 9), (9, 0, 2), (10, 3, 15), (11, 9, 9), (12, 0, 0), (12, 2, 12), (12, 21, 23), (12, 26, 28), (12, 35, 37), (12, 39, 40), (13, 3, 15), (14, 3, 15), (15, 3, 15), (16, 3, 15), (17, 0, 9), (18, 0, 9), (19, 0, 9), (20, 0, 9), (21, 0, 4), (22, 0, 4), (23, 0, 4), (24, 0, 4), (25, 0, 7), (26, 0, 7), (27, 0, 7), (28, 0, 7), (142, 0, 599), (143, 0, 599), (150, 0, 599), (151, 0, 657), (152, 0, 657), (153, 0, 657), (154, 0, 657), (155, 0, 3947), (156, 0, 9), (157, 0, 9), (158, 0, 9), (159, 0, 9), (160, 0, 9), (161, 0, 59), (162, 0, 58), (163, 0, 58), (164, 0, 58), (165, 0, 1), (166, 0, 1), (167, 0, 479), (168, 0, 0), (169, 0, 0)] f0 f1 s H1 locs1 → q_Inv f1 src mo sr pa sd xn1 → lv_has ls1 10 [(5, .int (q_i ii)), (4, .ref outD), (3, .ref out), (2, .ref mo), (1, .ref x), (0, .ref b)] → W p l e room_1 s m #[Value.ref b] below meth c H1 locs1 (cells + 6) (slots + 36) (lw_Z below #[Value.ref b] s) (F0 m 1521 ls1 [])) : W p l e room_1 s m #[Value.ref b] below meth c H locs (cells) (slots) (lw_Z below #[Value.ref b] s) (F0 m 1370 ls []) := by
  have hXs := C0.2.2.2.2.2.2.1
  have hbl := C0.2.2.2.2.2.2.2.1
  have hbA := q_bA hbl
  obtain ⟨⟨hn0, hn1, lxn, uxn⟩, hgr, hpk, hsd9, ht3, ht4⟩ := hI
  have hr0 : q_ir (q_r f x 0) src := Eq.trans (hB.2.2.r hx (by rw [kx]; rfl)) hr0
  have hr1 : q_ir (q_r f x 1) rdr := Eq.trans (hB.2.2.r hx (by rw [kx]; rfl)) hr1
  have hr2 : q_ir (q_r f x 2) scr := Eq.trans (hB.2.2.r hx (by rw [kx]; rfl)) hr2
  have hr3 : q_ir (q_r f x 3) fc := Eq.trans (hB.2.2.r hx (by rw [kx]; rfl)) hr3
  have hr4 : q_ir (q_r f x 4) hist := Eq.trans (hB.2.2.r hx (by rw [kx]; rfl)) hr4
  have hr5 : q_ir (q_r f x 5) rep := Eq.trans (hB.2.2.r hx (by rw [kx]; rfl)) hr5
  have hr6 : q_ir (q_r f x 6) now := Eq.trans (hB.2.2.r hx (by rw [kx]; rfl)) hr6
  have hr7 : q_ir (q_r f x 7) dr := Eq.trans (hB.2.2.r hx (by rw [kx]; rfl)) hr7
  have hr8 : q_ir (q_r f x 8) sv := Eq.trans (hB.2.2.r hx (by rw [kx]; rfl)) hr8
  have hr9 : q_ir (q_r f fc 0) tr := Eq.trans (hB.2.2.r hfc (by rw [kfc]; rfl)) hr9
  have hr10 : q_ir (q_r f mo 1) bu := Eq.trans (hB.2.2.r hmo (by rw [kmo]; rfl)) hr10
  have hr11 : q_ir (q_r f mo 13) sr := Eq.trans (hB.2.2.r hmo (by rw [kmo]; rfl)) hr11
  have hr12 : q_ir (q_r f mo 14) sd := Eq.trans (hB.2.2.r hmo (by rw [kmo]; rfl)) hr12
  have hr13 : q_ir (q_r f mo 15) as := Eq.trans (hB.2.2.r hmo (by rw [kmo]; rfl)) hr13
  have hr14 : q_ir (q_r f mo 16) aw := Eq.trans (hB.2.2.r hmo (by rw [kmo]; rfl)) hr14
  have hr15 : q_ir (q_r f mo 17) pa := Eq.trans (hB.2.2.r hmo (by rw [kmo]; rfl)) hr15
  have hr16 : q_ir (q_r f mo 18) nm := Eq.trans (hB.2.2.r hmo (by rw [kmo]; rfl)) hr16
  have hr17 : q_ir (q_r f mo 19) snm := Eq.trans (hB.2.2.r hmo (by rw [kmo]; rfl)) hr17
  have hr18 : q_ir (q_r f mo 20) anm := Eq.trans (hB.2.2.r hmo (by rw [kmo]; rfl)) hr18
  have hr19 : q_ir (q_r f mo 24) hp := Eq.trans (hB.2.2.r hmo (by rw [kmo]; rfl)) hr19
  have hr20 : q_ir (q_r f mo 25) dy := Eq.trans (hB.2.2.r hmo (by rw [kmo]; rfl)) hr20
  have hr21 : q_ir (q_r f mo 29) cs := Eq.trans (hB.2.2.r hmo (by rw [kmo]; rfl)) hr21
  have hr22 : q_ir (q_r f mo 30) c1 := Eq.trans (hB.2.2.r hmo (by rw [kmo]; rfl)) hr22
  have hr23 : q_ir (q_r f mo 31) c2 := Eq.trans (hB.2.2.r hmo (by rw [kmo]; rfl)) hr23
  have hr24 : q_ir (q_r f mo 32) c3 := Eq.trans (hB.2.2.r hmo (by rw [kmo]; rfl)) hr24
  have hr25 : q_ir (q_r f mo 33) bg := Eq.trans (hB.2.2.r hmo (by rw [kmo]; rfl)) hr25
  have hr26 : q_ir (q_r f mo 34) lp := Eq.trans (hB.2.2.r hmo (by rw [kmo]; rfl)) hr26
  have hr27 : q_ir (q_r f mo 38) rp := Eq.trans (hB.2.2.r hmo (by rw [kmo]; rfl)) hr27
  obtain ⟨x1, ex1⟩ : ∃ zz, q_is (q_z f sr 3) zz := ⟨_, q_isr _⟩
  obtain ⟨lx1, ux1⟩ : 0 ≤ x1 ∧ x1 ≤ 9999 := q_isb ex1 ⟨(hgr 3 (by decide)).1, ht3⟩
  obtain ⟨x2, ex2⟩ : ∃ zz, q_is (q_z f sr 4) zz := ⟨_, q_isr _⟩
  obtain ⟨lx2, ux2⟩ : 0 ≤ x2 ∧ x2 ≤ 60 := q_isb ex2 ⟨(hgr 4 (by decide)).1, ht4⟩
  refine q_ald_n cx dL_law_1370 rfl (lv_at hl 4 rfl) ?_
  refine q_ald_n cx dL_law_1371 rfl (lv_at hl 5 rfl) ?_
  refine lv_iload cx.1 cx.2.1 dL_law_1372 (lv_at hl 0 rfl) ?_
  refine q_iconst cx dL_law_1374 ?_
  refine q_iadd cx dL_law_1375 ?_
  refine va_sld cx.1 cx.2.1 hXs hbl hbA hB.1.2.2.2 (q_in (by omega) (by omega) (by omega)) dL_law_1376 ?_
  obtain ⟨a3, ra3, ea3⟩ : ∃ z : Int, q_R z ∧ xs (q_i (ii + 1)).toNatClampNeg = q_i z := ⟨_, q_rng _, (q_of _).symm⟩
  rw [ea3]
  refine q_ald_n cx dL_law_1377 rfl (lv_at hl 5 rfl) ?_
  refine lv_iload cx.1 cx.2.1 dL_law_1378 (lv_at hl 0 rfl) ?_
  refine q_iconst cx dL_law_1380 ?_
  refine q_iadd cx dL_law_1381 ?_
  refine va_sld cx.1 cx.2.1 hXs hbl hbA hB.1.2.2.2 (q_in (by omega) (by omega) (by omega)) dL_law_1382 ?_
  obtain ⟨a4, ra4, ea4⟩ : ∃ z : Int, q_R z ∧ xs (q_i (ii + 2)).toNatClampNeg = q_i z := ⟨_, q_rng _, (q_of _).symm⟩
  rw [ea4]
  refine q_ald_n cx dL_law_1383 rfl (lv_at hl 2 rfl) ?_
  refine q_cWS (As := [.ref x, .int (q_i a3), .int (q_i a4), .ref out]) (rest := []) cx hX hB (fun q h => hLA q h) (fun q h1 h2 => absurd h1 (Nat.not_le_of_lt h2)) hN (w_charge l g ad hN hB.2.1 hfl x hx kx a3 (by omega) (by omega) a4 (by omega) (by omega) out hout kout src hsrc ksrc rdr hrdr krdr scr hscr kscr fc hfc kfc hist hhist khist rep hrep krep now hnow know dr hdr kdr sv hsv ksv tr htr ktr hr0 hr1 hr2 hr3 hr4 hr5 hr6 hr7 hr8 hr9) q_cL_237 q_dL_charge ⟨by decide, by show cells + 2 ≤ 601024; omega, by show slots + 12 ≤ 7293034; omega⟩ rfl rfl hl.1 rfl (Nat.le_of_ble_eq_true rfl) dL_law_1384 (fun v9 H locs f5 h7 hF hB => ?_)
  obtain ⟨y6, rfl, ry6, h7⟩ := h7
  refine W.eq (g2 := F0 m 1387 ls [.int (q_i y6)]) rfl ?_
  obtain ⟨ly6, uy6⟩ := h7
  have z8 : q_is (q_z f5 src 1) xn := Eq.trans (hF.z hsrc (by rw [ksrc]; rfl)) hn0
  have z9 : q_is (q_z f5 mo 2) xn := Eq.trans (hF.z hmo (by rw [kmo]; rfl)) hn1
  have z10 : q_is (q_z f5 sr 3) x1 := Eq.trans (hF.z hsr (by rw [ksr]; rfl)) ex1
  have z11 : q_is (q_z f5 sr 4) x2 := Eq.trans (hF.z hsr (by rw [ksr]; rfl)) ex2
  have z12 : q_ir (q_r f5 x 0) src := Eq.trans (hF.r hx (by rw [kx]; rfl)) hr0
  have z13 : q_ir (q_r f5 x 1) rdr := Eq.trans (hF.r hx (by rw [kx]; rfl)) hr1
  have z14 : q_ir (q_r f5 x 2) scr := Eq.trans (hF.r hx (by rw [kx]; rfl)) hr2
  have z15 : q_ir (q_r f5 x 3) fc := Eq.trans (hF.r hx (by rw [kx]; rfl)) hr3
  have z16 : q_ir (q_r f5 x 4) hist := Eq.trans (hF.r hx (by rw [kx]; rfl)) hr4
  have z17 : q_ir (q_r f5 x 5) rep := Eq.trans (hF.r hx (by rw [kx]; rfl)) hr5
  have z18 : q_ir (q_r f5 x 6) now := Eq.trans (hF.r hx (by rw [kx]; rfl)) hr6
  have z19 : q_ir (q_r f5 x 7) dr := Eq.trans (hF.r hx (by rw [kx]; rfl)) hr7
  have z20 : q_ir (q_r f5 x 8) sv := Eq.trans (hF.r hx (by rw [kx]; rfl)) hr8
  have z21 : q_ir (q_r f5 fc 0) tr := Eq.trans (hF.r hfc (by rw [kfc]; rfl)) hr9
  have z22 : q_ir (q_r f5 mo 1) bu := Eq.trans (hF.r hmo (by rw [kmo]; rfl)) hr10
  have z23 : q_ir (q_r f5 mo 13) sr := Eq.trans (hF.r hmo (by rw [kmo]; rfl)) hr11
  have z24 : q_ir (q_r f5 mo 14) sd := Eq.trans (hF.r hmo (by rw [kmo]; rfl)) hr12
  have z25 : q_ir (q_r f5 mo 15) as := Eq.trans (hF.r hmo (by rw [kmo]; rfl)) hr13
  have z26 : q_ir (q_r f5 mo 16) aw := Eq.trans (hF.r hmo (by rw [kmo]; rfl)) hr14
  have z27 : q_ir (q_r f5 mo 17) pa := Eq.trans (hF.r hmo (by rw [kmo]; rfl)) hr15
  have z28 : q_ir (q_r f5 mo 18) nm := Eq.trans (hF.r hmo (by rw [kmo]; rfl)) hr16
  have z29 : q_ir (q_r f5 mo 19) snm := Eq.trans (hF.r hmo (by rw [kmo]; rfl)) hr17
  have z30 : q_ir (q_r f5 mo 20) anm := Eq.trans (hF.r hmo (by rw [kmo]; rfl)) hr18
  have z31 : q_ir (q_r f5 mo 24) hp := Eq.trans (hF.r hmo (by rw [kmo]; rfl)) hr19
  have z32 : q_ir (q_r f5 mo 25) dy := Eq.trans (hF.r hmo (by rw [kmo]; rfl)) hr20
  have z33 : q_ir (q_r f5 mo 29) cs := Eq.trans (hF.r hmo (by rw [kmo]; rfl)) hr21
  have z34 : q_ir (q_r f5 mo 30) c1 := Eq.trans (hF.r hmo (by rw [kmo]; rfl)) hr22
  have z35 : q_ir (q_r f5 mo 31) c2 := Eq.trans (hF.r hmo (by rw [kmo]; rfl)) hr23
  have z36 : q_ir (q_r f5 mo 32) c3 := Eq.trans (hF.r hmo (by rw [kmo]; rfl)) hr24
  have z37 : q_ir (q_r f5 mo 33) bg := Eq.trans (hF.r hmo (by rw [kmo]; rfl)) hr25
  have z38 : q_ir (q_r f5 mo 34) lp := Eq.trans (hF.r hmo (by rw [kmo]; rfl)) hr26
  have z39 : q_ir (q_r f5 mo 38) rp := Eq.trans (hF.r hmo (by rw [kmo]; rfl)) hr27
  have g40 : q_gr f5 sr := q_gr_fr hgr (fun i9 _ => hF.z hsr (by rw [ksr]; rfl))
  have g41 : q_pk f5 mo pa := q_pk_tr hpk (hF.z hmo (by rw [kmo]; rfl)) (fun i9 => hF.z hpa (by rw [kpa]; rfl))
  have g42 : q_sv f5 mo sd := q_sv_tr hsd9 (hF.z hmo (by rw [kmo]; rfl)) (fun i9 => hF.z hsd (by rw [ksd]; rfl))
  refine lv_istore (lv' := [(6, .int (q_i y6)), (5, .int (q_i ii)), (4, .ref outD), (3, .ref out), (2, .ref mo), (1, .ref x), (0, .ref b)]) cx.1 cx.2.1 dL_law_1387 hl (by decide) rfl (fun ls hl => ?_)
  refine q_ald_n cx dL_law_1389 rfl (lv_at hl 4 rfl) ?_
  refine q_ald_n cx dL_law_1390 rfl (lv_at hl 6 rfl) ?_
  refine lv_iload cx.1 cx.2.1 dL_law_1391 (lv_at hl 1 rfl) ?_
  refine q_iconst cx dL_law_1393 ?_
  refine q_iadd cx dL_law_1394 ?_
  refine va_sld cx.1 cx.2.1 hXs hbl hbA hB.1.2.2.2 (q_in (by omega) (by omega) (by omega)) dL_law_1395 ?_
  rw [ea3]
  refine q_ald_n cx dL_law_1396 rfl (lv_at hl 6 rfl) ?_
  refine lv_iload cx.1 cx.2.1 dL_law_1397 (lv_at hl 1 rfl) ?_
  refine q_iconst cx dL_law_1399 ?_
  refine q_iadd cx dL_law_1400 ?_
  refine va_sld cx.1 cx.2.1 hXs hbl hbA hB.1.2.2.2 (q_in (by omega) (by omega) (by omega)) dL_law_1401 ?_
  rw [ea4]
  refine q_cVi (As := [.int (q_i a3), .int (q_i a4)]) (rest := []) cx hB (fun q h => hLA q h) hN hmo kmo (by decide) rfl (r_charge l g hN hB.2.1 mo hmo kmo a3 (by omega) (by omega) a4 (by omega) (by omega) sr hsr ksr as has kas pa hpa kpa x1 (by omega) (by omega) x2 (by omega) (by omega) z10 z11 z23 z25 z27 g40 g41) q_cL_239 q_dX12_charge ⟨by decide, by show cells + 2 ≤ 601024; omega, by show slots + 12 ≤ 7293034; omega⟩ rfl rfl hl.1 rfl (Nat.le_of_ble_eq_true rfl) dL_law_1402 (fun y44 H locs f43 ry44 h45 hF hB => ?_)
  obtain ⟨ly44, uy44, lz46, uz46, lz47, uz47, g48, g49⟩ := h45
  have z50 : q_is (q_z f43 src 1) xn := Eq.trans (hF.z hsrc (by rw [ksrc]; rfl)) z8
  have z51 : q_is (q_z f43 mo 2) xn := Eq.trans (hF.z hmo (by rw [kmo]; rfl)) z9
  have z52 : q_is (q_z f43 sr 3) x1 := Eq.trans (hF.z hsr (by rw [ksr]; rfl)) z10
  have z53 : q_is (q_z f43 sr 4) x2 := Eq.trans (hF.z hsr (by rw [ksr]; rfl)) z11
  have z54 : q_ir (q_r f43 x 0) src := Eq.trans (hF.r hx (by rw [kx]; rfl)) z12
  have z55 : q_ir (q_r f43 x 1) rdr := Eq.trans (hF.r hx (by rw [kx]; rfl)) z13
  have z56 : q_ir (q_r f43 x 2) scr := Eq.trans (hF.r hx (by rw [kx]; rfl)) z14
  have z57 : q_ir (q_r f43 x 3) fc := Eq.trans (hF.r hx (by rw [kx]; rfl)) z15
  have z58 : q_ir (q_r f43 x 4) hist := Eq.trans (hF.r hx (by rw [kx]; rfl)) z16
  have z59 : q_ir (q_r f43 x 5) rep := Eq.trans (hF.r hx (by rw [kx]; rfl)) z17
  have z60 : q_ir (q_r f43 x 6) now := Eq.trans (hF.r hx (by rw [kx]; rfl)) z18
  have z61 : q_ir (q_r f43 x 7) dr := Eq.trans (hF.r hx (by rw [kx]; rfl)) z19
  have z62 : q_ir (q_r f43 x 8) sv := Eq.trans (hF.r hx (by rw [kx]; rfl)) z20
  have z63 : q_ir (q_r f43 fc 0) tr := Eq.trans (hF.r hfc (by rw [kfc]; rfl)) z21
  have z64 : q_ir (q_r f43 mo 1) bu := Eq.trans (hF.r hmo (by rw [kmo]; rfl)) z22
  have z65 : q_ir (q_r f43 mo 13) sr := Eq.trans (hF.r hmo (by rw [kmo]; rfl)) z23
  have z66 : q_ir (q_r f43 mo 14) sd := Eq.trans (hF.r hmo (by rw [kmo]; rfl)) z24
  have z67 : q_ir (q_r f43 mo 15) as := Eq.trans (hF.r hmo (by rw [kmo]; rfl)) z25
  have z68 : q_ir (q_r f43 mo 16) aw := Eq.trans (hF.r hmo (by rw [kmo]; rfl)) z26
  have z69 : q_ir (q_r f43 mo 17) pa := Eq.trans (hF.r hmo (by rw [kmo]; rfl)) z27
  have z70 : q_ir (q_r f43 mo 18) nm := Eq.trans (hF.r hmo (by rw [kmo]; rfl)) z28
  have z71 : q_ir (q_r f43 mo 19) snm := Eq.trans (hF.r hmo (by rw [kmo]; rfl)) z29
  have z72 : q_ir (q_r f43 mo 20) anm := Eq.trans (hF.r hmo (by rw [kmo]; rfl)) z30
  have z73 : q_ir (q_r f43 mo 24) hp := Eq.trans (hF.r hmo (by rw [kmo]; rfl)) z31
  have z74 : q_ir (q_r f43 mo 25) dy := Eq.trans (hF.r hmo (by rw [kmo]; rfl)) z32
  have z75 : q_ir (q_r f43 mo 29) cs := Eq.trans (hF.r hmo (by rw [kmo]; rfl)) z33
  have z76 : q_ir (q_r f43 mo 30) c1 := Eq.trans (hF.r hmo (by rw [kmo]; rfl)) z34
  have z77 : q_ir (q_r f43 mo 31) c2 := Eq.trans (hF.r hmo (by rw [kmo]; rfl)) z35
  have z78 : q_ir (q_r f43 mo 32) c3 := Eq.trans (hF.r hmo (by rw [kmo]; rfl)) z36
  have z79 : q_ir (q_r f43 mo 33) bg := Eq.trans (hF.r hmo (by rw [kmo]; rfl)) z37
  have z80 : q_ir (q_r f43 mo 34) lp := Eq.trans (hF.r hmo (by rw [kmo]; rfl)) z38
  have z81 : q_ir (q_r f43 mo 38) rp := Eq.trans (hF.r hmo (by rw [kmo]; rfl)) z39
  have g82 : q_sv f43 mo sd := q_sv_tr g42 (hF.z hmo (by rw [kmo]; rfl)) (fun i9 => hF.z hsd (by rw [ksd]; rfl))
  obtain ⟨x83, ex83⟩ : ∃ zz, q_is (q_z f43 sr 3) zz := ⟨_, q_isr _⟩
  obtain ⟨lx83, ux83⟩ := q_isb ex83 ⟨lz46, uz46⟩
  obtain ⟨x84, ex84⟩ : ∃ zz, q_is (q_z f43 sr 4) zz := ⟨_, q_isr _⟩
  obtain ⟨lx84, ux84⟩ := q_isb ex84 ⟨lz47, uz47⟩
  refine lv_istore (lv' := [(7, .int (q_i y44)), (6, .int (q_i y6)), (5, .int (q_i ii)), (4, .ref outD), (3, .ref out), (2, .ref mo), (1, .ref x), (0, .ref b)]) cx.1 cx.2.1 dL_law_1405 hl (by decide) rfl (fun ls hl => ?_)
  refine lv_goto (tgt := 1521) cx.1 cx.2.1 dL_law_1407 (by decide) ?_
  refine W.widen (k := cells + 6) (n := slots + 36) (by omega) (by omega) ?_
  exact kk f43 H locs ls xn hB ⟨⟨z50, (Eq.trans z51 (by omega)), by omega, by omega⟩, g48, g49, g82, q_isu ex83 (by omega), q_isu ex84 (by omega)⟩ (lv_sub hl [2, 3, 4, 5, 6, 7] rfl)
