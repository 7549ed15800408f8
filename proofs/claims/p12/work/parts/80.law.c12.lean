set_option maxHeartbeats 4000000 in
set_option maxRecDepth 100000 in
theorem law_c1262 {p : Program} {l : Launch} {e : Env} {s : State} {m : MethodId} {below : List Frame} {meth : Method} {c : Code} {b N9 : Nat} {xs : Nat → Int32} (hfl : l.stackTraces = false) (hN9 : N9 ≤ 3072) (C0 : lw_At p s m meth c b N9 xs) (cx : CallFix p m c cL_law 10 s #[Value.ref b] q_al RL) {g : q_G} {ad : Nat → Nat} {K : Nat → Nat} {L : List Nat} (hN : L.Nodup) (hLA : ∀ q, q ∈ L → s.heap.size ≤ q) (hX : q_X ad (fun q => q ∈ L) s) {f0 : Nat → va_E} {x : Nat} (hx : x ∈ L) (kx : K x = 11) {so : Nat} (hso : so ∈ L) (kso : K so = 8) {rd : Nat} (hrd : rd ∈ L) (krd : K rd = 9) {scr : Nat} (hscr : scr ∈ L) (kscr : K scr = 7) {fc : Nat} (hfc : fc ∈ L) (kfc : K fc = 1) {hist : Nat} (hhist : hist ∈ L) (khist : K hist = 2) {rep : Nat} (hrep : rep ∈ L) (krep : K rep = 6) {now : Nat} (hnow : now ∈ L) (know : K now = 10) {dr : Nat} (hdr : dr ∈ L) (kdr : K dr = 13) {sv : Nat} (hsv : sv ∈ L) (ksv : K sv = 14) {tr : Nat} (htr : tr ∈ L) (ktr : K tr = 15) {ba : Nat} (hba : ba ∈ L) (kba : K ba = 142) {nds : Nat} (hnds : nds ∈ L) (knds : K nds = 111) {ka : Nat} (hka : ka ∈ L) (kka : K ka = 140) {ndn : Nat} (hndn : ndn ∈ L) (kndn : K ndn = 110) {nsv : Nat} (hnsv : nsv ∈ L) (knsv : K nsv = 112) {mo : Nat} (hmo : mo ∈ L) (kmo : K mo = 12) {bu : Nat} (hbu : bu ∈ L) (kbu : K bu = 150) {sr : Nat} (hsr : sr ∈ L) (ksr : K sr = 151) {sd : Nat} (hsd : sd ∈ L) (ksd : K sd = 152) {as : Nat} (has : as ∈ L) (kas : K as = 153) {aw : Nat} (haw : aw ∈ L) (kaw : K aw = 154) {pa : Nat} (hpa : pa ∈ L) (kpa : K pa = 155) {nm : Nat} (hnm : nm ∈ L) (knm : K nm = 156) {snm : Nat} (hsnm : snm ∈ L) (ksnm : K snm = 157) {anm : Nat} (hanm : anm ∈ L) (kanm : K anm = 158) {hp : Nat} (hhp : hp ∈ L) (khp : K hp = 159) {dy : Nat} (hdy : dy ∈ L) (kdy : K dy = 160) {cs : Nat} (hcs : cs ∈ L) (kcs : K cs = 161) {c1 : Nat} (hc1 : c1 ∈ L) (kc1 : K c1 = 162) {c2 : Nat} (hc2 : c2 ∈ L) (kc2 : K c2 = 163) {c3 : Nat} (hc3 : c3 ∈ L) (kc3 : K c3 = 164) {bg : Nat} (hbg : bg ∈ L) (kbg : K bg = 165) {lp : Nat} (hlp : lp ∈ L) (klp : K lp = 166) {rp : Nat} (hrp : rp ∈ L) (krp : K rp = 167) {out : Nat} (hout : out ∈ L) (kout : K out = 168) {outD : Nat} (houtD : outD ∈ L) (koutD : K outD = 169) (hr0 : q_ir (q_r f0 x 0) so) (hr1 : q_ir (q_r f0 x 1) rd) (hr2 : q_ir (q_r f0 x 2) scr) (hr3 : q_ir (q_r f0 x 3) fc) (hr4 : q_ir (q_r f0 x 4) hist) (hr5 : q_ir (q_r f0 x 5) rep) (hr6 : q_ir (q_r f0 x 6) now) (hr7 : q_ir (q_r f0 x 7) dr) (hr8 : q_ir (q_r f0 x 8) sv) (hr9 : q_ir (q_r f0 fc 0) tr) (hr10 : q_ir (q_r f0 so 0) ba) (hr11 : q_ir (q_r f0 dr 0) nds) (hr12 : q_ir (q_r f0 hist 0) ka) (hr13 : q_ir (q_r f0 now 0) ndn) (hr14 : q_ir (q_r f0 sv 0) nsv) (hr15 : q_ir (q_r f0 mo 1) bu) (hr16 : q_ir (q_r f0 mo 13) sr) (hr17 : q_ir (q_r f0 mo 14) sd) (hr18 : q_ir (q_r f0 mo 15) as) (hr19 : q_ir (q_r f0 mo 16) aw) (hr20 : q_ir (q_r f0 mo 17) pa) (hr21 : q_ir (q_r f0 mo 18) nm) (hr22 : q_ir (q_r f0 mo 19) snm) (hr23 : q_ir (q_r f0 mo 20) anm) (hr24 : q_ir (q_r f0 mo 24) hp) (hr25 : q_ir (q_r f0 mo 25) dy) (hr26 : q_ir (q_r f0 mo 29) cs) (hr27 : q_ir (q_r f0 mo 30) c1) (hr28 : q_ir (q_r f0 mo 31) c2) (hr29 : q_ir (q_r f0 mo 32) c3) (hr30 : q_ir (q_r f0 mo 33) bg) (hr31 : q_ir (q_r f0 mo 34) lp) (hr32 : q_ir (q_r f0 mo 38) rp) (hij : tk_ij K L f0 nds) {f : Nat → va_E} {H : Heap} {locs : List Loc} {ls : Array Slot} {cells slots : Nat} {ii tn : Int} {nl9 ls9 : List (List Int)} {xc : Int} (hB : q_B g K L (fun q => s.heap.size ≤ q) [(0, 0, 6), (2, 1, 2), (3, 0, 4), (4, 0, 7), (5, 0, 9), (6, 1, 1), (7, 1, 4), (8, 1, 9), (9, 0, 2), (10, 3, 15), (11, 9, 9), (12, 0, 0), (12, 2, 12), (12, 21, 23), (12, 26, 28), (12, 35, 37), (12, 39, 40), (13, 3, 15), (14, 3, 15), (15, 3, 15), (16, 3, 15), (17, 0, 9), (18, 0, 9), (19, 0, 9), (20, 0, 9), (21, 0, 4), (22, 0, 4), (23, 0, 4), (24, 0, 4), (25, 0, 7), (26, 0, 7), (27, 0, 7), (28, 0, 7), (142, 0, 599), (143, 0, 599), (150, 0, 599), (151, 0, 657), (152, 0, 657), (153, 0, 657), (154, 0, 657), (155, 0, 3947), (156, 0, 9), (157, 0, 9), (158, 0, 9), (159, 0, 9), (160, 0, 9), (161, 0, 59), (162, 0, 58), (163, 0, 58), (164, 0, 58), (165, 0, 1), (166, 0, 1), (167, 0, 479), (168, 0, 0), (169, 0, 0)] f0 f s H locs) (hI : q_Iv5 K L f x so mo sr pa sd bu ba now ndn hist ka sv nsv nm snm tn nl9 ls9 xc) (hl : lv_has ls 10 [(5, .int (q_i ii)), (4, .ref outD), (3, .ref out), (2, .ref mo), (1, .ref x), (0, .ref b)]) (hi0 : 0 ≤ ii) (hi6 : ii + 6 ≤ N9) (hce : cells + 6 ≤ 10000) (hse : slots + 36 ≤ 100000) (kk : ∀ (f1 : Nat → va_E) (H1 : Heap) (locs1 : List Loc) (ls1 : Array Slot) (tn1 : Int) (nl1 ls1_ : List (List Int)) (xc1 : Int), q_B g K L (fun q => s.heap.size ≤ q) [(0, 0, 6), (2, 1, 2), (3, 0, 4), (4, 0, 7), (5, 0, 9), (6, 1, 1), (7, 1, 4), (8, 1, 9), (9, 0, 2), (10, 3, 15), (11, 9, 9), (12, 0, 0), (12, 2, 12), (12, 21, 23), (12, 26, 28), (12, 35, 37), (12, 39, 40), (13, 3, 15), (14, 3, 15), (15, 3, 15), (16, 3, 15), (17, 0, 9), (18, 0, 9), (19, 0, 9), (20, 0, 9), (21, 0, 4), (22, 0, 4), (23, 0, 4), (24, 0, 4), (25, 0, 7), (26, 0, 7), (27, 0, 7), (28, 0, 7), (142, 0, 599), (143, 0, 599), (150, 0, 599), (151, 0, 657), (152, 0, 657), (153, 0, 657), (154, 0, 657), (155, 0, 3947), (156, 0, 9), (157, 0, 9), (158, 0, 9), (159, 0, 9), (160, 0, 9), (161, 0, 59), (162, 0, 58), (163, 0, 58), (164, 0, 58), (165, 0, 1), (166, 0, 1), (167, 0, 479), (168, 0, 0), (169, 0, 0)] f0 f1 s H1 locs1 → q_Iv5 K L f1 x so mo sr pa sd bu ba now ndn hist ka sv nsv nm snm tn1 nl1 ls1_ xc1 → lv_has ls1 10 [(5, .int (q_i ii)), (4, .ref outD), (3, .ref out), (2, .ref mo), (1, .ref x), (0, .ref b)] → W p l e room_1 s m #[Value.ref b] below meth c H1 locs1 (cells + 6) (slots + 36) (lw_Z below #[Value.ref b] s) (F0 m 1521 ls1 [])) : W p l e room_1 s m #[Value.ref b] below meth c H locs (cells) (slots) (lw_Z below #[Value.ref b] s) (F0 m 1262 ls []) := by
  have hXs := C0.2.2.2.2.2.2.1
  have hbl := C0.2.2.2.2.2.2.2.1
  have hbA := q_bA hbl
  obtain ⟨⟨hn0, hn1, ltn, utn⟩, hgr, hpk, hsd9, ht3, ht4, hbb, hsr0, hxc, hvn, hvk, hvs, hrn9, hrs9, hpc, hs22⟩ := hI
  have lxc : 0 ≤ xc := by omega
  have uxc : xc ≤ 10 := by have h7 := hvn.2.1.2; omega
  have hr0 : q_ir (q_r f x 0) so := Eq.trans (hB.2.2.r hx (by rw [kx]; rfl)) hr0
  have hr1 : q_ir (q_r f x 1) rd := Eq.trans (hB.2.2.r hx (by rw [kx]; rfl)) hr1
  have hr2 : q_ir (q_r f x 2) scr := Eq.trans (hB.2.2.r hx (by rw [kx]; rfl)) hr2
  have hr3 : q_ir (q_r f x 3) fc := Eq.trans (hB.2.2.r hx (by rw [kx]; rfl)) hr3
  have hr4 : q_ir (q_r f x 4) hist := Eq.trans (hB.2.2.r hx (by rw [kx]; rfl)) hr4
  have hr5 : q_ir (q_r f x 5) rep := Eq.trans (hB.2.2.r hx (by rw [kx]; rfl)) hr5
  have hr6 : q_ir (q_r f x 6) now := Eq.trans (hB.2.2.r hx (by rw [kx]; rfl)) hr6
  have hr7 : q_ir (q_r f x 7) dr := Eq.trans (hB.2.2.r hx (by rw [kx]; rfl)) hr7
  have hr8 : q_ir (q_r f x 8) sv := Eq.trans (hB.2.2.r hx (by rw [kx]; rfl)) hr8
  have hr9 : q_ir (q_r f fc 0) tr := Eq.trans (hB.2.2.r hfc (by rw [kfc]; rfl)) hr9
  have hr10 : q_ir (q_r f so 0) ba := Eq.trans (hB.2.2.r hso (by rw [kso]; rfl)) hr10
  have hr11 : q_ir (q_r f dr 0) nds := Eq.trans (hB.2.2.r hdr (by rw [kdr]; rfl)) hr11
  have hr12 : q_ir (q_r f hist 0) ka := Eq.trans (hB.2.2.r hhist (by rw [khist]; rfl)) hr12
  have hr13 : q_ir (q_r f now 0) ndn := Eq.trans (hB.2.2.r hnow (by rw [know]; rfl)) hr13
  have hr14 : q_ir (q_r f sv 0) nsv := Eq.trans (hB.2.2.r hsv (by rw [ksv]; rfl)) hr14
  have hr15 : q_ir (q_r f mo 1) bu := Eq.trans (hB.2.2.r hmo (by rw [kmo]; rfl)) hr15
  have hr16 : q_ir (q_r f mo 13) sr := Eq.trans (hB.2.2.r hmo (by rw [kmo]; rfl)) hr16
  have hr17 : q_ir (q_r f mo 14) sd := Eq.trans (hB.2.2.r hmo (by rw [kmo]; rfl)) hr17
  have hr18 : q_ir (q_r f mo 15) as := Eq.trans (hB.2.2.r hmo (by rw [kmo]; rfl)) hr18
  have hr19 : q_ir (q_r f mo 16) aw := Eq.trans (hB.2.2.r hmo (by rw [kmo]; rfl)) hr19
  have hr20 : q_ir (q_r f mo 17) pa := Eq.trans (hB.2.2.r hmo (by rw [kmo]; rfl)) hr20
  have hr21 : q_ir (q_r f mo 18) nm := Eq.trans (hB.2.2.r hmo (by rw [kmo]; rfl)) hr21
  have hr22 : q_ir (q_r f mo 19) snm := Eq.trans (hB.2.2.r hmo (by rw [kmo]; rfl)) hr22
  have hr23 : q_ir (q_r f mo 20) anm := Eq.trans (hB.2.2.r hmo (by rw [kmo]; rfl)) hr23
  have hr24 : q_ir (q_r f mo 24) hp := Eq.trans (hB.2.2.r hmo (by rw [kmo]; rfl)) hr24
  have hr25 : q_ir (q_r f mo 25) dy := Eq.trans (hB.2.2.r hmo (by rw [kmo]; rfl)) hr25
  have hr26 : q_ir (q_r f mo 29) cs := Eq.trans (hB.2.2.r hmo (by rw [kmo]; rfl)) hr26
  have hr27 : q_ir (q_r f mo 30) c1 := Eq.trans (hB.2.2.r hmo (by rw [kmo]; rfl)) hr27
  have hr28 : q_ir (q_r f mo 31) c2 := Eq.trans (hB.2.2.r hmo (by rw [kmo]; rfl)) hr28
  have hr29 : q_ir (q_r f mo 32) c3 := Eq.trans (hB.2.2.r hmo (by rw [kmo]; rfl)) hr29
  have hr30 : q_ir (q_r f mo 33) bg := Eq.trans (hB.2.2.r hmo (by rw [kmo]; rfl)) hr30
  have hr31 : q_ir (q_r f mo 34) lp := Eq.trans (hB.2.2.r hmo (by rw [kmo]; rfl)) hr31
  have hr32 : q_ir (q_r f mo 38) rp := Eq.trans (hB.2.2.r hmo (by rw [kmo]; rfl)) hr32
  have hij : tk_ij K L f nds := tk_ij_tr hij (fun i9 => hB.2.2.r hnds (by rw [knds]; rfl))
  obtain ⟨x1, ex1⟩ : ∃ zz, q_is (q_z f sr 3) zz := ⟨_, q_isr _⟩
  obtain ⟨lx1, ux1⟩ : 0 ≤ x1 ∧ x1 ≤ 9999 := q_isb ex1 ⟨(hgr 3 (by decide)).1, ht3⟩
  obtain ⟨x2, ex2⟩ : ∃ zz, q_is (q_z f sr 4) zz := ⟨_, q_isr _⟩
  obtain ⟨lx2, ux2⟩ : 0 ≤ x2 ∧ x2 ≤ 60 := q_isb ex2 ⟨(hgr 4 (by decide)).1, ht4⟩
  refine q_ald_n cx dL_law_1262 rfl (lv_at hl 4 rfl) ?_
  refine q_ald_n cx dL_law_1263 rfl (lv_at hl 5 rfl) ?_
  refine lv_iload cx.1 cx.2.1 dL_law_1264 (lv_at hl 0 rfl) ?_
  refine q_iconst cx dL_law_1266 ?_
  refine q_iadd cx dL_law_1267 ?_
  refine va_sld cx.1 cx.2.1 hXs hbl hbA hB.1.2.2.2 (q_in (by omega) (by omega) (by omega)) dL_law_1268 ?_
  obtain ⟨a3, ra3, ea3⟩ : ∃ z : Int, q_R z ∧ xs (q_i (ii + 1)).toNatClampNeg = q_i z := ⟨_, q_rng _, (q_of _).symm⟩
  rw [ea3]
  refine q_ald_n cx dL_law_1269 rfl (lv_at hl 5 rfl) ?_
  refine lv_iload cx.1 cx.2.1 dL_law_1270 (lv_at hl 0 rfl) ?_
  refine q_iconst cx dL_law_1272 ?_
  refine q_iadd cx dL_law_1273 ?_
  refine va_sld cx.1 cx.2.1 hXs hbl hbA hB.1.2.2.2 (q_in (by omega) (by omega) (by omega)) dL_law_1274 ?_
  obtain ⟨a4, ra4, ea4⟩ : ∃ z : Int, q_R z ∧ xs (q_i (ii + 2)).toNatClampNeg = q_i z := ⟨_, q_rng _, (q_of _).symm⟩
  rw [ea4]
  refine q_ald_n cx dL_law_1275 rfl (lv_at hl 5 rfl) ?_
  refine lv_iload cx.1 cx.2.1 dL_law_1276 (lv_at hl 0 rfl) ?_
  refine q_iconst cx dL_law_1278 ?_
  refine q_iadd cx dL_law_1279 ?_
  refine va_sld cx.1 cx.2.1 hXs hbl hbA hB.1.2.2.2 (q_in (by omega) (by omega) (by omega)) dL_law_1280 ?_
  obtain ⟨a5, ra5, ea5⟩ : ∃ z : Int, q_R z ∧ xs (q_i (ii + 3)).toNatClampNeg = q_i z := ⟨_, q_rng _, (q_of _).symm⟩
  rw [ea5]
  refine q_ifeq (tgt := 1288) cx ⟨by omega, by omega⟩ dL_law_1281 (by decide) (fun c6 => ?_) (fun c6 => ?_)
  · refine q_iconst cx dL_law_1288 ?_
    refine q_ald_n cx dL_law_1289 rfl (lv_at hl 2 rfl) ?_
    refine q_cWS (As := [.ref x, .int (q_i a3), .int (q_i a4), .int (q_i 0), .ref out]) (rest := []) cx hX hB (fun q h => hLA q h) (fun q h1 h2 => absurd h1 (Nat.not_le_of_lt h2)) hN (f_wwatch l g ad hN hB.2.1 hfl nl9 x hx kx a3 (by omega) (by omega) a4 (by omega) (by omega) 0 (by decide) (by decide) out hout kout so hso kso rd hrd krd scr hscr kscr fc hfc kfc hist hhist khist rep hrep krep now hnow know dr hdr kdr sv hsv ksv tr htr ktr ba hba kba nds hnds knds ka hka kka ndn hndn kndn nsv hnsv knsv hr0 hr1 hr2 hr3 hr4 hr5 hr6 hr7 hr8 hr9 hr10 hr11 hr12 hr13 hr14 hvn hvk) q_cL_231 q_dL_watch ⟨by decide, by show cells + 2 ≤ 601024; omega, by show slots + 12 ≤ 7293034; omega⟩ rfl rfl hl.1 rfl (Nat.le_of_ble_eq_true rfl) dL_law_1290 (fun v9 H locs f7 h9 hF hB => ?_)
    obtain ⟨y8, rfl, ry8, h9⟩ := h9
    refine W.eq (g2 := F0 m 1293 ls [.int (q_i y8)]) rfl ?_
    obtain ⟨ly8, uy8, g10⟩ := h9
    have z11 : q_is (q_z f7 so 1) tn := Eq.trans (hF.z hso (by rw [kso]; rfl)) hn0
    have z12 : q_is (q_z f7 mo 2) tn := Eq.trans (hF.z hmo (by rw [kmo]; rfl)) hn1
    have z13 : q_is (q_z f7 sr 0) xc := Eq.trans (hF.z hsr (by rw [ksr]; rfl)) hsr0
    have z14 : q_is (q_z f7 sr 3) x1 := Eq.trans (hF.z hsr (by rw [ksr]; rfl)) ex1
    have z15 : q_is (q_z f7 sr 4) x2 := Eq.trans (hF.z hsr (by rw [ksr]; rfl)) ex2
    have z16 : q_ir (q_r f7 x 0) so := Eq.trans (hF.r hx (by rw [kx]; rfl)) hr0
    have z17 : q_ir (q_r f7 x 1) rd := Eq.trans (hF.r hx (by rw [kx]; rfl)) hr1
    have z18 : q_ir (q_r f7 x 2) scr := Eq.trans (hF.r hx (by rw [kx]; rfl)) hr2
    have z19 : q_ir (q_r f7 x 3) fc := Eq.trans (hF.r hx (by rw [kx]; rfl)) hr3
    have z20 : q_ir (q_r f7 x 4) hist := Eq.trans (hF.r hx (by rw [kx]; rfl)) hr4
    have z21 : q_ir (q_r f7 x 5) rep := Eq.trans (hF.r hx (by rw [kx]; rfl)) hr5
    have z22 : q_ir (q_r f7 x 6) now := Eq.trans (hF.r hx (by rw [kx]; rfl)) hr6
    have z23 : q_ir (q_r f7 x 7) dr := Eq.trans (hF.r hx (by rw [kx]; rfl)) hr7
    have z24 : q_ir (q_r f7 x 8) sv := Eq.trans (hF.r hx (by rw [kx]; rfl)) hr8
    have z25 : q_ir (q_r f7 fc 0) tr := Eq.trans (hF.r hfc (by rw [kfc]; rfl)) hr9
    have z26 : q_ir (q_r f7 so 0) ba := Eq.trans (hF.r hso (by rw [kso]; rfl)) hr10
    have z27 : q_ir (q_r f7 dr 0) nds := Eq.trans (hF.r hdr (by rw [kdr]; rfl)) hr11
    have z28 : q_ir (q_r f7 hist 0) ka := Eq.trans (hF.r hhist (by rw [khist]; rfl)) hr12
    have z29 : q_ir (q_r f7 now 0) ndn := Eq.trans (hF.r hnow (by rw [know]; rfl)) hr13
    have z30 : q_ir (q_r f7 sv 0) nsv := Eq.trans (hF.r hsv (by rw [ksv]; rfl)) hr14
    have z31 : q_ir (q_r f7 mo 1) bu := Eq.trans (hF.r hmo (by rw [kmo]; rfl)) hr15
    have z32 : q_ir (q_r f7 mo 13) sr := Eq.trans (hF.r hmo (by rw [kmo]; rfl)) hr16
    have z33 : q_ir (q_r f7 mo 14) sd := Eq.trans (hF.r hmo (by rw [kmo]; rfl)) hr17
    have z34 : q_ir (q_r f7 mo 15) as := Eq.trans (hF.r hmo (by rw [kmo]; rfl)) hr18
    have z35 : q_ir (q_r f7 mo 16) aw := Eq.trans (hF.r hmo (by rw [kmo]; rfl)) hr19
    have z36 : q_ir (q_r f7 mo 17) pa := Eq.trans (hF.r hmo (by rw [kmo]; rfl)) hr20
    have z37 : q_ir (q_r f7 mo 18) nm := Eq.trans (hF.r hmo (by rw [kmo]; rfl)) hr21
    have z38 : q_ir (q_r f7 mo 19) snm := Eq.trans (hF.r hmo (by rw [kmo]; rfl)) hr22
    have z39 : q_ir (q_r f7 mo 20) anm := Eq.trans (hF.r hmo (by rw [kmo]; rfl)) hr23
    have z40 : q_ir (q_r f7 mo 24) hp := Eq.trans (hF.r hmo (by rw [kmo]; rfl)) hr24
    have z41 : q_ir (q_r f7 mo 25) dy := Eq.trans (hF.r hmo (by rw [kmo]; rfl)) hr25
    have z42 : q_ir (q_r f7 mo 29) cs := Eq.trans (hF.r hmo (by rw [kmo]; rfl)) hr26
    have z43 : q_ir (q_r f7 mo 30) c1 := Eq.trans (hF.r hmo (by rw [kmo]; rfl)) hr27
    have z44 : q_ir (q_r f7 mo 31) c2 := Eq.trans (hF.r hmo (by rw [kmo]; rfl)) hr28
    have z45 : q_ir (q_r f7 mo 32) c3 := Eq.trans (hF.r hmo (by rw [kmo]; rfl)) hr29
    have z46 : q_ir (q_r f7 mo 33) bg := Eq.trans (hF.r hmo (by rw [kmo]; rfl)) hr30
    have z47 : q_ir (q_r f7 mo 34) lp := Eq.trans (hF.r hmo (by rw [kmo]; rfl)) hr31
    have z48 : q_ir (q_r f7 mo 38) rp := Eq.trans (hF.r hmo (by rw [kmo]; rfl)) hr32
    have g49 : q_gr f7 sr := q_gr_fr hgr (fun i9 _ => hF.z hsr (by rw [ksr]; rfl))
    have g50 : q_z f7 x 9 = q_z f7 mo 22 := tk_s2_tr hs22 (hF.z hx (by rw [kx]; rfl)) (hF.z hmo (by rw [kmo]; rfl))
    have g51 : q_pk f7 mo pa := q_pk_tr hpk (hF.z hmo (by rw [kmo]; rfl)) (fun i9 => hF.z hpa (by rw [kpa]; rfl))
    have g52 : q_sv f7 mo sd := q_sv_tr hsd9 (hF.z hmo (by rw [kmo]; rfl)) (fun i9 => hF.z hsd (by rw [ksd]; rfl))
    have g53 : tk_bb f7 bu ba tn := tk_bb_tr hbb (fun i9 => hF.z hbu (by rw [kbu]; rfl)) (fun i9 => hF.z hba (by rw [kba]; rfl))
    have g54 : tk_ij K L f7 nds := tk_ij_tr hij (fun i9 => hF.r hnds (by rw [knds]; rfl))
    have g55 : tk_vn K L 5 f7 now ndn nl9 := tk_vn_tr hvn (hF.z hnow (by rw [know]; rfl)) (fun a9 h9 k9 => hF.j h9 (by rw [k9]; rfl)) (fun i9 => hF.r hndn (by rw [kndn]; rfl))
    have g56 : tk_vs K L f7 x sv nsv ls9 := tk_vs_tr hvs (hF.z hx (by rw [kx]; rfl)) (hF.z hsv (by rw [ksv]; rfl)) (fun a9 h9 k9 => hF.j h9 (by rw [k9]; rfl)) (fun i9 => hF.r hnsv (by rw [knsv]; rfl))
    have g57 : tk_nq f7 nm nl9 := tk_nq_tr hrn9 (fun i9 => hF.j hnm (by rw [knm]; rfl))
    have g58 : tk_rs f7 mo sd snm ls9 := tk_rs_tr hrs9 (hF.z hmo (by rw [kmo]; rfl)) (fun i9 h9 k9 => hF.z hsd (by rw [ksd]; exact q_inWr rfl h9 k9)) (fun i9 => hF.j hsnm (by rw [ksnm]; rfl))
    have g59 : q_pc f7 mo pa xc := q_pc_tr hpc (hF.z hmo (by rw [kmo]; rfl)) (fun i9 => hF.z hpa (by rw [kpa]; rfl))
    refine lv_istore (lv' := [(6, .int (q_i y8)), (5, .int (q_i ii)), (4, .ref outD), (3, .ref out), (2, .ref mo), (1, .ref x), (0, .ref b)]) cx.1 cx.2.1 dL_law_1293 hl (by decide) rfl (fun ls hl => ?_)
    refine q_ald_n cx dL_law_1295 rfl (lv_at hl 4 rfl) ?_
    refine q_ald_n cx dL_law_1296 rfl (lv_at hl 6 rfl) ?_
    refine lv_iload cx.1 cx.2.1 dL_law_1297 (lv_at hl 1 rfl) ?_
    refine q_iconst cx dL_law_1299 ?_
    refine q_iadd cx dL_law_1300 ?_
    refine va_sld cx.1 cx.2.1 hXs hbl hbA hB.1.2.2.2 (q_in (by omega) (by omega) (by omega)) dL_law_1301 ?_
    rw [ea3]
    refine q_ald_n cx dL_law_1302 rfl (lv_at hl 6 rfl) ?_
    refine lv_iload cx.1 cx.2.1 dL_law_1303 (lv_at hl 1 rfl) ?_
    refine q_iconst cx dL_law_1305 ?_
    refine q_iadd cx dL_law_1306 ?_
    refine va_sld cx.1 cx.2.1 hXs hbl hbA hB.1.2.2.2 (q_in (by omega) (by omega) (by omega)) dL_law_1307 ?_
    rw [ea4]
    refine q_ald_n cx dL_law_1308 rfl (lv_at hl 6 rfl) ?_
    refine lv_iload cx.1 cx.2.1 dL_law_1309 (lv_at hl 1 rfl) ?_
    refine q_iconst cx dL_law_1311 ?_
    refine q_iadd cx dL_law_1312 ?_
    refine va_sld cx.1 cx.2.1 hXs hbl hbA hB.1.2.2.2 (q_in (by omega) (by omega) (by omega)) dL_law_1313 ?_
    rw [ea5]
    refine q_ifeq (tgt := 1321) cx ⟨by omega, by omega⟩ dL_law_1314 (by decide) (fun c60 => ?_) (fun c60 => ?_)
    · refine q_iconst cx dL_law_1321 ?_
      refine q_cVi (As := [.int (q_i a3), .int (q_i a4), .int (q_i 0)]) (rest := []) cx hB (fun q h => hLA q h) hN hmo kmo (by decide) rfl (r_watch l g hN hB.2.1 mo hmo kmo a3 (by omega) (by omega) a4 (by omega) (by omega) 0 (by decide) (by decide) sr hsr ksr as has kas pa hpa kpa x1 (by omega) (by omega) x2 (by omega) (by omega) xc (by omega) (by omega) z14 z15 z13 z32 z34 z36 g49 g51 g59) q_cL_233 q_dX12_watch ⟨by decide, by show cells + 2 ≤ 601024; omega, by show slots + 12 ≤ 7293034; omega⟩ rfl rfl hl.1 rfl (Nat.le_of_ble_eq_true rfl) dL_law_1322 (fun y62 H locs f61 ry62 h63 hF hB => ?_)
      obtain ⟨ly62, uy62, lz64, uz64, lz65, uz65, z66, g67, g68, g69⟩ := h63
      have z70 : q_is (q_z f61 so 1) tn := Eq.trans (hF.z hso (by rw [kso]; rfl)) z11
      have z71 : q_is (q_z f61 mo 2) tn := Eq.trans (hF.z hmo (by rw [kmo]; rfl)) z12
      have z72 : q_is (q_z f61 sr 0) xc := Eq.trans (hF.z hsr (by rw [ksr]; rfl)) z13
      have z73 : q_is (q_z f61 sr 3) x1 := Eq.trans (hF.z hsr (by rw [ksr]; rfl)) z14
      have z74 : q_is (q_z f61 sr 4) x2 := Eq.trans (hF.z hsr (by rw [ksr]; rfl)) z15
      have z75 : q_ir (q_r f61 x 0) so := Eq.trans (hF.r hx (by rw [kx]; rfl)) z16
      have z76 : q_ir (q_r f61 x 1) rd := Eq.trans (hF.r hx (by rw [kx]; rfl)) z17
      have z77 : q_ir (q_r f61 x 2) scr := Eq.trans (hF.r hx (by rw [kx]; rfl)) z18
      have z78 : q_ir (q_r f61 x 3) fc := Eq.trans (hF.r hx (by rw [kx]; rfl)) z19
      have z79 : q_ir (q_r f61 x 4) hist := Eq.trans (hF.r hx (by rw [kx]; rfl)) z20
      have z80 : q_ir (q_r f61 x 5) rep := Eq.trans (hF.r hx (by rw [kx]; rfl)) z21
      have z81 : q_ir (q_r f61 x 6) now := Eq.trans (hF.r hx (by rw [kx]; rfl)) z22
      have z82 : q_ir (q_r f61 x 7) dr := Eq.trans (hF.r hx (by rw [kx]; rfl)) z23
      have z83 : q_ir (q_r f61 x 8) sv := Eq.trans (hF.r hx (by rw [kx]; rfl)) z24
      have z84 : q_ir (q_r f61 fc 0) tr := Eq.trans (hF.r hfc (by rw [kfc]; rfl)) z25
      have z85 : q_ir (q_r f61 so 0) ba := Eq.trans (hF.r hso (by rw [kso]; rfl)) z26
      have z86 : q_ir (q_r f61 dr 0) nds := Eq.trans (hF.r hdr (by rw [kdr]; rfl)) z27
      have z87 : q_ir (q_r f61 hist 0) ka := Eq.trans (hF.r hhist (by rw [khist]; rfl)) z28
      have z88 : q_ir (q_r f61 now 0) ndn := Eq.trans (hF.r hnow (by rw [know]; rfl)) z29
      have z89 : q_ir (q_r f61 sv 0) nsv := Eq.trans (hF.r hsv (by rw [ksv]; rfl)) z30
      have z90 : q_ir (q_r f61 mo 1) bu := Eq.trans (hF.r hmo (by rw [kmo]; rfl)) z31
      have z91 : q_ir (q_r f61 mo 13) sr := Eq.trans (hF.r hmo (by rw [kmo]; rfl)) z32
      have z92 : q_ir (q_r f61 mo 14) sd := Eq.trans (hF.r hmo (by rw [kmo]; rfl)) z33
      have z93 : q_ir (q_r f61 mo 15) as := Eq.trans (hF.r hmo (by rw [kmo]; rfl)) z34
      have z94 : q_ir (q_r f61 mo 16) aw := Eq.trans (hF.r hmo (by rw [kmo]; rfl)) z35
      have z95 : q_ir (q_r f61 mo 17) pa := Eq.trans (hF.r hmo (by rw [kmo]; rfl)) z36
      have z96 : q_ir (q_r f61 mo 18) nm := Eq.trans (hF.r hmo (by rw [kmo]; rfl)) z37
      have z97 : q_ir (q_r f61 mo 19) snm := Eq.trans (hF.r hmo (by rw [kmo]; rfl)) z38
      have z98 : q_ir (q_r f61 mo 20) anm := Eq.trans (hF.r hmo (by rw [kmo]; rfl)) z39
      have z99 : q_ir (q_r f61 mo 24) hp := Eq.trans (hF.r hmo (by rw [kmo]; rfl)) z40
      have z100 : q_ir (q_r f61 mo 25) dy := Eq.trans (hF.r hmo (by rw [kmo]; rfl)) z41
      have z101 : q_ir (q_r f61 mo 29) cs := Eq.trans (hF.r hmo (by rw [kmo]; rfl)) z42
      have z102 : q_ir (q_r f61 mo 30) c1 := Eq.trans (hF.r hmo (by rw [kmo]; rfl)) z43
      have z103 : q_ir (q_r f61 mo 31) c2 := Eq.trans (hF.r hmo (by rw [kmo]; rfl)) z44
      have z104 : q_ir (q_r f61 mo 32) c3 := Eq.trans (hF.r hmo (by rw [kmo]; rfl)) z45
      have z105 : q_ir (q_r f61 mo 33) bg := Eq.trans (hF.r hmo (by rw [kmo]; rfl)) z46
      have z106 : q_ir (q_r f61 mo 34) lp := Eq.trans (hF.r hmo (by rw [kmo]; rfl)) z47
      have z107 : q_ir (q_r f61 mo 38) rp := Eq.trans (hF.r hmo (by rw [kmo]; rfl)) z48
      have g108 : q_z f61 x 9 = q_z f61 mo 22 := tk_s2_tr g50 (hF.z hx (by rw [kx]; rfl)) (hF.z hmo (by rw [kmo]; rfl))
      have g109 : q_sv f61 mo sd := q_sv_tr g52 (hF.z hmo (by rw [kmo]; rfl)) (fun i9 => hF.z hsd (by rw [ksd]; rfl))
      have g110 : tk_bb f61 bu ba tn := tk_bb_tr g53 (fun i9 => hF.z hbu (by rw [kbu]; rfl)) (fun i9 => hF.z hba (by rw [kba]; rfl))
      have g111 : tk_ij K L f61 nds := tk_ij_tr g54 (fun i9 => hF.r hnds (by rw [knds]; rfl))
      have g112 : tk_vn K L 5 f61 now ndn nl9 := tk_vn_tr g55 (hF.z hnow (by rw [know]; rfl)) (fun a9 h9 k9 => hF.j h9 (by rw [k9]; rfl)) (fun i9 => hF.r hndn (by rw [kndn]; rfl))
      have g113 : tk_vs K L f61 x sv nsv ls9 := tk_vs_tr g56 (hF.z hx (by rw [kx]; rfl)) (hF.z hsv (by rw [ksv]; rfl)) (fun a9 h9 k9 => hF.j h9 (by rw [k9]; rfl)) (fun i9 => hF.r hnsv (by rw [knsv]; rfl))
      have g114 : tk_nq f61 nm nl9 := tk_nq_tr g57 (fun i9 => hF.j hnm (by rw [knm]; rfl))
      have g115 : tk_rs f61 mo sd snm ls9 := tk_rs_tr g58 (hF.z hmo (by rw [kmo]; rfl)) (fun i9 h9 k9 => hF.z hsd (by rw [ksd]; exact q_inWr rfl h9 k9)) (fun i9 => hF.j hsnm (by rw [ksnm]; rfl))
      have g116 : tk_vk K L f61 hist ka now ndn := tk_vk_tr g10 (hF.z hhist (by rw [khist]; rfl)) (hF.z hhist (by rw [khist]; rfl)) (hF.z hnow (by rw [know]; rfl)) (fun a9 h9 k9 => hF.j h9 (by rw [k9]; rfl)) (fun i9 => hF.r hndn (by rw [kndn]; rfl)) (fun a9 h9 k9 => hF.z h9 (by rw [k9]; rfl)) (fun a9 h9 k9 => hF.j h9 (by rw [k9]; rfl)) (fun i9 => hF.r hka (by rw [kka]; rfl)) (fun a9 h9 k9 => hF.r h9 (by rw [k9]; rfl)) (fun a9 h9 k9 i9 => hF.r h9 (by rw [k9]; rfl))
      obtain ⟨x117, ex117⟩ : ∃ zz, q_is (q_z f61 sr 3) zz := ⟨_, q_isr _⟩
      obtain ⟨lx117, ux117⟩ := q_isb ex117 ⟨lz64, uz64⟩
      obtain ⟨x118, ex118⟩ : ∃ zz, q_is (q_z f61 sr 4) zz := ⟨_, q_isr _⟩
      obtain ⟨lx118, ux118⟩ := q_isb ex118 ⟨lz65, uz65⟩
      refine lv_istore (lv' := [(7, .int (q_i y62)), (6, .int (q_i y8)), (5, .int (q_i ii)), (4, .ref outD), (3, .ref out), (2, .ref mo), (1, .ref x), (0, .ref b)]) cx.1 cx.2.1 dL_law_1325 hl (by decide) rfl (fun ls hl => ?_)
      refine lv_goto (tgt := 1521) cx.1 cx.2.1 dL_law_1327 (by decide) ?_
      refine W.widen (k := cells + 6) (n := slots + 36) (by omega) (by omega) ?_
      exact kk f61 H locs ls tn nl9 ls9 xc hB ⟨⟨z70, (Eq.trans z71 (by omega)), by omega, by omega⟩, g67, g68, g109, q_isu ex117 (by omega), q_isu ex118 (by omega), tk_bb_le g110 (by omega), z66, by omega, g112, g116, g113, g114, g115, g69, g108⟩ (lv_sub hl [2, 3, 4, 5, 6, 7] rfl)
    · exact absurd c60 (by omega)
  · refine q_iconst cx dL_law_1284 ?_
    refine lv_goto (tgt := 1289) cx.1 cx.2.1 dL_law_1285 (by decide) ?_
    refine q_ald_n cx dL_law_1289 rfl (lv_at hl 2 rfl) ?_
    refine q_cWS (As := [.ref x, .int (q_i a3), .int (q_i a4), .int (q_i 1), .ref out]) (rest := []) cx hX hB (fun q h => hLA q h) (fun q h1 h2 => absurd h1 (Nat.not_le_of_lt h2)) hN (f_wwatch l g ad hN hB.2.1 hfl nl9 x hx kx a3 (by omega) (by omega) a4 (by omega) (by omega) 1 (by decide) (by decide) out hout kout so hso kso rd hrd krd scr hscr kscr fc hfc kfc hist hhist khist rep hrep krep now hnow know dr hdr kdr sv hsv ksv tr htr ktr ba hba kba nds hnds knds ka hka kka ndn hndn kndn nsv hnsv knsv hr0 hr1 hr2 hr3 hr4 hr5 hr6 hr7 hr8 hr9 hr10 hr11 hr12 hr13 hr14 hvn hvk) q_cL_231 q_dL_watch ⟨by decide, by show cells + 2 ≤ 601024; omega, by show slots + 12 ≤ 7293034; omega⟩ rfl rfl hl.1 rfl (Nat.le_of_ble_eq_true rfl) dL_law_1290 (fun v9 H locs f119 h121 hF hB => ?_)
    obtain ⟨y120, rfl, ry120, h121⟩ := h121
    refine W.eq (g2 := F0 m 1293 ls [.int (q_i y120)]) rfl ?_
    obtain ⟨ly120, uy120, g122⟩ := h121
    have z123 : q_is (q_z f119 so 1) tn := Eq.trans (hF.z hso (by rw [kso]; rfl)) hn0
    have z124 : q_is (q_z f119 mo 2) tn := Eq.trans (hF.z hmo (by rw [kmo]; rfl)) hn1
    have z125 : q_is (q_z f119 sr 0) xc := Eq.trans (hF.z hsr (by rw [ksr]; rfl)) hsr0
    have z126 : q_is (q_z f119 sr 3) x1 := Eq.trans (hF.z hsr (by rw [ksr]; rfl)) ex1
    have z127 : q_is (q_z f119 sr 4) x2 := Eq.trans (hF.z hsr (by rw [ksr]; rfl)) ex2
    have z128 : q_ir (q_r f119 x 0) so := Eq.trans (hF.r hx (by rw [kx]; rfl)) hr0
    have z129 : q_ir (q_r f119 x 1) rd := Eq.trans (hF.r hx (by rw [kx]; rfl)) hr1
    have z130 : q_ir (q_r f119 x 2) scr := Eq.trans (hF.r hx (by rw [kx]; rfl)) hr2
    have z131 : q_ir (q_r f119 x 3) fc := Eq.trans (hF.r hx (by rw [kx]; rfl)) hr3
    have z132 : q_ir (q_r f119 x 4) hist := Eq.trans (hF.r hx (by rw [kx]; rfl)) hr4
    have z133 : q_ir (q_r f119 x 5) rep := Eq.trans (hF.r hx (by rw [kx]; rfl)) hr5
    have z134 : q_ir (q_r f119 x 6) now := Eq.trans (hF.r hx (by rw [kx]; rfl)) hr6
    have z135 : q_ir (q_r f119 x 7) dr := Eq.trans (hF.r hx (by rw [kx]; rfl)) hr7
    have z136 : q_ir (q_r f119 x 8) sv := Eq.trans (hF.r hx (by rw [kx]; rfl)) hr8
    have z137 : q_ir (q_r f119 fc 0) tr := Eq.trans (hF.r hfc (by rw [kfc]; rfl)) hr9
    have z138 : q_ir (q_r f119 so 0) ba := Eq.trans (hF.r hso (by rw [kso]; rfl)) hr10
    have z139 : q_ir (q_r f119 dr 0) nds := Eq.trans (hF.r hdr (by rw [kdr]; rfl)) hr11
    have z140 : q_ir (q_r f119 hist 0) ka := Eq.trans (hF.r hhist (by rw [khist]; rfl)) hr12
    have z141 : q_ir (q_r f119 now 0) ndn := Eq.trans (hF.r hnow (by rw [know]; rfl)) hr13
    have z142 : q_ir (q_r f119 sv 0) nsv := Eq.trans (hF.r hsv (by rw [ksv]; rfl)) hr14
    have z143 : q_ir (q_r f119 mo 1) bu := Eq.trans (hF.r hmo (by rw [kmo]; rfl)) hr15
    have z144 : q_ir (q_r f119 mo 13) sr := Eq.trans (hF.r hmo (by rw [kmo]; rfl)) hr16
    have z145 : q_ir (q_r f119 mo 14) sd := Eq.trans (hF.r hmo (by rw [kmo]; rfl)) hr17
    have z146 : q_ir (q_r f119 mo 15) as := Eq.trans (hF.r hmo (by rw [kmo]; rfl)) hr18
    have z147 : q_ir (q_r f119 mo 16) aw := Eq.trans (hF.r hmo (by rw [kmo]; rfl)) hr19
    have z148 : q_ir (q_r f119 mo 17) pa := Eq.trans (hF.r hmo (by rw [kmo]; rfl)) hr20
    have z149 : q_ir (q_r f119 mo 18) nm := Eq.trans (hF.r hmo (by rw [kmo]; rfl)) hr21
    have z150 : q_ir (q_r f119 mo 19) snm := Eq.trans (hF.r hmo (by rw [kmo]; rfl)) hr22
    have z151 : q_ir (q_r f119 mo 20) anm := Eq.trans (hF.r hmo (by rw [kmo]; rfl)) hr23
    have z152 : q_ir (q_r f119 mo 24) hp := Eq.trans (hF.r hmo (by rw [kmo]; rfl)) hr24
    have z153 : q_ir (q_r f119 mo 25) dy := Eq.trans (hF.r hmo (by rw [kmo]; rfl)) hr25
    have z154 : q_ir (q_r f119 mo 29) cs := Eq.trans (hF.r hmo (by rw [kmo]; rfl)) hr26
    have z155 : q_ir (q_r f119 mo 30) c1 := Eq.trans (hF.r hmo (by rw [kmo]; rfl)) hr27
    have z156 : q_ir (q_r f119 mo 31) c2 := Eq.trans (hF.r hmo (by rw [kmo]; rfl)) hr28
    have z157 : q_ir (q_r f119 mo 32) c3 := Eq.trans (hF.r hmo (by rw [kmo]; rfl)) hr29
    have z158 : q_ir (q_r f119 mo 33) bg := Eq.trans (hF.r hmo (by rw [kmo]; rfl)) hr30
    have z159 : q_ir (q_r f119 mo 34) lp := Eq.trans (hF.r hmo (by rw [kmo]; rfl)) hr31
    have z160 : q_ir (q_r f119 mo 38) rp := Eq.trans (hF.r hmo (by rw [kmo]; rfl)) hr32
    have g161 : q_gr f119 sr := q_gr_fr hgr (fun i9 _ => hF.z hsr (by rw [ksr]; rfl))
    have g162 : q_z f119 x 9 = q_z f119 mo 22 := tk_s2_tr hs22 (hF.z hx (by rw [kx]; rfl)) (hF.z hmo (by rw [kmo]; rfl))
    have g163 : q_pk f119 mo pa := q_pk_tr hpk (hF.z hmo (by rw [kmo]; rfl)) (fun i9 => hF.z hpa (by rw [kpa]; rfl))
    have g164 : q_sv f119 mo sd := q_sv_tr hsd9 (hF.z hmo (by rw [kmo]; rfl)) (fun i9 => hF.z hsd (by rw [ksd]; rfl))
    have g165 : tk_bb f119 bu ba tn := tk_bb_tr hbb (fun i9 => hF.z hbu (by rw [kbu]; rfl)) (fun i9 => hF.z hba (by rw [kba]; rfl))
    have g166 : tk_ij K L f119 nds := tk_ij_tr hij (fun i9 => hF.r hnds (by rw [knds]; rfl))
    have g167 : tk_vn K L 5 f119 now ndn nl9 := tk_vn_tr hvn (hF.z hnow (by rw [know]; rfl)) (fun a9 h9 k9 => hF.j h9 (by rw [k9]; rfl)) (fun i9 => hF.r hndn (by rw [kndn]; rfl))
    have g168 : tk_vs K L f119 x sv nsv ls9 := tk_vs_tr hvs (hF.z hx (by rw [kx]; rfl)) (hF.z hsv (by rw [ksv]; rfl)) (fun a9 h9 k9 => hF.j h9 (by rw [k9]; rfl)) (fun i9 => hF.r hnsv (by rw [knsv]; rfl))
    have g169 : tk_nq f119 nm nl9 := tk_nq_tr hrn9 (fun i9 => hF.j hnm (by rw [knm]; rfl))
    have g170 : tk_rs f119 mo sd snm ls9 := tk_rs_tr hrs9 (hF.z hmo (by rw [kmo]; rfl)) (fun i9 h9 k9 => hF.z hsd (by rw [ksd]; exact q_inWr rfl h9 k9)) (fun i9 => hF.j hsnm (by rw [ksnm]; rfl))
    have g171 : q_pc f119 mo pa xc := q_pc_tr hpc (hF.z hmo (by rw [kmo]; rfl)) (fun i9 => hF.z hpa (by rw [kpa]; rfl))
    refine lv_istore (lv' := [(6, .int (q_i y120)), (5, .int (q_i ii)), (4, .ref outD), (3, .ref out), (2, .ref mo), (1, .ref x), (0, .ref b)]) cx.1 cx.2.1 dL_law_1293 hl (by decide) rfl (fun ls hl => ?_)
    refine q_ald_n cx dL_law_1295 rfl (lv_at hl 4 rfl) ?_
    refine q_ald_n cx dL_law_1296 rfl (lv_at hl 6 rfl) ?_
    refine lv_iload cx.1 cx.2.1 dL_law_1297 (lv_at hl 1 rfl) ?_
    refine q_iconst cx dL_law_1299 ?_
    refine q_iadd cx dL_law_1300 ?_
    refine va_sld cx.1 cx.2.1 hXs hbl hbA hB.1.2.2.2 (q_in (by omega) (by omega) (by omega)) dL_law_1301 ?_
    rw [ea3]
    refine q_ald_n cx dL_law_1302 rfl (lv_at hl 6 rfl) ?_
    refine lv_iload cx.1 cx.2.1 dL_law_1303 (lv_at hl 1 rfl) ?_
    refine q_iconst cx dL_law_1305 ?_
    refine q_iadd cx dL_law_1306 ?_
    refine va_sld cx.1 cx.2.1 hXs hbl hbA hB.1.2.2.2 (q_in (by omega) (by omega) (by omega)) dL_law_1307 ?_
    rw [ea4]
    refine q_ald_n cx dL_law_1308 rfl (lv_at hl 6 rfl) ?_
    refine lv_iload cx.1 cx.2.1 dL_law_1309 (lv_at hl 1 rfl) ?_
    refine q_iconst cx dL_law_1311 ?_
    refine q_iadd cx dL_law_1312 ?_
    refine va_sld cx.1 cx.2.1 hXs hbl hbA hB.1.2.2.2 (q_in (by omega) (by omega) (by omega)) dL_law_1313 ?_
    rw [ea5]
    refine q_ifeq (tgt := 1321) cx ⟨by omega, by omega⟩ dL_law_1314 (by decide) (fun c172 => ?_) (fun c172 => ?_)
    · refine q_iconst cx dL_law_1321 ?_
      refine q_cVi (As := [.int (q_i a3), .int (q_i a4), .int (q_i 0)]) (rest := []) cx hB (fun q h => hLA q h) hN hmo kmo (by decide) rfl (r_watch l g hN hB.2.1 mo hmo kmo a3 (by omega) (by omega) a4 (by omega) (by omega) 0 (by decide) (by decide) sr hsr ksr as has kas pa hpa kpa x1 (by omega) (by omega) x2 (by omega) (by omega) xc (by omega) (by omega) z126 z127 z125 z144 z146 z148 g161 g163 g171) q_cL_233 q_dX12_watch ⟨by decide, by show cells + 2 ≤ 601024; omega, by show slots + 12 ≤ 7293034; omega⟩ rfl rfl hl.1 rfl (Nat.le_of_ble_eq_true rfl) dL_law_1322 (fun y174 H locs f173 ry174 h175 hF hB => ?_)
      obtain ⟨ly174, uy174, lz176, uz176, lz177, uz177, z178, g179, g180, g181⟩ := h175
      have z182 : q_is (q_z f173 so 1) tn := Eq.trans (hF.z hso (by rw [kso]; rfl)) z123
      have z183 : q_is (q_z f173 mo 2) tn := Eq.trans (hF.z hmo (by rw [kmo]; rfl)) z124
      have z184 : q_is (q_z f173 sr 0) xc := Eq.trans (hF.z hsr (by rw [ksr]; rfl)) z125
      have z185 : q_is (q_z f173 sr 3) x1 := Eq.trans (hF.z hsr (by rw [ksr]; rfl)) z126
      have z186 : q_is (q_z f173 sr 4) x2 := Eq.trans (hF.z hsr (by rw [ksr]; rfl)) z127
      have z187 : q_ir (q_r f173 x 0) so := Eq.trans (hF.r hx (by rw [kx]; rfl)) z128
      have z188 : q_ir (q_r f173 x 1) rd := Eq.trans (hF.r hx (by rw [kx]; rfl)) z129
      have z189 : q_ir (q_r f173 x 2) scr := Eq.trans (hF.r hx (by rw [kx]; rfl)) z130
      have z190 : q_ir (q_r f173 x 3) fc := Eq.trans (hF.r hx (by rw [kx]; rfl)) z131
      have z191 : q_ir (q_r f173 x 4) hist := Eq.trans (hF.r hx (by rw [kx]; rfl)) z132
      have z192 : q_ir (q_r f173 x 5) rep := Eq.trans (hF.r hx (by rw [kx]; rfl)) z133
      have z193 : q_ir (q_r f173 x 6) now := Eq.trans (hF.r hx (by rw [kx]; rfl)) z134
      have z194 : q_ir (q_r f173 x 7) dr := Eq.trans (hF.r hx (by rw [kx]; rfl)) z135
      have z195 : q_ir (q_r f173 x 8) sv := Eq.trans (hF.r hx (by rw [kx]; rfl)) z136
      have z196 : q_ir (q_r f173 fc 0) tr := Eq.trans (hF.r hfc (by rw [kfc]; rfl)) z137
      have z197 : q_ir (q_r f173 so 0) ba := Eq.trans (hF.r hso (by rw [kso]; rfl)) z138
      have z198 : q_ir (q_r f173 dr 0) nds := Eq.trans (hF.r hdr (by rw [kdr]; rfl)) z139
      have z199 : q_ir (q_r f173 hist 0) ka := Eq.trans (hF.r hhist (by rw [khist]; rfl)) z140
      have z200 : q_ir (q_r f173 now 0) ndn := Eq.trans (hF.r hnow (by rw [know]; rfl)) z141
      have z201 : q_ir (q_r f173 sv 0) nsv := Eq.trans (hF.r hsv (by rw [ksv]; rfl)) z142
      have z202 : q_ir (q_r f173 mo 1) bu := Eq.trans (hF.r hmo (by rw [kmo]; rfl)) z143
      have z203 : q_ir (q_r f173 mo 13) sr := Eq.trans (hF.r hmo (by rw [kmo]; rfl)) z144
      have z204 : q_ir (q_r f173 mo 14) sd := Eq.trans (hF.r hmo (by rw [kmo]; rfl)) z145
      have z205 : q_ir (q_r f173 mo 15) as := Eq.trans (hF.r hmo (by rw [kmo]; rfl)) z146
      have z206 : q_ir (q_r f173 mo 16) aw := Eq.trans (hF.r hmo (by rw [kmo]; rfl)) z147
      have z207 : q_ir (q_r f173 mo 17) pa := Eq.trans (hF.r hmo (by rw [kmo]; rfl)) z148
      have z208 : q_ir (q_r f173 mo 18) nm := Eq.trans (hF.r hmo (by rw [kmo]; rfl)) z149
      have z209 : q_ir (q_r f173 mo 19) snm := Eq.trans (hF.r hmo (by rw [kmo]; rfl)) z150
      have z210 : q_ir (q_r f173 mo 20) anm := Eq.trans (hF.r hmo (by rw [kmo]; rfl)) z151
      have z211 : q_ir (q_r f173 mo 24) hp := Eq.trans (hF.r hmo (by rw [kmo]; rfl)) z152
      have z212 : q_ir (q_r f173 mo 25) dy := Eq.trans (hF.r hmo (by rw [kmo]; rfl)) z153
      have z213 : q_ir (q_r f173 mo 29) cs := Eq.trans (hF.r hmo (by rw [kmo]; rfl)) z154
      have z214 : q_ir (q_r f173 mo 30) c1 := Eq.trans (hF.r hmo (by rw [kmo]; rfl)) z155
      have z215 : q_ir (q_r f173 mo 31) c2 := Eq.trans (hF.r hmo (by rw [kmo]; rfl)) z156
      have z216 : q_ir (q_r f173 mo 32) c3 := Eq.trans (hF.r hmo (by rw [kmo]; rfl)) z157
      have z217 : q_ir (q_r f173 mo 33) bg := Eq.trans (hF.r hmo (by rw [kmo]; rfl)) z158
      have z218 : q_ir (q_r f173 mo 34) lp := Eq.trans (hF.r hmo (by rw [kmo]; rfl)) z159
      have z219 : q_ir (q_r f173 mo 38) rp := Eq.trans (hF.r hmo (by rw [kmo]; rfl)) z160
      have g220 : q_z f173 x 9 = q_z f173 mo 22 := tk_s2_tr g162 (hF.z hx (by rw [kx]; rfl)) (hF.z hmo (by rw [kmo]; rfl))
      have g221 : q_sv f173 mo sd := q_sv_tr g164 (hF.z hmo (by rw [kmo]; rfl)) (fun i9 => hF.z hsd (by rw [ksd]; rfl))
      have g222 : tk_bb f173 bu ba tn := tk_bb_tr g165 (fun i9 => hF.z hbu (by rw [kbu]; rfl)) (fun i9 => hF.z hba (by rw [kba]; rfl))
      have g223 : tk_ij K L f173 nds := tk_ij_tr g166 (fun i9 => hF.r hnds (by rw [knds]; rfl))
      have g224 : tk_vn K L 5 f173 now ndn nl9 := tk_vn_tr g167 (hF.z hnow (by rw [know]; rfl)) (fun a9 h9 k9 => hF.j h9 (by rw [k9]; rfl)) (fun i9 => hF.r hndn (by rw [kndn]; rfl))
      have g225 : tk_vs K L f173 x sv nsv ls9 := tk_vs_tr g168 (hF.z hx (by rw [kx]; rfl)) (hF.z hsv (by rw [ksv]; rfl)) (fun a9 h9 k9 => hF.j h9 (by rw [k9]; rfl)) (fun i9 => hF.r hnsv (by rw [knsv]; rfl))
      have g226 : tk_nq f173 nm nl9 := tk_nq_tr g169 (fun i9 => hF.j hnm (by rw [knm]; rfl))
      have g227 : tk_rs f173 mo sd snm ls9 := tk_rs_tr g170 (hF.z hmo (by rw [kmo]; rfl)) (fun i9 h9 k9 => hF.z hsd (by rw [ksd]; exact q_inWr rfl h9 k9)) (fun i9 => hF.j hsnm (by rw [ksnm]; rfl))
      have g228 : tk_vk K L f173 hist ka now ndn := tk_vk_tr g122 (hF.z hhist (by rw [khist]; rfl)) (hF.z hhist (by rw [khist]; rfl)) (hF.z hnow (by rw [know]; rfl)) (fun a9 h9 k9 => hF.j h9 (by rw [k9]; rfl)) (fun i9 => hF.r hndn (by rw [kndn]; rfl)) (fun a9 h9 k9 => hF.z h9 (by rw [k9]; rfl)) (fun a9 h9 k9 => hF.j h9 (by rw [k9]; rfl)) (fun i9 => hF.r hka (by rw [kka]; rfl)) (fun a9 h9 k9 => hF.r h9 (by rw [k9]; rfl)) (fun a9 h9 k9 i9 => hF.r h9 (by rw [k9]; rfl))
      obtain ⟨x229, ex229⟩ : ∃ zz, q_is (q_z f173 sr 3) zz := ⟨_, q_isr _⟩
      obtain ⟨lx229, ux229⟩ := q_isb ex229 ⟨lz176, uz176⟩
      obtain ⟨x230, ex230⟩ : ∃ zz, q_is (q_z f173 sr 4) zz := ⟨_, q_isr _⟩
      obtain ⟨lx230, ux230⟩ := q_isb ex230 ⟨lz177, uz177⟩
      refine lv_istore (lv' := [(7, .int (q_i y174)), (6, .int (q_i y120)), (5, .int (q_i ii)), (4, .ref outD), (3, .ref out), (2, .ref mo), (1, .ref x), (0, .ref b)]) cx.1 cx.2.1 dL_law_1325 hl (by decide) rfl (fun ls hl => ?_)
      refine lv_goto (tgt := 1521) cx.1 cx.2.1 dL_law_1327 (by decide) ?_
      refine W.widen (k := cells + 6) (n := slots + 36) (by omega) (by omega) ?_
      exact kk f173 H locs ls tn nl9 ls9 xc hB ⟨⟨z182, (Eq.trans z183 (by omega)), by omega, by omega⟩, g179, g180, g221, q_isu ex229 (by omega), q_isu ex230 (by omega), tk_bb_le g222 (by omega), z178, by omega, g224, g228, g225, g226, g227, g181, g220⟩ (lv_sub hl [2, 3, 4, 5, 6, 7] rfl)
    · refine q_iconst cx dL_law_1317 ?_
      refine lv_goto (tgt := 1322) cx.1 cx.2.1 dL_law_1318 (by decide) ?_
      refine q_cVi (As := [.int (q_i a3), .int (q_i a4), .int (q_i 1)]) (rest := []) cx hB (fun q h => hLA q h) hN hmo kmo (by decide) rfl (r_watch l g hN hB.2.1 mo hmo kmo a3 (by omega) (by omega) a4 (by omega) (by omega) 1 (by decide) (by decide) sr hsr ksr as has kas pa hpa kpa x1 (by omega) (by omega) x2 (by omega) (by omega) xc (by omega) (by omega) z126 z127 z125 z144 z146 z148 g161 g163 g171) q_cL_233 q_dX12_watch ⟨by decide, by show cells + 2 ≤ 601024; omega, by show slots + 12 ≤ 7293034; omega⟩ rfl rfl hl.1 rfl (Nat.le_of_ble_eq_true rfl) dL_law_1322 (fun y232 H locs f231 ry232 h233 hF hB => ?_)
      obtain ⟨ly232, uy232, lz234, uz234, lz235, uz235, z236, g237, g238, g239⟩ := h233
      have z240 : q_is (q_z f231 so 1) tn := Eq.trans (hF.z hso (by rw [kso]; rfl)) z123
      have z241 : q_is (q_z f231 mo 2) tn := Eq.trans (hF.z hmo (by rw [kmo]; rfl)) z124
      have z242 : q_is (q_z f231 sr 0) xc := Eq.trans (hF.z hsr (by rw [ksr]; rfl)) z125
      have z243 : q_is (q_z f231 sr 3) x1 := Eq.trans (hF.z hsr (by rw [ksr]; rfl)) z126
      have z244 : q_is (q_z f231 sr 4) x2 := Eq.trans (hF.z hsr (by rw [ksr]; rfl)) z127
      have z245 : q_ir (q_r f231 x 0) so := Eq.trans (hF.r hx (by rw [kx]; rfl)) z128
      have z246 : q_ir (q_r f231 x 1) rd := Eq.trans (hF.r hx (by rw [kx]; rfl)) z129
      have z247 : q_ir (q_r f231 x 2) scr := Eq.trans (hF.r hx (by rw [kx]; rfl)) z130
      have z248 : q_ir (q_r f231 x 3) fc := Eq.trans (hF.r hx (by rw [kx]; rfl)) z131
      have z249 : q_ir (q_r f231 x 4) hist := Eq.trans (hF.r hx (by rw [kx]; rfl)) z132
      have z250 : q_ir (q_r f231 x 5) rep := Eq.trans (hF.r hx (by rw [kx]; rfl)) z133
      have z251 : q_ir (q_r f231 x 6) now := Eq.trans (hF.r hx (by rw [kx]; rfl)) z134
      have z252 : q_ir (q_r f231 x 7) dr := Eq.trans (hF.r hx (by rw [kx]; rfl)) z135
      have z253 : q_ir (q_r f231 x 8) sv := Eq.trans (hF.r hx (by rw [kx]; rfl)) z136
      have z254 : q_ir (q_r f231 fc 0) tr := Eq.trans (hF.r hfc (by rw [kfc]; rfl)) z137
      have z255 : q_ir (q_r f231 so 0) ba := Eq.trans (hF.r hso (by rw [kso]; rfl)) z138
      have z256 : q_ir (q_r f231 dr 0) nds := Eq.trans (hF.r hdr (by rw [kdr]; rfl)) z139
      have z257 : q_ir (q_r f231 hist 0) ka := Eq.trans (hF.r hhist (by rw [khist]; rfl)) z140
      have z258 : q_ir (q_r f231 now 0) ndn := Eq.trans (hF.r hnow (by rw [know]; rfl)) z141
      have z259 : q_ir (q_r f231 sv 0) nsv := Eq.trans (hF.r hsv (by rw [ksv]; rfl)) z142
      have z260 : q_ir (q_r f231 mo 1) bu := Eq.trans (hF.r hmo (by rw [kmo]; rfl)) z143
      have z261 : q_ir (q_r f231 mo 13) sr := Eq.trans (hF.r hmo (by rw [kmo]; rfl)) z144
      have z262 : q_ir (q_r f231 mo 14) sd := Eq.trans (hF.r hmo (by rw [kmo]; rfl)) z145
      have z263 : q_ir (q_r f231 mo 15) as := Eq.trans (hF.r hmo (by rw [kmo]; rfl)) z146
      have z264 : q_ir (q_r f231 mo 16) aw := Eq.trans (hF.r hmo (by rw [kmo]; rfl)) z147
      have z265 : q_ir (q_r f231 mo 17) pa := Eq.trans (hF.r hmo (by rw [kmo]; rfl)) z148
      have z266 : q_ir (q_r f231 mo 18) nm := Eq.trans (hF.r hmo (by rw [kmo]; rfl)) z149
      have z267 : q_ir (q_r f231 mo 19) snm := Eq.trans (hF.r hmo (by rw [kmo]; rfl)) z150
      have z268 : q_ir (q_r f231 mo 20) anm := Eq.trans (hF.r hmo (by rw [kmo]; rfl)) z151
      have z269 : q_ir (q_r f231 mo 24) hp := Eq.trans (hF.r hmo (by rw [kmo]; rfl)) z152
      have z270 : q_ir (q_r f231 mo 25) dy := Eq.trans (hF.r hmo (by rw [kmo]; rfl)) z153
      have z271 : q_ir (q_r f231 mo 29) cs := Eq.trans (hF.r hmo (by rw [kmo]; rfl)) z154
      have z272 : q_ir (q_r f231 mo 30) c1 := Eq.trans (hF.r hmo (by rw [kmo]; rfl)) z155
      have z273 : q_ir (q_r f231 mo 31) c2 := Eq.trans (hF.r hmo (by rw [kmo]; rfl)) z156
      have z274 : q_ir (q_r f231 mo 32) c3 := Eq.trans (hF.r hmo (by rw [kmo]; rfl)) z157
      have z275 : q_ir (q_r f231 mo 33) bg := Eq.trans (hF.r hmo (by rw [kmo]; rfl)) z158
      have z276 : q_ir (q_r f231 mo 34) lp := Eq.trans (hF.r hmo (by rw [kmo]; rfl)) z159
      have z277 : q_ir (q_r f231 mo 38) rp := Eq.trans (hF.r hmo (by rw [kmo]; rfl)) z160
      have g278 : q_z f231 x 9 = q_z f231 mo 22 := tk_s2_tr g162 (hF.z hx (by rw [kx]; rfl)) (hF.z hmo (by rw [kmo]; rfl))
      have g279 : q_sv f231 mo sd := q_sv_tr g164 (hF.z hmo (by rw [kmo]; rfl)) (fun i9 => hF.z hsd (by rw [ksd]; rfl))
      have g280 : tk_bb f231 bu ba tn := tk_bb_tr g165 (fun i9 => hF.z hbu (by rw [kbu]; rfl)) (fun i9 => hF.z hba (by rw [kba]; rfl))
      have g281 : tk_ij K L f231 nds := tk_ij_tr g166 (fun i9 => hF.r hnds (by rw [knds]; rfl))
      have g282 : tk_vn K L 5 f231 now ndn nl9 := tk_vn_tr g167 (hF.z hnow (by rw [know]; rfl)) (fun a9 h9 k9 => hF.j h9 (by rw [k9]; rfl)) (fun i9 => hF.r hndn (by rw [kndn]; rfl))
      have g283 : tk_vs K L f231 x sv nsv ls9 := tk_vs_tr g168 (hF.z hx (by rw [kx]; rfl)) (hF.z hsv (by rw [ksv]; rfl)) (fun a9 h9 k9 => hF.j h9 (by rw [k9]; rfl)) (fun i9 => hF.r hnsv (by rw [knsv]; rfl))
      have g284 : tk_nq f231 nm nl9 := tk_nq_tr g169 (fun i9 => hF.j hnm (by rw [knm]; rfl))
      have g285 : tk_rs f231 mo sd snm ls9 := tk_rs_tr g170 (hF.z hmo (by rw [kmo]; rfl)) (fun i9 h9 k9 => hF.z hsd (by rw [ksd]; exact q_inWr rfl h9 k9)) (fun i9 => hF.j hsnm (by rw [ksnm]; rfl))
      have g286 : tk_vk K L f231 hist ka now ndn := tk_vk_tr g122 (hF.z hhist (by rw [khist]; rfl)) (hF.z hhist (by rw [khist]; rfl)) (hF.z hnow (by rw [know]; rfl)) (fun a9 h9 k9 => hF.j h9 (by rw [k9]; rfl)) (fun i9 => hF.r hndn (by rw [kndn]; rfl)) (fun a9 h9 k9 => hF.z h9 (by rw [k9]; rfl)) (fun a9 h9 k9 => hF.j h9 (by rw [k9]; rfl)) (fun i9 => hF.r hka (by rw [kka]; rfl)) (fun a9 h9 k9 => hF.r h9 (by rw [k9]; rfl)) (fun a9 h9 k9 i9 => hF.r h9 (by rw [k9]; rfl))
      obtain ⟨x287, ex287⟩ : ∃ zz, q_is (q_z f231 sr 3) zz := ⟨_, q_isr _⟩
      obtain ⟨lx287, ux287⟩ := q_isb ex287 ⟨lz234, uz234⟩
      obtain ⟨x288, ex288⟩ : ∃ zz, q_is (q_z f231 sr 4) zz := ⟨_, q_isr _⟩
      obtain ⟨lx288, ux288⟩ := q_isb ex288 ⟨lz235, uz235⟩
      refine lv_istore (lv' := [(7, .int (q_i y232)), (6, .int (q_i y120)), (5, .int (q_i ii)), (4, .ref outD), (3, .ref out), (2, .ref mo), (1, .ref x), (0, .ref b)]) cx.1 cx.2.1 dL_law_1325 hl (by decide) rfl (fun ls hl => ?_)
      refine lv_goto (tgt := 1521) cx.1 cx.2.1 dL_law_1327 (by decide) ?_
      refine W.widen (k := cells + 6) (n := slots + 36) (by omega) (by omega) ?_
      exact kk f231 H locs ls tn nl9 ls9 xc hB ⟨⟨z240, (Eq.trans z241 (by omega)), by omega, by omega⟩, g237, g238, g279, q_isu ex287 (by omega), q_isu ex288 (by omega), tk_bb_le g280 (by omega), z236, by omega, g282, g286, g283, g284, g285, g239, g278⟩ (lv_sub hl [2, 3, 4, 5, 6, 7] rfl)
set_option maxHeartbeats 4000000 in
set_option maxRecDepth 100000 in
theorem law_c1330 {p : Program} {l : Launch} {e : Env} {s : State} {m : MethodId} {below : List Frame} {meth : Method} {c : Code} {b N9 : Nat} {xs : Nat → Int32} (hfl : l.stackTraces = false) (hN9 : N9 ≤ 3072) (C0 : lw_At p s m meth c b N9 xs) (cx : CallFix p m c cL_law 10 s #[Value.ref b] q_al RL) {g : q_G} {ad : Nat → Nat} {K : Nat → Nat} {L : List Nat} (hN : L.Nodup) (hLA : ∀ q, q ∈ L → s.heap.size ≤ q) (hX : q_X ad (fun q => q ∈ L) s) {f0 : Nat → va_E} {x : Nat} (hx : x ∈ L) (kx : K x = 11) {so : Nat} (hso : so ∈ L) (kso : K so = 8) {rd : Nat} (hrd : rd ∈ L) (krd : K rd = 9) {scr : Nat} (hscr : scr ∈ L) (kscr : K scr = 7) {fc : Nat} (hfc : fc ∈ L) (kfc : K fc = 1) {hist : Nat} (hhist : hist ∈ L) (khist : K hist = 2) {rep : Nat} (hrep : rep ∈ L) (krep : K rep = 6) {now : Nat} (hnow : now ∈ L) (know : K now = 10) {dr : Nat} (hdr : dr ∈ L) (kdr : K dr = 13) {sv : Nat} (hsv : sv ∈ L) (ksv : K sv = 14) {tr : Nat} (htr : tr ∈ L) (ktr : K tr = 15) {ba : Nat} (hba : ba ∈ L) (kba : K ba = 142) {nds : Nat} (hnds : nds ∈ L) (knds : K nds = 111) {ka : Nat} (hka : ka ∈ L) (kka : K ka = 140) {ndn : Nat} (hndn : ndn ∈ L) (kndn : K ndn = 110) {nsv : Nat} (hnsv : nsv ∈ L) (knsv : K nsv = 112) {mo : Nat} (hmo : mo ∈ L) (kmo : K mo = 12) {bu : Nat} (hbu : bu ∈ L) (kbu : K bu = 150) {sr : Nat} (hsr : sr ∈ L) (ksr : K sr = 151) {sd : Nat} (hsd : sd ∈ L) (ksd : K sd = 152) {as : Nat} (has : as ∈ L) (kas : K as = 153) {aw : Nat} (haw : aw ∈ L) (kaw : K aw = 154) {pa : Nat} (hpa : pa ∈ L) (kpa : K pa = 155) {nm : Nat} (hnm : nm ∈ L) (knm : K nm = 156) {snm : Nat} (hsnm : snm ∈ L) (ksnm : K snm = 157) {anm : Nat} (hanm : anm ∈ L) (kanm : K anm = 158) {hp : Nat} (hhp : hp ∈ L) (khp : K hp = 159) {dy : Nat} (hdy : dy ∈ L) (kdy : K dy = 160) {cs : Nat} (hcs : cs ∈ L) (kcs : K cs = 161) {c1 : Nat} (hc1 : c1 ∈ L) (kc1 : K c1 = 162) {c2 : Nat} (hc2 : c2 ∈ L) (kc2 : K c2 = 163) {c3 : Nat} (hc3 : c3 ∈ L) (kc3 : K c3 = 164) {bg : Nat} (hbg : bg ∈ L) (kbg : K bg = 165) {lp : Nat} (hlp : lp ∈ L) (klp : K lp = 166) {rp : Nat} (hrp : rp ∈ L) (krp : K rp = 167) {out : Nat} (hout : out ∈ L) (kout : K out = 168) {outD : Nat} (houtD : outD ∈ L) (koutD : K outD = 169) (hr0 : q_ir (q_r f0 x 0) so) (hr1 : q_ir (q_r f0 x 1) rd) (hr2 : q_ir (q_r f0 x 2) scr) (hr3 : q_ir (q_r f0 x 3) fc) (hr4 : q_ir (q_r f0 x 4) hist) (hr5 : q_ir (q_r f0 x 5) rep) (hr6 : q_ir (q_r f0 x 6) now) (hr7 : q_ir (q_r f0 x 7) dr) (hr8 : q_ir (q_r f0 x 8) sv) (hr9 : q_ir (q_r f0 fc 0) tr) (hr10 : q_ir (q_r f0 so 0) ba) (hr11 : q_ir (q_r f0 dr 0) nds) (hr12 : q_ir (q_r f0 hist 0) ka) (hr13 : q_ir (q_r f0 now 0) ndn) (hr14 : q_ir (q_r f0 sv 0) nsv) (hr15 : q_ir (q_r f0 mo 1) bu) (hr16 : q_ir (q_r f0 mo 13) sr) (hr17 : q_ir (q_r f0 mo 14) sd) (hr18 : q_ir (q_r f0 mo 15) as) (hr19 : q_ir (q_r f0 mo 16) aw) (hr20 : q_ir (q_r f0 mo 17) pa) (hr21 : q_ir (q_r f0 mo 18) nm) (hr22 : q_ir (q_r f0 mo 19) snm) (hr23 : q_ir (q_r f0 mo 20) anm) (hr24 : q_ir (q_r f0 mo 24) hp) (hr25 : q_ir (q_r f0 mo 25) dy) (hr26 : q_ir (q_r f0 mo 29) cs) (hr27 : q_ir (q_r f0 mo 30) c1) (hr28 : q_ir (q_r f0 mo 31) c2) (hr29 : q_ir (q_r f0 mo 32) c3) (hr30 : q_ir (q_r f0 mo 33) bg) (hr31 : q_ir (q_r f0 mo 34) lp) (hr32 : q_ir (q_r f0 mo 38) rp) (hij : tk_ij K L f0 nds) {f : Nat → va_E} {H : Heap} {locs : List Loc} {ls : Array Slot} {cells slots : Nat} {ii tn : Int} {nl9 ls9 : List (List Int)} {xc : Int} (hB : q_B g K L (fun q => s.heap.size ≤ q) [(0, 0, 6), (2, 1, 2), (3, 0, 4), (4, 0, 7), (5, 0, 9), (6, 1, 1), (7, 1, 4), (8, 1, 9), (9, 0, 2), (10, 3, 15), (11, 9, 9), (12, 0, 0), (12, 2, 12), (12, 21, 23), (12, 26, 28), (12, 35, 37), (12, 39, 40), (13, 3, 15), (14, 3, 15), (15, 3, 15), (16, 3, 15), (17, 0, 9), (18, 0, 9), (19, 0, 9), (20, 0, 9), (21, 0, 4), (22, 0, 4), (23, 0, 4), (24, 0, 4), (25, 0, 7), (26, 0, 7), (27, 0, 7), (28, 0, 7), (142, 0, 599), (143, 0, 599), (150, 0, 599), (151, 0, 657), (152, 0, 657), (153, 0, 657), (154, 0, 657), (155, 0, 3947), (156, 0, 9), (157, 0, 9), (158, 0, 9), (159, 0, 9), (160, 0, 9), (161, 0, 59), (162, 0, 58), (163, 0, 58), (164, 0, 58), (165, 0, 1), (166, 0, 1), (167, 0, 479), (168, 0, 0), (169, 0, 0)] f0 f s H locs) (hI : q_Iv5 K L f x so mo sr pa sd bu ba now ndn hist ka sv nsv nm snm tn nl9 ls9 xc) (hl : lv_has ls 10 [(5, .int (q_i ii)), (4, .ref outD), (3, .ref out), (2, .ref mo), (1, .ref x), (0, .ref b)]) (hi0 : 0 ≤ ii) (hi6 : ii + 6 ≤ N9) (hce : cells + 6 ≤ 10000) (hse : slots + 36 ≤ 100000) (kk : ∀ (f1 : Nat → va_E) (H1 : Heap) (locs1 : List Loc) (ls1 : Array Slot) (tn1 : Int) (nl1 ls1_ : List (List Int)) (xc1 : Int), q_B g K L (fun q => s.heap.size ≤ q) [(0, 0, 6), (2, 1, 2), (3, 0, 4), (4, 0, 7), (5, 0, 9), (6, 1, 1), (7, 1, 4), (8, 1, 9), (9, 0, 2), (10, 3, 15), (11, 9, 9), (12, 0, 0), (12, 2, 12), (12, 21, 23), (12, 26, 28), (12, 35, 37), (12, 39, 40), (13, 3, 15), (14, 3, 15), (15, 3, 15), (16, 3, 15), (17, 0, 9), (18, 0, 9), (19, 0, 9), (20, 0, 9), (21, 0, 4), (22, 0, 4), (23, 0, 4), (24, 0, 4), (25, 0, 7), (26, 0, 7), (27, 0, 7), (28, 0, 7), (142, 0, 599), (143, 0, 599), (150, 0, 599), (151, 0, 657), (152, 0, 657), (153, 0, 657), (154, 0, 657), (155, 0, 3947), (156, 0, 9), (157, 0, 9), (158, 0, 9), (159, 0, 9), (160, 0, 9), (161, 0, 59), (162, 0, 58), (163, 0, 58), (164, 0, 58), (165, 0, 1), (166, 0, 1), (167, 0, 479), (168, 0, 0), (169, 0, 0)] f0 f1 s H1 locs1 → q_Iv5 K L f1 x so mo sr pa sd bu ba now ndn hist ka sv nsv nm snm tn1 nl1 ls1_ xc1 → lv_has ls1 10 [(5, .int (q_i ii)), (4, .ref outD), (3, .ref out), (2, .ref mo), (1, .ref x), (0, .ref b)] → W p l e room_1 s m #[Value.ref b] below meth c H1 locs1 (cells + 6) (slots + 36) (lw_Z below #[Value.ref b] s) (F0 m 1521 ls1 [])) : W p l e room_1 s m #[Value.ref b] below meth c H locs (cells) (slots) (lw_Z below #[Value.ref b] s) (F0 m 1330 ls []) := by
  have hXs := C0.2.2.2.2.2.2.1
  have hbl := C0.2.2.2.2.2.2.2.1
  have hbA := q_bA hbl
  obtain ⟨⟨hn0, hn1, ltn, utn⟩, hgr, hpk, hsd9, ht3, ht4, hbb, hsr0, hxc, hvn, hvk, hvs, hrn9, hrs9, hpc, hs22⟩ := hI
  have lxc : 0 ≤ xc := by omega
  have uxc : xc ≤ 10 := by have h7 := hvn.2.1.2; omega
  have hr0 : q_ir (q_r f x 0) so := Eq.trans (hB.2.2.r hx (by rw [kx]; rfl)) hr0
  have hr1 : q_ir (q_r f x 1) rd := Eq.trans (hB.2.2.r hx (by rw [kx]; rfl)) hr1
  have hr2 : q_ir (q_r f x 2) scr := Eq.trans (hB.2.2.r hx (by rw [kx]; rfl)) hr2
  have hr3 : q_ir (q_r f x 3) fc := Eq.trans (hB.2.2.r hx (by rw [kx]; rfl)) hr3
  have hr4 : q_ir (q_r f x 4) hist := Eq.trans (hB.2.2.r hx (by rw [kx]; rfl)) hr4
  have hr5 : q_ir (q_r f x 5) rep := Eq.trans (hB.2.2.r hx (by rw [kx]; rfl)) hr5
  have hr6 : q_ir (q_r f x 6) now := Eq.trans (hB.2.2.r hx (by rw [kx]; rfl)) hr6
  have hr7 : q_ir (q_r f x 7) dr := Eq.trans (hB.2.2.r hx (by rw [kx]; rfl)) hr7
  have hr8 : q_ir (q_r f x 8) sv := Eq.trans (hB.2.2.r hx (by rw [kx]; rfl)) hr8
  have hr9 : q_ir (q_r f fc 0) tr := Eq.trans (hB.2.2.r hfc (by rw [kfc]; rfl)) hr9
  have hr10 : q_ir (q_r f so 0) ba := Eq.trans (hB.2.2.r hso (by rw [kso]; rfl)) hr10
  have hr11 : q_ir (q_r f dr 0) nds := Eq.trans (hB.2.2.r hdr (by rw [kdr]; rfl)) hr11
  have hr12 : q_ir (q_r f hist 0) ka := Eq.trans (hB.2.2.r hhist (by rw [khist]; rfl)) hr12
  have hr13 : q_ir (q_r f now 0) ndn := Eq.trans (hB.2.2.r hnow (by rw [know]; rfl)) hr13
  have hr14 : q_ir (q_r f sv 0) nsv := Eq.trans (hB.2.2.r hsv (by rw [ksv]; rfl)) hr14
  have hr15 : q_ir (q_r f mo 1) bu := Eq.trans (hB.2.2.r hmo (by rw [kmo]; rfl)) hr15
  have hr16 : q_ir (q_r f mo 13) sr := Eq.trans (hB.2.2.r hmo (by rw [kmo]; rfl)) hr16
  have hr17 : q_ir (q_r f mo 14) sd := Eq.trans (hB.2.2.r hmo (by rw [kmo]; rfl)) hr17
  have hr18 : q_ir (q_r f mo 15) as := Eq.trans (hB.2.2.r hmo (by rw [kmo]; rfl)) hr18
  have hr19 : q_ir (q_r f mo 16) aw := Eq.trans (hB.2.2.r hmo (by rw [kmo]; rfl)) hr19
  have hr20 : q_ir (q_r f mo 17) pa := Eq.trans (hB.2.2.r hmo (by rw [kmo]; rfl)) hr20
  have hr21 : q_ir (q_r f mo 18) nm := Eq.trans (hB.2.2.r hmo (by rw [kmo]; rfl)) hr21
  have hr22 : q_ir (q_r f mo 19) snm := Eq.trans (hB.2.2.r hmo (by rw [kmo]; rfl)) hr22
  have hr23 : q_ir (q_r f mo 20) anm := Eq.trans (hB.2.2.r hmo (by rw [kmo]; rfl)) hr23
  have hr24 : q_ir (q_r f mo 24) hp := Eq.trans (hB.2.2.r hmo (by rw [kmo]; rfl)) hr24
  have hr25 : q_ir (q_r f mo 25) dy := Eq.trans (hB.2.2.r hmo (by rw [kmo]; rfl)) hr25
  have hr26 : q_ir (q_r f mo 29) cs := Eq.trans (hB.2.2.r hmo (by rw [kmo]; rfl)) hr26
  have hr27 : q_ir (q_r f mo 30) c1 := Eq.trans (hB.2.2.r hmo (by rw [kmo]; rfl)) hr27
  have hr28 : q_ir (q_r f mo 31) c2 := Eq.trans (hB.2.2.r hmo (by rw [kmo]; rfl)) hr28
  have hr29 : q_ir (q_r f mo 32) c3 := Eq.trans (hB.2.2.r hmo (by rw [kmo]; rfl)) hr29
  have hr30 : q_ir (q_r f mo 33) bg := Eq.trans (hB.2.2.r hmo (by rw [kmo]; rfl)) hr30
  have hr31 : q_ir (q_r f mo 34) lp := Eq.trans (hB.2.2.r hmo (by rw [kmo]; rfl)) hr31
  have hr32 : q_ir (q_r f mo 38) rp := Eq.trans (hB.2.2.r hmo (by rw [kmo]; rfl)) hr32
  have hij : tk_ij K L f nds := tk_ij_tr hij (fun i9 => hB.2.2.r hnds (by rw [knds]; rfl))
  obtain ⟨x1, ex1⟩ : ∃ zz, q_is (q_z f sr 3) zz := ⟨_, q_isr _⟩
  obtain ⟨lx1, ux1⟩ : 0 ≤ x1 ∧ x1 ≤ 9999 := q_isb ex1 ⟨(hgr 3 (by decide)).1, ht3⟩
  obtain ⟨x2, ex2⟩ : ∃ zz, q_is (q_z f sr 4) zz := ⟨_, q_isr _⟩
  obtain ⟨lx2, ux2⟩ : 0 ≤ x2 ∧ x2 ≤ 60 := q_isb ex2 ⟨(hgr 4 (by decide)).1, ht4⟩
  refine q_ald_n cx dL_law_1330 rfl (lv_at hl 4 rfl) ?_
  refine q_ald_n cx dL_law_1331 rfl (lv_at hl 5 rfl) ?_
  refine lv_iload cx.1 cx.2.1 dL_law_1332 (lv_at hl 0 rfl) ?_
  refine q_iconst cx dL_law_1334 ?_
  refine q_iadd cx dL_law_1335 ?_
  refine va_sld cx.1 cx.2.1 hXs hbl hbA hB.1.2.2.2 (q_in (by omega) (by omega) (by omega)) dL_law_1336 ?_
  obtain ⟨a3, ra3, ea3⟩ : ∃ z : Int, q_R z ∧ xs (q_i (ii + 1)).toNatClampNeg = q_i z := ⟨_, q_rng _, (q_of _).symm⟩
  rw [ea3]
  refine q_ald_n cx dL_law_1337 rfl (lv_at hl 5 rfl) ?_
  refine lv_iload cx.1 cx.2.1 dL_law_1338 (lv_at hl 0 rfl) ?_
  refine q_iconst cx dL_law_1340 ?_
  refine q_iadd cx dL_law_1341 ?_
  refine va_sld cx.1 cx.2.1 hXs hbl hbA hB.1.2.2.2 (q_in (by omega) (by omega) (by omega)) dL_law_1342 ?_
  obtain ⟨a4, ra4, ea4⟩ : ∃ z : Int, q_R z ∧ xs (q_i (ii + 2)).toNatClampNeg = q_i z := ⟨_, q_rng _, (q_of _).symm⟩
  rw [ea4]
  refine q_ald_n cx dL_law_1343 rfl (lv_at hl 2 rfl) ?_
  refine q_cWS (As := [.ref x, .int (q_i a3), .int (q_i a4), .ref out]) (rest := []) cx hX hB (fun q h => hLA q h) (fun q h1 h2 => absurd h1 (Nat.not_le_of_lt h2)) hN (f_wsetBorn l g ad hN hB.2.1 hfl nl9 x hx kx a3 (by omega) (by omega) a4 (by omega) (by omega) out hout kout so hso kso rd hrd krd scr hscr kscr fc hfc kfc hist hhist khist rep hrep krep now hnow know dr hdr kdr sv hsv ksv tr htr ktr ba hba kba nds hnds knds ka hka kka ndn hndn kndn nsv hnsv knsv hr0 hr1 hr2 hr3 hr4 hr5 hr6 hr7 hr8 hr9 hr10 hr11 hr12 hr13 hr14 hvn hvk) q_cL_234 q_dL_setBorn ⟨by decide, by show cells + 2 ≤ 601024; omega, by show slots + 12 ≤ 7293034; omega⟩ rfl rfl hl.1 rfl (Nat.le_of_ble_eq_true rfl) dL_law_1344 (fun v9 H locs f5 h7 hF hB => ?_)
  obtain ⟨y6, rfl, ry6, h7⟩ := h7
  refine W.eq (g2 := F0 m 1347 ls [.int (q_i y6)]) rfl ?_
  obtain ⟨ly6, uy6, g8⟩ := h7
  have z9 : q_is (q_z f5 so 1) tn := Eq.trans (hF.z hso (by rw [kso]; rfl)) hn0
  have z10 : q_is (q_z f5 mo 2) tn := Eq.trans (hF.z hmo (by rw [kmo]; rfl)) hn1
  have z11 : q_is (q_z f5 sr 0) xc := Eq.trans (hF.z hsr (by rw [ksr]; rfl)) hsr0
  have z12 : q_is (q_z f5 sr 3) x1 := Eq.trans (hF.z hsr (by rw [ksr]; rfl)) ex1
  have z13 : q_is (q_z f5 sr 4) x2 := Eq.trans (hF.z hsr (by rw [ksr]; rfl)) ex2
  have z14 : q_ir (q_r f5 x 0) so := Eq.trans (hF.r hx (by rw [kx]; rfl)) hr0
  have z15 : q_ir (q_r f5 x 1) rd := Eq.trans (hF.r hx (by rw [kx]; rfl)) hr1
  have z16 : q_ir (q_r f5 x 2) scr := Eq.trans (hF.r hx (by rw [kx]; rfl)) hr2
  have z17 : q_ir (q_r f5 x 3) fc := Eq.trans (hF.r hx (by rw [kx]; rfl)) hr3
  have z18 : q_ir (q_r f5 x 4) hist := Eq.trans (hF.r hx (by rw [kx]; rfl)) hr4
  have z19 : q_ir (q_r f5 x 5) rep := Eq.trans (hF.r hx (by rw [kx]; rfl)) hr5
  have z20 : q_ir (q_r f5 x 6) now := Eq.trans (hF.r hx (by rw [kx]; rfl)) hr6
  have z21 : q_ir (q_r f5 x 7) dr := Eq.trans (hF.r hx (by rw [kx]; rfl)) hr7
  have z22 : q_ir (q_r f5 x 8) sv := Eq.trans (hF.r hx (by rw [kx]; rfl)) hr8
  have z23 : q_ir (q_r f5 fc 0) tr := Eq.trans (hF.r hfc (by rw [kfc]; rfl)) hr9
  have z24 : q_ir (q_r f5 so 0) ba := Eq.trans (hF.r hso (by rw [kso]; rfl)) hr10
  have z25 : q_ir (q_r f5 dr 0) nds := Eq.trans (hF.r hdr (by rw [kdr]; rfl)) hr11
  have z26 : q_ir (q_r f5 hist 0) ka := Eq.trans (hF.r hhist (by rw [khist]; rfl)) hr12
  have z27 : q_ir (q_r f5 now 0) ndn := Eq.trans (hF.r hnow (by rw [know]; rfl)) hr13
  have z28 : q_ir (q_r f5 sv 0) nsv := Eq.trans (hF.r hsv (by rw [ksv]; rfl)) hr14
  have z29 : q_ir (q_r f5 mo 1) bu := Eq.trans (hF.r hmo (by rw [kmo]; rfl)) hr15
  have z30 : q_ir (q_r f5 mo 13) sr := Eq.trans (hF.r hmo (by rw [kmo]; rfl)) hr16
  have z31 : q_ir (q_r f5 mo 14) sd := Eq.trans (hF.r hmo (by rw [kmo]; rfl)) hr17
  have z32 : q_ir (q_r f5 mo 15) as := Eq.trans (hF.r hmo (by rw [kmo]; rfl)) hr18
  have z33 : q_ir (q_r f5 mo 16) aw := Eq.trans (hF.r hmo (by rw [kmo]; rfl)) hr19
  have z34 : q_ir (q_r f5 mo 17) pa := Eq.trans (hF.r hmo (by rw [kmo]; rfl)) hr20
  have z35 : q_ir (q_r f5 mo 18) nm := Eq.trans (hF.r hmo (by rw [kmo]; rfl)) hr21
  have z36 : q_ir (q_r f5 mo 19) snm := Eq.trans (hF.r hmo (by rw [kmo]; rfl)) hr22
  have z37 : q_ir (q_r f5 mo 20) anm := Eq.trans (hF.r hmo (by rw [kmo]; rfl)) hr23
  have z38 : q_ir (q_r f5 mo 24) hp := Eq.trans (hF.r hmo (by rw [kmo]; rfl)) hr24
  have z39 : q_ir (q_r f5 mo 25) dy := Eq.trans (hF.r hmo (by rw [kmo]; rfl)) hr25
  have z40 : q_ir (q_r f5 mo 29) cs := Eq.trans (hF.r hmo (by rw [kmo]; rfl)) hr26
  have z41 : q_ir (q_r f5 mo 30) c1 := Eq.trans (hF.r hmo (by rw [kmo]; rfl)) hr27
  have z42 : q_ir (q_r f5 mo 31) c2 := Eq.trans (hF.r hmo (by rw [kmo]; rfl)) hr28
  have z43 : q_ir (q_r f5 mo 32) c3 := Eq.trans (hF.r hmo (by rw [kmo]; rfl)) hr29
  have z44 : q_ir (q_r f5 mo 33) bg := Eq.trans (hF.r hmo (by rw [kmo]; rfl)) hr30
  have z45 : q_ir (q_r f5 mo 34) lp := Eq.trans (hF.r hmo (by rw [kmo]; rfl)) hr31
  have z46 : q_ir (q_r f5 mo 38) rp := Eq.trans (hF.r hmo (by rw [kmo]; rfl)) hr32
  have g47 : q_gr f5 sr := q_gr_fr hgr (fun i9 _ => hF.z hsr (by rw [ksr]; rfl))
  have g48 : q_z f5 x 9 = q_z f5 mo 22 := tk_s2_tr hs22 (hF.z hx (by rw [kx]; rfl)) (hF.z hmo (by rw [kmo]; rfl))
  have g49 : q_pk f5 mo pa := q_pk_tr hpk (hF.z hmo (by rw [kmo]; rfl)) (fun i9 => hF.z hpa (by rw [kpa]; rfl))
  have g50 : q_sv f5 mo sd := q_sv_tr hsd9 (hF.z hmo (by rw [kmo]; rfl)) (fun i9 => hF.z hsd (by rw [ksd]; rfl))
  have g51 : tk_bb f5 bu ba tn := tk_bb_tr hbb (fun i9 => hF.z hbu (by rw [kbu]; rfl)) (fun i9 => hF.z hba (by rw [kba]; rfl))
  have g52 : tk_ij K L f5 nds := tk_ij_tr hij (fun i9 => hF.r hnds (by rw [knds]; rfl))
  have g53 : tk_vn K L 5 f5 now ndn nl9 := tk_vn_tr hvn (hF.z hnow (by rw [know]; rfl)) (fun a9 h9 k9 => hF.j h9 (by rw [k9]; rfl)) (fun i9 => hF.r hndn (by rw [kndn]; rfl))
  have g54 : tk_vs K L f5 x sv nsv ls9 := tk_vs_tr hvs (hF.z hx (by rw [kx]; rfl)) (hF.z hsv (by rw [ksv]; rfl)) (fun a9 h9 k9 => hF.j h9 (by rw [k9]; rfl)) (fun i9 => hF.r hnsv (by rw [knsv]; rfl))
  have g55 : tk_nq f5 nm nl9 := tk_nq_tr hrn9 (fun i9 => hF.j hnm (by rw [knm]; rfl))
  have g56 : tk_rs f5 mo sd snm ls9 := tk_rs_tr hrs9 (hF.z hmo (by rw [kmo]; rfl)) (fun i9 h9 k9 => hF.z hsd (by rw [ksd]; exact q_inWr rfl h9 k9)) (fun i9 => hF.j hsnm (by rw [ksnm]; rfl))
  have g57 : q_pc f5 mo pa xc := q_pc_tr hpc (hF.z hmo (by rw [kmo]; rfl)) (fun i9 => hF.z hpa (by rw [kpa]; rfl))
  refine lv_istore (lv' := [(6, .int (q_i y6)), (5, .int (q_i ii)), (4, .ref outD), (3, .ref out), (2, .ref mo), (1, .ref x), (0, .ref b)]) cx.1 cx.2.1 dL_law_1347 hl (by decide) rfl (fun ls hl => ?_)
  refine q_ald_n cx dL_law_1349 rfl (lv_at hl 4 rfl) ?_
  refine q_ald_n cx dL_law_1350 rfl (lv_at hl 6 rfl) ?_
  refine lv_iload cx.1 cx.2.1 dL_law_1351 (lv_at hl 1 rfl) ?_
  refine q_iconst cx dL_law_1353 ?_
  refine q_iadd cx dL_law_1354 ?_
  refine va_sld cx.1 cx.2.1 hXs hbl hbA hB.1.2.2.2 (q_in (by omega) (by omega) (by omega)) dL_law_1355 ?_
  rw [ea3]
  refine q_ald_n cx dL_law_1356 rfl (lv_at hl 6 rfl) ?_
  refine lv_iload cx.1 cx.2.1 dL_law_1357 (lv_at hl 1 rfl) ?_
  refine q_iconst cx dL_law_1359 ?_
  refine q_iadd cx dL_law_1360 ?_
  refine va_sld cx.1 cx.2.1 hXs hbl hbA hB.1.2.2.2 (q_in (by omega) (by omega) (by omega)) dL_law_1361 ?_
  rw [ea4]
  refine q_cVi (As := [.int (q_i a3), .int (q_i a4)]) (rest := []) cx hB (fun q h => hLA q h) hN hmo kmo (by decide) rfl (r_setBorn l g hN hB.2.1 mo hmo kmo a3 (by omega) (by omega) a4 (by omega) (by omega) sr hsr ksr as has kas pa hpa kpa x1 (by omega) (by omega) x2 (by omega) (by omega) xc (by omega) (by omega) z12 z13 z11 z30 z32 z34 g47 g49 g57) q_cL_236 q_dX12_setBorn ⟨by decide, by show cells + 2 ≤ 601024; omega, by show slots + 12 ≤ 7293034; omega⟩ rfl rfl hl.1 rfl (Nat.le_of_ble_eq_true rfl) dL_law_1362 (fun y59 H locs f58 ry59 h60 hF hB => ?_)
  obtain ⟨ly59, uy59, lz61, uz61, lz62, uz62, z63, g64, g65, g66⟩ := h60
  have z67 : q_is (q_z f58 so 1) tn := Eq.trans (hF.z hso (by rw [kso]; rfl)) z9
  have z68 : q_is (q_z f58 mo 2) tn := Eq.trans (hF.z hmo (by rw [kmo]; rfl)) z10
  have z69 : q_is (q_z f58 sr 0) xc := Eq.trans (hF.z hsr (by rw [ksr]; rfl)) z11
  have z70 : q_is (q_z f58 sr 3) x1 := Eq.trans (hF.z hsr (by rw [ksr]; rfl)) z12
  have z71 : q_is (q_z f58 sr 4) x2 := Eq.trans (hF.z hsr (by rw [ksr]; rfl)) z13
  have z72 : q_ir (q_r f58 x 0) so := Eq.trans (hF.r hx (by rw [kx]; rfl)) z14
  have z73 : q_ir (q_r f58 x 1) rd := Eq.trans (hF.r hx (by rw [kx]; rfl)) z15
  have z74 : q_ir (q_r f58 x 2) scr := Eq.trans (hF.r hx (by rw [kx]; rfl)) z16
  have z75 : q_ir (q_r f58 x 3) fc := Eq.trans (hF.r hx (by rw [kx]; rfl)) z17
  have z76 : q_ir (q_r f58 x 4) hist := Eq.trans (hF.r hx (by rw [kx]; rfl)) z18
  have z77 : q_ir (q_r f58 x 5) rep := Eq.trans (hF.r hx (by rw [kx]; rfl)) z19
  have z78 : q_ir (q_r f58 x 6) now := Eq.trans (hF.r hx (by rw [kx]; rfl)) z20
  have z79 : q_ir (q_r f58 x 7) dr := Eq.trans (hF.r hx (by rw [kx]; rfl)) z21
  have z80 : q_ir (q_r f58 x 8) sv := Eq.trans (hF.r hx (by rw [kx]; rfl)) z22
  have z81 : q_ir (q_r f58 fc 0) tr := Eq.trans (hF.r hfc (by rw [kfc]; rfl)) z23
  have z82 : q_ir (q_r f58 so 0) ba := Eq.trans (hF.r hso (by rw [kso]; rfl)) z24
  have z83 : q_ir (q_r f58 dr 0) nds := Eq.trans (hF.r hdr (by rw [kdr]; rfl)) z25
  have z84 : q_ir (q_r f58 hist 0) ka := Eq.trans (hF.r hhist (by rw [khist]; rfl)) z26
  have z85 : q_ir (q_r f58 now 0) ndn := Eq.trans (hF.r hnow (by rw [know]; rfl)) z27
  have z86 : q_ir (q_r f58 sv 0) nsv := Eq.trans (hF.r hsv (by rw [ksv]; rfl)) z28
  have z87 : q_ir (q_r f58 mo 1) bu := Eq.trans (hF.r hmo (by rw [kmo]; rfl)) z29
  have z88 : q_ir (q_r f58 mo 13) sr := Eq.trans (hF.r hmo (by rw [kmo]; rfl)) z30
  have z89 : q_ir (q_r f58 mo 14) sd := Eq.trans (hF.r hmo (by rw [kmo]; rfl)) z31
  have z90 : q_ir (q_r f58 mo 15) as := Eq.trans (hF.r hmo (by rw [kmo]; rfl)) z32
  have z91 : q_ir (q_r f58 mo 16) aw := Eq.trans (hF.r hmo (by rw [kmo]; rfl)) z33
  have z92 : q_ir (q_r f58 mo 17) pa := Eq.trans (hF.r hmo (by rw [kmo]; rfl)) z34
  have z93 : q_ir (q_r f58 mo 18) nm := Eq.trans (hF.r hmo (by rw [kmo]; rfl)) z35
  have z94 : q_ir (q_r f58 mo 19) snm := Eq.trans (hF.r hmo (by rw [kmo]; rfl)) z36
  have z95 : q_ir (q_r f58 mo 20) anm := Eq.trans (hF.r hmo (by rw [kmo]; rfl)) z37
  have z96 : q_ir (q_r f58 mo 24) hp := Eq.trans (hF.r hmo (by rw [kmo]; rfl)) z38
  have z97 : q_ir (q_r f58 mo 25) dy := Eq.trans (hF.r hmo (by rw [kmo]; rfl)) z39
  have z98 : q_ir (q_r f58 mo 29) cs := Eq.trans (hF.r hmo (by rw [kmo]; rfl)) z40
  have z99 : q_ir (q_r f58 mo 30) c1 := Eq.trans (hF.r hmo (by rw [kmo]; rfl)) z41
  have z100 : q_ir (q_r f58 mo 31) c2 := Eq.trans (hF.r hmo (by rw [kmo]; rfl)) z42
  have z101 : q_ir (q_r f58 mo 32) c3 := Eq.trans (hF.r hmo (by rw [kmo]; rfl)) z43
  have z102 : q_ir (q_r f58 mo 33) bg := Eq.trans (hF.r hmo (by rw [kmo]; rfl)) z44
  have z103 : q_ir (q_r f58 mo 34) lp := Eq.trans (hF.r hmo (by rw [kmo]; rfl)) z45
  have z104 : q_ir (q_r f58 mo 38) rp := Eq.trans (hF.r hmo (by rw [kmo]; rfl)) z46
  have g105 : q_z f58 x 9 = q_z f58 mo 22 := tk_s2_tr g48 (hF.z hx (by rw [kx]; rfl)) (hF.z hmo (by rw [kmo]; rfl))
  have g106 : q_sv f58 mo sd := q_sv_tr g50 (hF.z hmo (by rw [kmo]; rfl)) (fun i9 => hF.z hsd (by rw [ksd]; rfl))
  have g107 : tk_bb f58 bu ba tn := tk_bb_tr g51 (fun i9 => hF.z hbu (by rw [kbu]; rfl)) (fun i9 => hF.z hba (by rw [kba]; rfl))
  have g108 : tk_ij K L f58 nds := tk_ij_tr g52 (fun i9 => hF.r hnds (by rw [knds]; rfl))
  have g109 : tk_vn K L 5 f58 now ndn nl9 := tk_vn_tr g53 (hF.z hnow (by rw [know]; rfl)) (fun a9 h9 k9 => hF.j h9 (by rw [k9]; rfl)) (fun i9 => hF.r hndn (by rw [kndn]; rfl))
  have g110 : tk_vs K L f58 x sv nsv ls9 := tk_vs_tr g54 (hF.z hx (by rw [kx]; rfl)) (hF.z hsv (by rw [ksv]; rfl)) (fun a9 h9 k9 => hF.j h9 (by rw [k9]; rfl)) (fun i9 => hF.r hnsv (by rw [knsv]; rfl))
  have g111 : tk_nq f58 nm nl9 := tk_nq_tr g55 (fun i9 => hF.j hnm (by rw [knm]; rfl))
  have g112 : tk_rs f58 mo sd snm ls9 := tk_rs_tr g56 (hF.z hmo (by rw [kmo]; rfl)) (fun i9 h9 k9 => hF.z hsd (by rw [ksd]; exact q_inWr rfl h9 k9)) (fun i9 => hF.j hsnm (by rw [ksnm]; rfl))
  have g113 : tk_vk K L f58 hist ka now ndn := tk_vk_tr g8 (hF.z hhist (by rw [khist]; rfl)) (hF.z hhist (by rw [khist]; rfl)) (hF.z hnow (by rw [know]; rfl)) (fun a9 h9 k9 => hF.j h9 (by rw [k9]; rfl)) (fun i9 => hF.r hndn (by rw [kndn]; rfl)) (fun a9 h9 k9 => hF.z h9 (by rw [k9]; rfl)) (fun a9 h9 k9 => hF.j h9 (by rw [k9]; rfl)) (fun i9 => hF.r hka (by rw [kka]; rfl)) (fun a9 h9 k9 => hF.r h9 (by rw [k9]; rfl)) (fun a9 h9 k9 i9 => hF.r h9 (by rw [k9]; rfl))
  obtain ⟨x114, ex114⟩ : ∃ zz, q_is (q_z f58 sr 3) zz := ⟨_, q_isr _⟩
  obtain ⟨lx114, ux114⟩ := q_isb ex114 ⟨lz61, uz61⟩
  obtain ⟨x115, ex115⟩ : ∃ zz, q_is (q_z f58 sr 4) zz := ⟨_, q_isr _⟩
  obtain ⟨lx115, ux115⟩ := q_isb ex115 ⟨lz62, uz62⟩
  refine lv_istore (lv' := [(7, .int (q_i y59)), (6, .int (q_i y6)), (5, .int (q_i ii)), (4, .ref outD), (3, .ref out), (2, .ref mo), (1, .ref x), (0, .ref b)]) cx.1 cx.2.1 dL_law_1365 hl (by decide) rfl (fun ls hl => ?_)
  refine lv_goto (tgt := 1521) cx.1 cx.2.1 dL_law_1367 (by decide) ?_
  refine W.widen (k := cells + 6) (n := slots + 36) (by omega) (by omega) ?_
  exact kk f58 H locs ls tn nl9 ls9 xc hB ⟨⟨z67, (Eq.trans z68 (by omega)), by omega, by omega⟩, g64, g65, g106, q_isu ex114 (by omega), q_isu ex115 (by omega), tk_bb_le g107 (by omega), z63, by omega, g109, g113, g110, g111, g112, g66, g105⟩ (lv_sub hl [2, 3, 4, 5, 6, 7] rfl)
