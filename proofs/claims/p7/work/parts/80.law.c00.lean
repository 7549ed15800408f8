set_option maxHeartbeats 4000000 in
set_option maxRecDepth 100000 in
theorem law_c220 {p : Program} {l : Launch} {e : Env} {s : State} {m : MethodId} {below : List Frame} {meth : Method} {c : Code} {b N9 : Nat} {xs : Nat → Int32} (hfl : l.stackTraces = false) (hN9 : N9 ≤ 3072) (C0 : lw_At p s m meth c b N9 xs) (cx : CallFix p m c cL_law 10 s #[Value.ref b] q_al RL) {g : q_G} {ad : Nat → Nat} {K : Nat → Nat} {L : List Nat} (hN : L.Nodup) (hLA : ∀ q, q ∈ L → s.heap.size ≤ q) (hX : q_X ad (fun q => q ∈ L) s) {f0 : Nat → va_E} {x : Nat} (hx : x ∈ L) (kx : K x = 11) {so : Nat} (hso : so ∈ L) (kso : K so = 8) {rd : Nat} (hrd : rd ∈ L) (krd : K rd = 9) {scr : Nat} (hscr : scr ∈ L) (kscr : K scr = 7) {fc : Nat} (hfc : fc ∈ L) (kfc : K fc = 1) {hist : Nat} (hhist : hist ∈ L) (khist : K hist = 2) {rep : Nat} (hrep : rep ∈ L) (krep : K rep = 6) {now : Nat} (hnow : now ∈ L) (know : K now = 10) {dr : Nat} (hdr : dr ∈ L) (kdr : K dr = 13) {sv : Nat} (hsv : sv ∈ L) (ksv : K sv = 14) {tr : Nat} (htr : tr ∈ L) (ktr : K tr = 15) {ba : Nat} (hba : ba ∈ L) (kba : K ba = 142) {nds : Nat} (hnds : nds ∈ L) (knds : K nds = 111) {ka : Nat} (hka : ka ∈ L) (kka : K ka = 140) {ndn : Nat} (hndn : ndn ∈ L) (kndn : K ndn = 110) {nsv : Nat} (hnsv : nsv ∈ L) (knsv : K nsv = 112) {cmds : Nat} (hcmds : cmds ∈ L) (kcmds : K cmds = 141) {mo : Nat} (hmo : mo ∈ L) (kmo : K mo = 12) {bu : Nat} (hbu : bu ∈ L) (kbu : K bu = 150) {sr : Nat} (hsr : sr ∈ L) (ksr : K sr = 151) {sd : Nat} (hsd : sd ∈ L) (ksd : K sd = 152) {as : Nat} (has : as ∈ L) (kas : K as = 153) {aw : Nat} (haw : aw ∈ L) (kaw : K aw = 154) {pa : Nat} (hpa : pa ∈ L) (kpa : K pa = 155) {nm : Nat} (hnm : nm ∈ L) (knm : K nm = 156) {snm : Nat} (hsnm : snm ∈ L) (ksnm : K snm = 157) {anm : Nat} (hanm : anm ∈ L) (kanm : K anm = 158) {hp : Nat} (hhp : hp ∈ L) (khp : K hp = 159) {dy : Nat} (hdy : dy ∈ L) (kdy : K dy = 160) {cs : Nat} (hcs : cs ∈ L) (kcs : K cs = 161) {c1 : Nat} (hc1 : c1 ∈ L) (kc1 : K c1 = 162) {c2 : Nat} (hc2 : c2 ∈ L) (kc2 : K c2 = 163) {c3 : Nat} (hc3 : c3 ∈ L) (kc3 : K c3 = 164) {bg : Nat} (hbg : bg ∈ L) (kbg : K bg = 165) {lp : Nat} (hlp : lp ∈ L) (klp : K lp = 166) {rp : Nat} (hrp : rp ∈ L) (krp : K rp = 167) {out : Nat} (hout : out ∈ L) (kout : K out = 168) {outD : Nat} (houtD : outD ∈ L) (koutD : K outD = 169) (hr0 : q_ir (q_r f0 x 0) so) (hr1 : q_ir (q_r f0 x 1) rd) (hr2 : q_ir (q_r f0 x 2) scr) (hr3 : q_ir (q_r f0 x 3) fc) (hr4 : q_ir (q_r f0 x 4) hist) (hr5 : q_ir (q_r f0 x 5) rep) (hr6 : q_ir (q_r f0 x 6) now) (hr7 : q_ir (q_r f0 x 7) dr) (hr8 : q_ir (q_r f0 x 8) sv) (hr9 : q_ir (q_r f0 fc 0) tr) (hr10 : q_ir (q_r f0 so 0) ba) (hr11 : q_ir (q_r f0 dr 0) nds) (hr12 : q_ir (q_r f0 hist 0) ka) (hr13 : q_ir (q_r f0 now 0) ndn) (hr14 : q_ir (q_r f0 sv 0) nsv) (hr15 : q_ir (q_r f0 scr 0) cmds) (hr16 : q_ir (q_r f0 mo 1) bu) (hr17 : q_ir (q_r f0 mo 13) sr) (hr18 : q_ir (q_r f0 mo 14) sd) (hr19 : q_ir (q_r f0 mo 15) as) (hr20 : q_ir (q_r f0 mo 16) aw) (hr21 : q_ir (q_r f0 mo 17) pa) (hr22 : q_ir (q_r f0 mo 18) nm) (hr23 : q_ir (q_r f0 mo 19) snm) (hr24 : q_ir (q_r f0 mo 20) anm) (hr25 : q_ir (q_r f0 mo 24) hp) (hr26 : q_ir (q_r f0 mo 25) dy) (hr27 : q_ir (q_r f0 mo 29) cs) (hr28 : q_ir (q_r f0 mo 30) c1) (hr29 : q_ir (q_r f0 mo 31) c2) (hr30 : q_ir (q_r f0 mo 32) c3) (hr31 : q_ir (q_r f0 mo 33) bg) (hr32 : q_ir (q_r f0 mo 34) lp) (hr33 : q_ir (q_r f0 mo 38) rp) (hij : tk_ij K L f0 nds) (hcj : tk_c3 K L f0 cmds) {f : Nat → va_E} {H : Heap} {locs : List Loc} {ls : Array Slot} {cells slots : Nat} {ii tn : Int} {nl9 ls9 : List (List Int)} {xc : Int} (hB : q_B g K L (fun q => s.heap.size ≤ q) [(0, 0, 6), (2, 1, 2), (3, 0, 4), (4, 0, 7), (5, 0, 9), (6, 1, 1), (7, 1, 4), (8, 1, 9), (9, 0, 2), (10, 3, 15), (11, 9, 9), (12, 0, 0), (12, 2, 12), (12, 21, 23), (12, 26, 28), (12, 35, 37), (12, 39, 40), (13, 3, 15), (14, 3, 15), (15, 3, 15), (16, 3, 15), (17, 0, 9), (18, 0, 9), (19, 0, 9), (20, 0, 9), (21, 0, 4), (22, 0, 4), (23, 0, 4), (24, 0, 4), (25, 0, 7), (26, 0, 7), (27, 0, 7), (28, 0, 7), (142, 0, 599), (143, 0, 599), (150, 0, 599), (151, 0, 657), (152, 0, 657), (153, 0, 657), (154, 0, 657), (155, 0, 3947), (156, 0, 9), (157, 0, 9), (158, 0, 9), (159, 0, 9), (160, 0, 9), (161, 0, 59), (162, 0, 58), (163, 0, 58), (164, 0, 58), (165, 0, 1), (166, 0, 1), (167, 0, 479), (168, 0, 0), (169, 0, 0)] f0 f s H locs) (hI : q_Iv6 K L f x so mo sr pa sd bu ba now ndn hist ka sv nsv nm snm tn nl9 ls9 xc) (hl : lv_has ls 10 [(5, .int (q_i ii)), (4, .ref outD), (3, .ref out), (2, .ref mo), (1, .ref x), (0, .ref b)]) (hi0 : 0 ≤ ii) (hi6 : ii + 6 ≤ N9) (hce : cells + 6 ≤ 10000) (hse : slots + 36 ≤ 100000) (kk : ∀ (f1 : Nat → va_E) (H1 : Heap) (locs1 : List Loc) (ls1 : Array Slot) (tn1 : Int) (nl1 ls1_ : List (List Int)) (xc1 : Int), q_B g K L (fun q => s.heap.size ≤ q) [(0, 0, 6), (2, 1, 2), (3, 0, 4), (4, 0, 7), (5, 0, 9), (6, 1, 1), (7, 1, 4), (8, 1, 9), (9, 0, 2), (10, 3, 15), (11, 9, 9), (12, 0, 0), (12, 2, 12), (12, 21, 23), (12, 26, 28), (12, 35, 37), (12, 39, 40), (13, 3, 15), (14, 3, 15), (15, 3, 15), (16, 3, 15), (17, 0, 9), (18, 0, 9), (19, 0, 9), (20, 0, 9), (21, 0, 4), (22, 0, 4), (23, 0, 4), (24, 0, 4), (25, 0, 7), (26, 0, 7), (27, 0, 7), (28, 0, 7), (142, 0, 599), (143, 0, 599), (150, 0, 599), (151, 0, 657), (152, 0, 657), (153, 0, 657), (154, 0, 657), (155, 0, 3947), (156, 0, 9), (157, 0, 9), (158, 0, 9), (159, 0, 9), (160, 0, 9), (161, 0, 59), (162, 0, 58), (163, 0, 58), (164, 0, 58), (165, 0, 1), (166, 0, 1), (167, 0, 479), (168, 0, 0), (169, 0, 0)] f0 f1 s H1 locs1 → q_Iv6 K L f1 x so mo sr pa sd bu ba now ndn hist ka sv nsv nm snm tn1 nl1 ls1_ xc1 → lv_has ls1 10 [(5, .int (q_i ii)), (4, .ref outD), (3, .ref out), (2, .ref mo), (1, .ref x), (0, .ref b)] → W p l e room_1 s m #[Value.ref b] below meth c H1 locs1 (cells + 6) (slots + 36) (lw_Z below #[Value.ref b] s) (F0 m 1493 ls1 [])) : W p l e room_1 s m #[Value.ref b] below meth c H locs (cells) (slots) (lw_Z below #[Value.ref b] s) (F0 m 220 ls []) := by
  have hXs := C0.2.2.2.2.2.2.1
  have hbl := C0.2.2.2.2.2.2.2.1
  have hbA := q_bA hbl
  obtain ⟨⟨hn0, hn1, ltn, utn⟩, hgr, hpk, hsd9, ht3, ht4, hbb, hsr0, hxc, hvn, hvk, hvs, hrn9, hrs9, hpc, hs22, he2, he3⟩ := hI
  have lxc : 0 ≤ xc := by omega
  have uxc : xc ≤ 10 := by have h7 := hvn.2.1.2; omega
  have hr0 : q_ir (q_r f x 0) so := Eq.trans (hB.2.2.r hx (by rw [kx]; rfl)) hr0
  have hr1 : q_ir (q_r f x 1) rd := Eq.trans (hB.2.2.r hx (by rw [kx]; rfl)) hr1
  have hr2 : q_ir (q_r f x 2) scr := Eq.trans (hB.2.2.r hx (by rw [kx]; rfl)) hr2
  have hr3 : q_ir (q_r f x 3) fc := Eq.trans (hB.2.2.r hx (by rw [kx]; rfl)) hr3
  have hr4 : q_ir (q_r f x 4) hist := Eq.trans (hB.2.2.r hx (by rw [kx]; rfl)) hr4
  have hr5 : q_ir (q_r f x 5) rep := Eq.trans (hB.2.2.r hx (by rw [kx]; rfl)) hr5
  have hr6 : q_ir (q_r f x 6) now := Eq.trans (hB.2.2.r hx (by rw [kx]; rfl)) hr6
  have hr7 : q_ir (q_r f x 7) dr := Eq.trans (hB.2.2.r hx (by rw [kx]; rfl)) hr7
  have hr8 : q_ir (q_r f x 8) sv := Eq.trans (hB.2.2.r hx (by rw [kx]; rfl)) hr8
  have hr9 : q_ir (q_r f fc 0) tr := Eq.trans (hB.2.2.r hfc (by rw [kfc]; rfl)) hr9
  have hr10 : q_ir (q_r f so 0) ba := Eq.trans (hB.2.2.r hso (by rw [kso]; rfl)) hr10
  have hr11 : q_ir (q_r f dr 0) nds := Eq.trans (hB.2.2.r hdr (by rw [kdr]; rfl)) hr11
  have hr12 : q_ir (q_r f hist 0) ka := Eq.trans (hB.2.2.r hhist (by rw [khist]; rfl)) hr12
  have hr13 : q_ir (q_r f now 0) ndn := Eq.trans (hB.2.2.r hnow (by rw [know]; rfl)) hr13
  have hr14 : q_ir (q_r f sv 0) nsv := Eq.trans (hB.2.2.r hsv (by rw [ksv]; rfl)) hr14
  have hr15 : q_ir (q_r f scr 0) cmds := Eq.trans (hB.2.2.r hscr (by rw [kscr]; rfl)) hr15
  have hr16 : q_ir (q_r f mo 1) bu := Eq.trans (hB.2.2.r hmo (by rw [kmo]; rfl)) hr16
  have hr17 : q_ir (q_r f mo 13) sr := Eq.trans (hB.2.2.r hmo (by rw [kmo]; rfl)) hr17
  have hr18 : q_ir (q_r f mo 14) sd := Eq.trans (hB.2.2.r hmo (by rw [kmo]; rfl)) hr18
  have hr19 : q_ir (q_r f mo 15) as := Eq.trans (hB.2.2.r hmo (by rw [kmo]; rfl)) hr19
  have hr20 : q_ir (q_r f mo 16) aw := Eq.trans (hB.2.2.r hmo (by rw [kmo]; rfl)) hr20
  have hr21 : q_ir (q_r f mo 17) pa := Eq.trans (hB.2.2.r hmo (by rw [kmo]; rfl)) hr21
  have hr22 : q_ir (q_r f mo 18) nm := Eq.trans (hB.2.2.r hmo (by rw [kmo]; rfl)) hr22
  have hr23 : q_ir (q_r f mo 19) snm := Eq.trans (hB.2.2.r hmo (by rw [kmo]; rfl)) hr23
  have hr24 : q_ir (q_r f mo 20) anm := Eq.trans (hB.2.2.r hmo (by rw [kmo]; rfl)) hr24
  have hr25 : q_ir (q_r f mo 24) hp := Eq.trans (hB.2.2.r hmo (by rw [kmo]; rfl)) hr25
  have hr26 : q_ir (q_r f mo 25) dy := Eq.trans (hB.2.2.r hmo (by rw [kmo]; rfl)) hr26
  have hr27 : q_ir (q_r f mo 29) cs := Eq.trans (hB.2.2.r hmo (by rw [kmo]; rfl)) hr27
  have hr28 : q_ir (q_r f mo 30) c1 := Eq.trans (hB.2.2.r hmo (by rw [kmo]; rfl)) hr28
  have hr29 : q_ir (q_r f mo 31) c2 := Eq.trans (hB.2.2.r hmo (by rw [kmo]; rfl)) hr29
  have hr30 : q_ir (q_r f mo 32) c3 := Eq.trans (hB.2.2.r hmo (by rw [kmo]; rfl)) hr30
  have hr31 : q_ir (q_r f mo 33) bg := Eq.trans (hB.2.2.r hmo (by rw [kmo]; rfl)) hr31
  have hr32 : q_ir (q_r f mo 34) lp := Eq.trans (hB.2.2.r hmo (by rw [kmo]; rfl)) hr32
  have hr33 : q_ir (q_r f mo 38) rp := Eq.trans (hB.2.2.r hmo (by rw [kmo]; rfl)) hr33
  have hij : tk_ij K L f nds := tk_ij_tr hij (fun i9 => hB.2.2.r hnds (by rw [knds]; rfl))
  have hcj : tk_c3 K L f cmds := tk_c3_tr hcj (fun i9 => hB.2.2.r hcmds (by rw [kcmds]; rfl))
  obtain ⟨x1, ex1⟩ : ∃ zz, q_is (q_z f sr 3) zz := ⟨_, q_isr _⟩
  obtain ⟨lx1, ux1⟩ : 0 ≤ x1 ∧ x1 ≤ 9999 := q_isb ex1 ⟨(hgr 3 (by decide)).1, ht3⟩
  obtain ⟨x2, ex2⟩ : ∃ zz, q_is (q_z f sr 4) zz := ⟨_, q_isr _⟩
  obtain ⟨lx2, ux2⟩ : 0 ≤ x2 ∧ x2 ≤ 60 := q_isb ex2 ⟨(hgr 4 (by decide)).1, ht4⟩
  refine q_ald_n cx dL_law_220 rfl (lv_at hl 4 rfl) ?_
  refine q_ald_n cx dL_law_221 rfl (lv_at hl 5 rfl) ?_
  refine lv_iload cx.1 cx.2.1 dL_law_222 (lv_at hl 0 rfl) ?_
  refine q_iconst cx dL_law_224 ?_
  refine q_iadd cx dL_law_225 ?_
  refine va_sld cx.1 cx.2.1 hXs hbl hbA hB.1.2.2.2 (q_in (by omega) (by omega) (by omega)) dL_law_226 ?_
  obtain ⟨a3, ra3, ea3⟩ : ∃ z : Int, q_R z ∧ xs (q_i (ii + 1)).toNatClampNeg = q_i z := ⟨_, q_rng _, (q_of _).symm⟩
  rw [ea3]
  refine q_ald_n cx dL_law_227 rfl (lv_at hl 5 rfl) ?_
  refine lv_iload cx.1 cx.2.1 dL_law_228 (lv_at hl 0 rfl) ?_
  refine q_iconst cx dL_law_230 ?_
  refine q_iadd cx dL_law_231 ?_
  refine va_sld cx.1 cx.2.1 hXs hbl hbA hB.1.2.2.2 (q_in (by omega) (by omega) (by omega)) dL_law_232 ?_
  obtain ⟨a4, ra4, ea4⟩ : ∃ z : Int, q_R z ∧ xs (q_i (ii + 2)).toNatClampNeg = q_i z := ⟨_, q_rng _, (q_of _).symm⟩
  rw [ea4]
  refine q_ald_n cx dL_law_233 rfl (lv_at hl 5 rfl) ?_
  refine lv_iload cx.1 cx.2.1 dL_law_234 (lv_at hl 0 rfl) ?_
  refine q_iconst cx dL_law_236 ?_
  refine q_iadd cx dL_law_237 ?_
  refine va_sld cx.1 cx.2.1 hXs hbl hbA hB.1.2.2.2 (q_in (by omega) (by omega) (by omega)) dL_law_238 ?_
  obtain ⟨a5, ra5, ea5⟩ : ∃ z : Int, q_R z ∧ xs (q_i (ii + 3)).toNatClampNeg = q_i z := ⟨_, q_rng _, (q_of _).symm⟩
  rw [ea5]
  refine q_ald_n cx dL_law_239 rfl (lv_at hl 5 rfl) ?_
  refine lv_iload cx.1 cx.2.1 dL_law_240 (lv_at hl 0 rfl) ?_
  refine q_iconst cx dL_law_242 ?_
  refine q_iadd cx dL_law_243 ?_
  refine va_sld cx.1 cx.2.1 hXs hbl hbA hB.1.2.2.2 (q_in (by omega) (by omega) (by omega)) dL_law_244 ?_
  obtain ⟨a6, ra6, ea6⟩ : ∃ z : Int, q_R z ∧ xs (q_i (ii + 4)).toNatClampNeg = q_i z := ⟨_, q_rng _, (q_of _).symm⟩
  rw [ea6]
  refine q_ald_n cx dL_law_245 rfl (lv_at hl 5 rfl) ?_
  refine lv_iload cx.1 cx.2.1 dL_law_246 (lv_at hl 0 rfl) ?_
  refine q_iconst cx dL_law_248 ?_
  refine q_iadd cx dL_law_249 ?_
  refine va_sld cx.1 cx.2.1 hXs hbl hbA hB.1.2.2.2 (q_in (by omega) (by omega) (by omega)) dL_law_250 ?_
  obtain ⟨a7, ra7, ea7⟩ : ∃ z : Int, q_R z ∧ xs (q_i (ii + 5)).toNatClampNeg = q_i z := ⟨_, q_rng _, (q_of _).symm⟩
  rw [ea7]
  refine q_ald_n cx dL_law_251 rfl (lv_at hl 2 rfl) ?_
  by_cases c8 : tn ≤ 580
  · refine q_cWS (As := [.ref x, .int (q_i a3), .int (q_i a4), .int (q_i a5), .int (q_i a6), .int (q_i a7), .ref out]) (rest := []) cx hX hB (fun q h => hLA q h) (fun q h1 h2 => absurd h1 (Nat.not_le_of_lt h2)) hN (f_wfeed l g ad hN hB.2.1 hfl x hx kx a3 (by omega) (by omega) a4 (by omega) (by omega) a5 (by omega) (by omega) a6 (by omega) (by omega) a7 (by omega) (by omega) out hout kout so hso kso rd hrd krd scr hscr kscr fc hfc kfc hist hhist khist rep hrep krep now hnow know dr hdr kdr sv hsv ksv tr htr ktr ba hba kba nds hnds knds tn (by omega) (by omega) hn0 hr0 hr1 hr2 hr3 hr4 hr5 hr6 hr7 hr8 hr9 hr10 hr11) q_cL_118 q_dL_feed ⟨by decide, by show cells + 0 ≤ 601024; omega, by show slots + 0 ≤ 7293034; omega⟩ rfl rfl hl.1 rfl (Nat.le_of_ble_eq_true rfl) dL_law_252 (fun v9 H locs f9 h11 hF hB => ?_)
    obtain ⟨y10, rfl, ry10, h11⟩ := h11
    refine W.eq (g2 := F0 m 255 ls [.int (q_i y10)]) rfl ?_
    obtain ⟨qy10, z12, t13⟩ := h11
    have z14 : q_is (q_z f9 mo 2) tn := Eq.trans (hF.z hmo (by rw [kmo]; rfl)) hn1
    have z15 : q_is (q_z f9 sr 0) xc := Eq.trans (hF.z hsr (by rw [ksr]; rfl)) hsr0
    have z16 : q_is (q_z f9 sr 3) x1 := Eq.trans (hF.z hsr (by rw [ksr]; rfl)) ex1
    have z17 : q_is (q_z f9 sr 4) x2 := Eq.trans (hF.z hsr (by rw [ksr]; rfl)) ex2
    have z18 : q_ir (q_r f9 x 0) so := Eq.trans (hF.r hx (by rw [kx]; rfl)) hr0
    have z19 : q_ir (q_r f9 x 1) rd := Eq.trans (hF.r hx (by rw [kx]; rfl)) hr1
    have z20 : q_ir (q_r f9 x 2) scr := Eq.trans (hF.r hx (by rw [kx]; rfl)) hr2
    have z21 : q_ir (q_r f9 x 3) fc := Eq.trans (hF.r hx (by rw [kx]; rfl)) hr3
    have z22 : q_ir (q_r f9 x 4) hist := Eq.trans (hF.r hx (by rw [kx]; rfl)) hr4
    have z23 : q_ir (q_r f9 x 5) rep := Eq.trans (hF.r hx (by rw [kx]; rfl)) hr5
    have z24 : q_ir (q_r f9 x 6) now := Eq.trans (hF.r hx (by rw [kx]; rfl)) hr6
    have z25 : q_ir (q_r f9 x 7) dr := Eq.trans (hF.r hx (by rw [kx]; rfl)) hr7
    have z26 : q_ir (q_r f9 x 8) sv := Eq.trans (hF.r hx (by rw [kx]; rfl)) hr8
    have z27 : q_ir (q_r f9 fc 0) tr := Eq.trans (hF.r hfc (by rw [kfc]; rfl)) hr9
    have z28 : q_ir (q_r f9 so 0) ba := Eq.trans (hF.r hso (by rw [kso]; rfl)) hr10
    have z29 : q_ir (q_r f9 dr 0) nds := Eq.trans (hF.r hdr (by rw [kdr]; rfl)) hr11
    have z30 : q_ir (q_r f9 hist 0) ka := Eq.trans (hF.r hhist (by rw [khist]; rfl)) hr12
    have z31 : q_ir (q_r f9 now 0) ndn := Eq.trans (hF.r hnow (by rw [know]; rfl)) hr13
    have z32 : q_ir (q_r f9 sv 0) nsv := Eq.trans (hF.r hsv (by rw [ksv]; rfl)) hr14
    have z33 : q_ir (q_r f9 scr 0) cmds := Eq.trans (hF.r hscr (by rw [kscr]; rfl)) hr15
    have z34 : q_ir (q_r f9 mo 1) bu := Eq.trans (hF.r hmo (by rw [kmo]; rfl)) hr16
    have z35 : q_ir (q_r f9 mo 13) sr := Eq.trans (hF.r hmo (by rw [kmo]; rfl)) hr17
    have z36 : q_ir (q_r f9 mo 14) sd := Eq.trans (hF.r hmo (by rw [kmo]; rfl)) hr18
    have z37 : q_ir (q_r f9 mo 15) as := Eq.trans (hF.r hmo (by rw [kmo]; rfl)) hr19
    have z38 : q_ir (q_r f9 mo 16) aw := Eq.trans (hF.r hmo (by rw [kmo]; rfl)) hr20
    have z39 : q_ir (q_r f9 mo 17) pa := Eq.trans (hF.r hmo (by rw [kmo]; rfl)) hr21
    have z40 : q_ir (q_r f9 mo 18) nm := Eq.trans (hF.r hmo (by rw [kmo]; rfl)) hr22
    have z41 : q_ir (q_r f9 mo 19) snm := Eq.trans (hF.r hmo (by rw [kmo]; rfl)) hr23
    have z42 : q_ir (q_r f9 mo 20) anm := Eq.trans (hF.r hmo (by rw [kmo]; rfl)) hr24
    have z43 : q_ir (q_r f9 mo 24) hp := Eq.trans (hF.r hmo (by rw [kmo]; rfl)) hr25
    have z44 : q_ir (q_r f9 mo 25) dy := Eq.trans (hF.r hmo (by rw [kmo]; rfl)) hr26
    have z45 : q_ir (q_r f9 mo 29) cs := Eq.trans (hF.r hmo (by rw [kmo]; rfl)) hr27
    have z46 : q_ir (q_r f9 mo 30) c1 := Eq.trans (hF.r hmo (by rw [kmo]; rfl)) hr28
    have z47 : q_ir (q_r f9 mo 31) c2 := Eq.trans (hF.r hmo (by rw [kmo]; rfl)) hr29
    have z48 : q_ir (q_r f9 mo 32) c3 := Eq.trans (hF.r hmo (by rw [kmo]; rfl)) hr30
    have z49 : q_ir (q_r f9 mo 33) bg := Eq.trans (hF.r hmo (by rw [kmo]; rfl)) hr31
    have z50 : q_ir (q_r f9 mo 34) lp := Eq.trans (hF.r hmo (by rw [kmo]; rfl)) hr32
    have z51 : q_ir (q_r f9 mo 38) rp := Eq.trans (hF.r hmo (by rw [kmo]; rfl)) hr33
    have g52 : q_gr f9 sr := q_gr_fr hgr (fun i9 _ => hF.z hsr (by rw [ksr]; rfl))
    have g53 : q_z f9 x 9 = q_z f9 mo 22 := tk_s2_tr hs22 (hF.z hx (by rw [kx]; rfl)) (hF.z hmo (by rw [kmo]; rfl))
    have g54 : q_pk f9 mo pa := q_pk_tr hpk (hF.z hmo (by rw [kmo]; rfl)) (fun i9 => hF.z hpa (by rw [kpa]; rfl))
    have g55 : q_sv f9 mo sd := q_sv_tr hsd9 (hF.z hmo (by rw [kmo]; rfl)) (fun i9 => hF.z hsd (by rw [ksd]; rfl))
    have g56 : tk_ij K L f9 nds := tk_ij_tr hij (fun i9 => hF.r hnds (by rw [knds]; rfl))
    have g57 : tk_c3 K L f9 cmds := tk_c3_tr hcj (fun i9 => hF.r hcmds (by rw [kcmds]; rfl))
    have g58 : q_z f9 so 2 = q_z f9 mo 10 := tk_e2_tr he2 (hF.z hso (by rw [kso]; rfl)) (hF.z hmo (by rw [kmo]; rfl))
    have g59 : q_z f9 so 3 = q_z f9 mo 11 := tk_e2_tr he3 (hF.z hso (by rw [kso]; rfl)) (hF.z hmo (by rw [kmo]; rfl))
    have g60 : tk_vn K L 5 f9 now ndn nl9 := tk_vn_tr hvn (hF.z hnow (by rw [know]; rfl)) (fun a9 h9 k9 => hF.j h9 (by rw [k9]; rfl)) (fun i9 => hF.r hndn (by rw [kndn]; rfl))
    have g61 : tk_vk K L f9 hist ka now ndn := tk_vk_tr hvk (hF.z hhist (by rw [khist]; rfl)) (hF.z hhist (by rw [khist]; rfl)) (hF.z hnow (by rw [know]; rfl)) (fun a9 h9 k9 => hF.j h9 (by rw [k9]; rfl)) (fun i9 => hF.r hndn (by rw [kndn]; rfl)) (fun a9 h9 k9 => hF.z h9 (by rw [k9]; rfl)) (fun a9 h9 k9 => hF.j h9 (by rw [k9]; rfl)) (fun i9 => hF.r hka (by rw [kka]; rfl)) (fun a9 h9 k9 => hF.r h9 (by rw [k9]; rfl)) (fun a9 h9 k9 i9 => hF.r h9 (by rw [k9]; rfl))
    have g62 : tk_vs K L f9 x sv nsv ls9 := tk_vs_tr hvs (hF.z hx (by rw [kx]; rfl)) (hF.z hsv (by rw [ksv]; rfl)) (fun a9 h9 k9 => hF.j h9 (by rw [k9]; rfl)) (fun i9 => hF.r hnsv (by rw [knsv]; rfl))
    have g63 : tk_nq f9 nm nl9 := tk_nq_tr hrn9 (fun i9 => hF.j hnm (by rw [knm]; rfl))
    have g64 : tk_rs f9 mo sd snm ls9 := tk_rs_tr hrs9 (hF.z hmo (by rw [kmo]; rfl)) (fun i9 h9 k9 => hF.z hsd (by rw [ksd]; exact q_inWr rfl h9 k9)) (fun i9 => hF.j hsnm (by rw [ksnm]; rfl))
    have g65 : q_pc f9 mo pa xc := q_pc_tr hpc (hF.z hmo (by rw [kmo]; rfl)) (fun i9 => hF.z hpa (by rw [kpa]; rfl))
    subst qy10
    have hbb1 : tk_bb f9 bu ba tn := tk_bb_c hbb t13 (fun i9 => hF.z hbu (by rw [kbu]; rfl))
    have hb91 : tk_b9 f9 ba tn (tk_g20 a3 a4 a5 a6 a7) := t13.2
    refine lv_istore (lv' := [(6, .int (q_i 0)), (5, .int (q_i ii)), (4, .ref outD), (3, .ref out), (2, .ref mo), (1, .ref x), (0, .ref b)]) cx.1 cx.2.1 dL_law_255 hl (by decide) rfl (fun ls hl => ?_)
    refine q_ald_n cx dL_law_257 rfl (lv_at hl 4 rfl) ?_
    refine q_ald_n cx dL_law_258 rfl (lv_at hl 6 rfl) ?_
    refine lv_iload cx.1 cx.2.1 dL_law_259 (lv_at hl 1 rfl) ?_
    refine q_iconst cx dL_law_261 ?_
    refine q_iadd cx dL_law_262 ?_
    refine va_sld cx.1 cx.2.1 hXs hbl hbA hB.1.2.2.2 (q_in (by omega) (by omega) (by omega)) dL_law_263 ?_
    rw [ea3]
    refine q_ald_n cx dL_law_264 rfl (lv_at hl 6 rfl) ?_
    refine lv_iload cx.1 cx.2.1 dL_law_265 (lv_at hl 1 rfl) ?_
    refine q_iconst cx dL_law_267 ?_
    refine q_iadd cx dL_law_268 ?_
    refine va_sld cx.1 cx.2.1 hXs hbl hbA hB.1.2.2.2 (q_in (by omega) (by omega) (by omega)) dL_law_269 ?_
    rw [ea4]
    refine q_ald_n cx dL_law_270 rfl (lv_at hl 6 rfl) ?_
    refine lv_iload cx.1 cx.2.1 dL_law_271 (lv_at hl 1 rfl) ?_
    refine q_iconst cx dL_law_273 ?_
    refine q_iadd cx dL_law_274 ?_
    refine va_sld cx.1 cx.2.1 hXs hbl hbA hB.1.2.2.2 (q_in (by omega) (by omega) (by omega)) dL_law_275 ?_
    rw [ea5]
    refine q_ald_n cx dL_law_276 rfl (lv_at hl 6 rfl) ?_
    refine lv_iload cx.1 cx.2.1 dL_law_277 (lv_at hl 1 rfl) ?_
    refine q_iconst cx dL_law_279 ?_
    refine q_iadd cx dL_law_280 ?_
    refine va_sld cx.1 cx.2.1 hXs hbl hbA hB.1.2.2.2 (q_in (by omega) (by omega) (by omega)) dL_law_281 ?_
    rw [ea6]
    refine q_ald_n cx dL_law_282 rfl (lv_at hl 6 rfl) ?_
    refine lv_iload cx.1 cx.2.1 dL_law_283 (lv_at hl 1 rfl) ?_
    refine q_iconst cx dL_law_285 ?_
    refine q_iadd cx dL_law_286 ?_
    refine va_sld cx.1 cx.2.1 hXs hbl hbA hB.1.2.2.2 (q_in (by omega) (by omega) (by omega)) dL_law_287 ?_
    rw [ea7]
    refine q_cVi (As := [.int (q_i a3), .int (q_i a4), .int (q_i a5), .int (q_i a6), .int (q_i a7)]) (rest := []) cx hB (fun q h => hLA q h) hN hmo kmo (by decide) rfl (f_mfeed l g hN hB.2.1 mo hmo kmo a3 (by omega) (by omega) a4 (by omega) (by omega) a5 (by omega) (by omega) a6 (by omega) (by omega) a7 (by omega) (by omega) bu hbu kbu tn (by omega) (by omega) z14 z34) q_cL_123 q_dX12_feed ⟨by decide, by show cells + 0 ≤ 601024; omega, by show slots + 0 ≤ 7293034; omega⟩ rfl rfl hl.1 rfl (Nat.le_of_ble_eq_true rfl) dL_law_288 (fun y67 H locs f66 ry67 h68 hF hB => ?_)
    obtain ⟨qy67, z69, z70, t71⟩ := h68
    have z72 : q_is (q_z f66 sr 0) xc := Eq.trans (hF.z hsr (by rw [ksr]; rfl)) z15
    have z73 : q_is (q_z f66 sr 3) x1 := Eq.trans (hF.z hsr (by rw [ksr]; rfl)) z16
    have z74 : q_is (q_z f66 sr 4) x2 := Eq.trans (hF.z hsr (by rw [ksr]; rfl)) z17
    have z75 : q_is (q_z f66 so 1) (tn + 20) := Eq.trans (hF.z hso (by rw [kso]; rfl)) z12
    have z76 : q_ir (q_r f66 x 0) so := Eq.trans (hF.r hx (by rw [kx]; rfl)) z18
    have z77 : q_ir (q_r f66 x 1) rd := Eq.trans (hF.r hx (by rw [kx]; rfl)) z19
    have z78 : q_ir (q_r f66 x 2) scr := Eq.trans (hF.r hx (by rw [kx]; rfl)) z20
    have z79 : q_ir (q_r f66 x 3) fc := Eq.trans (hF.r hx (by rw [kx]; rfl)) z21
    have z80 : q_ir (q_r f66 x 4) hist := Eq.trans (hF.r hx (by rw [kx]; rfl)) z22
    have z81 : q_ir (q_r f66 x 5) rep := Eq.trans (hF.r hx (by rw [kx]; rfl)) z23
    have z82 : q_ir (q_r f66 x 6) now := Eq.trans (hF.r hx (by rw [kx]; rfl)) z24
    have z83 : q_ir (q_r f66 x 7) dr := Eq.trans (hF.r hx (by rw [kx]; rfl)) z25
    have z84 : q_ir (q_r f66 x 8) sv := Eq.trans (hF.r hx (by rw [kx]; rfl)) z26
    have z85 : q_ir (q_r f66 fc 0) tr := Eq.trans (hF.r hfc (by rw [kfc]; rfl)) z27
    have z86 : q_ir (q_r f66 so 0) ba := Eq.trans (hF.r hso (by rw [kso]; rfl)) z28
    have z87 : q_ir (q_r f66 dr 0) nds := Eq.trans (hF.r hdr (by rw [kdr]; rfl)) z29
    have z88 : q_ir (q_r f66 hist 0) ka := Eq.trans (hF.r hhist (by rw [khist]; rfl)) z30
    have z89 : q_ir (q_r f66 now 0) ndn := Eq.trans (hF.r hnow (by rw [know]; rfl)) z31
    have z90 : q_ir (q_r f66 sv 0) nsv := Eq.trans (hF.r hsv (by rw [ksv]; rfl)) z32
    have z91 : q_ir (q_r f66 scr 0) cmds := Eq.trans (hF.r hscr (by rw [kscr]; rfl)) z33
    have z92 : q_ir (q_r f66 mo 1) bu := Eq.trans (hF.r hmo (by rw [kmo]; rfl)) z34
    have z93 : q_ir (q_r f66 mo 13) sr := Eq.trans (hF.r hmo (by rw [kmo]; rfl)) z35
    have z94 : q_ir (q_r f66 mo 14) sd := Eq.trans (hF.r hmo (by rw [kmo]; rfl)) z36
    have z95 : q_ir (q_r f66 mo 15) as := Eq.trans (hF.r hmo (by rw [kmo]; rfl)) z37
    have z96 : q_ir (q_r f66 mo 16) aw := Eq.trans (hF.r hmo (by rw [kmo]; rfl)) z38
    have z97 : q_ir (q_r f66 mo 17) pa := Eq.trans (hF.r hmo (by rw [kmo]; rfl)) z39
    have z98 : q_ir (q_r f66 mo 18) nm := Eq.trans (hF.r hmo (by rw [kmo]; rfl)) z40
    have z99 : q_ir (q_r f66 mo 19) snm := Eq.trans (hF.r hmo (by rw [kmo]; rfl)) z41
    have z100 : q_ir (q_r f66 mo 20) anm := Eq.trans (hF.r hmo (by rw [kmo]; rfl)) z42
    have z101 : q_ir (q_r f66 mo 24) hp := Eq.trans (hF.r hmo (by rw [kmo]; rfl)) z43
    have z102 : q_ir (q_r f66 mo 25) dy := Eq.trans (hF.r hmo (by rw [kmo]; rfl)) z44
    have z103 : q_ir (q_r f66 mo 29) cs := Eq.trans (hF.r hmo (by rw [kmo]; rfl)) z45
    have z104 : q_ir (q_r f66 mo 30) c1 := Eq.trans (hF.r hmo (by rw [kmo]; rfl)) z46
    have z105 : q_ir (q_r f66 mo 31) c2 := Eq.trans (hF.r hmo (by rw [kmo]; rfl)) z47
    have z106 : q_ir (q_r f66 mo 32) c3 := Eq.trans (hF.r hmo (by rw [kmo]; rfl)) z48
    have z107 : q_ir (q_r f66 mo 33) bg := Eq.trans (hF.r hmo (by rw [kmo]; rfl)) z49
    have z108 : q_ir (q_r f66 mo 34) lp := Eq.trans (hF.r hmo (by rw [kmo]; rfl)) z50
    have z109 : q_ir (q_r f66 mo 38) rp := Eq.trans (hF.r hmo (by rw [kmo]; rfl)) z51
    have g110 : q_gr f66 sr := q_gr_fr g52 (fun i9 _ => hF.z hsr (by rw [ksr]; rfl))
    have g111 : q_z f66 x 9 = q_z f66 mo 22 := tk_s2_tr g53 (hF.z hx (by rw [kx]; rfl)) (hF.z hmo (by rw [kmo]; rfl))
    have g112 : q_pk f66 mo pa := q_pk_tr g54 (hF.z hmo (by rw [kmo]; rfl)) (fun i9 => hF.z hpa (by rw [kpa]; rfl))
    have g113 : q_sv f66 mo sd := q_sv_tr g55 (hF.z hmo (by rw [kmo]; rfl)) (fun i9 => hF.z hsd (by rw [ksd]; rfl))
    have g114 : tk_ij K L f66 nds := tk_ij_tr g56 (fun i9 => hF.r hnds (by rw [knds]; rfl))
    have g115 : tk_c3 K L f66 cmds := tk_c3_tr g57 (fun i9 => hF.r hcmds (by rw [kcmds]; rfl))
    have g116 : q_z f66 so 2 = q_z f66 mo 10 := tk_e2_tr g58 (hF.z hso (by rw [kso]; rfl)) (hF.z hmo (by rw [kmo]; rfl))
    have g117 : q_z f66 so 3 = q_z f66 mo 11 := tk_e2_tr g59 (hF.z hso (by rw [kso]; rfl)) (hF.z hmo (by rw [kmo]; rfl))
    have g118 : tk_vn K L 5 f66 now ndn nl9 := tk_vn_tr g60 (hF.z hnow (by rw [know]; rfl)) (fun a9 h9 k9 => hF.j h9 (by rw [k9]; rfl)) (fun i9 => hF.r hndn (by rw [kndn]; rfl))
    have g119 : tk_vk K L f66 hist ka now ndn := tk_vk_tr g61 (hF.z hhist (by rw [khist]; rfl)) (hF.z hhist (by rw [khist]; rfl)) (hF.z hnow (by rw [know]; rfl)) (fun a9 h9 k9 => hF.j h9 (by rw [k9]; rfl)) (fun i9 => hF.r hndn (by rw [kndn]; rfl)) (fun a9 h9 k9 => hF.z h9 (by rw [k9]; rfl)) (fun a9 h9 k9 => hF.j h9 (by rw [k9]; rfl)) (fun i9 => hF.r hka (by rw [kka]; rfl)) (fun a9 h9 k9 => hF.r h9 (by rw [k9]; rfl)) (fun a9 h9 k9 i9 => hF.r h9 (by rw [k9]; rfl))
    have g120 : tk_vs K L f66 x sv nsv ls9 := tk_vs_tr g62 (hF.z hx (by rw [kx]; rfl)) (hF.z hsv (by rw [ksv]; rfl)) (fun a9 h9 k9 => hF.j h9 (by rw [k9]; rfl)) (fun i9 => hF.r hnsv (by rw [knsv]; rfl))
    have g121 : tk_nq f66 nm nl9 := tk_nq_tr g63 (fun i9 => hF.j hnm (by rw [knm]; rfl))
    have g122 : tk_rs f66 mo sd snm ls9 := tk_rs_tr g64 (hF.z hmo (by rw [kmo]; rfl)) (fun i9 h9 k9 => hF.z hsd (by rw [ksd]; exact q_inWr rfl h9 k9)) (fun i9 => hF.j hsnm (by rw [ksnm]; rfl))
    have g123 : q_pc f66 mo pa xc := q_pc_tr g65 (hF.z hmo (by rw [kmo]; rfl)) (fun i9 => hF.z hpa (by rw [kpa]; rfl))
    have g124 : tk_b9 f66 ba tn (tk_g20 a3 a4 a5 a6 a7) := tk_b9_tr hb91 (fun i9 => hF.z hba (by rw [kba]; rfl))
    have hbb2 : tk_bb f66 bu ba (tn + 20) := tk_bb_m hbb1 (by omega) hb91 t71 (fun i9 => hF.z hba (by rw [kba]; rfl))
    refine lv_istore (lv' := [(7, .int (q_i y67)), (6, .int (q_i 0)), (5, .int (q_i ii)), (4, .ref outD), (3, .ref out), (2, .ref mo), (1, .ref x), (0, .ref b)]) cx.1 cx.2.1 dL_law_291 hl (by decide) rfl (fun ls hl => ?_)
    refine lv_goto (tgt := 1493) cx.1 cx.2.1 dL_law_293 (by decide) ?_
    refine W.widen (k := cells + 6) (n := slots + 36) (by omega) (by omega) ?_
    exact kk f66 H locs ls (tn + 20) nl9 ls9 xc hB ⟨⟨z75, (Eq.trans z69 (by omega)), by omega, by omega⟩, g110, g112, g113, q_isu z73 (by omega), q_isu z74 (by omega), tk_bb_le hbb2 (by omega), z72, by omega, g118, g119, g120, g121, g122, g123, g111, g116, g117⟩ (lv_sub hl [2, 3, 4, 5, 6, 7] rfl)
  · refine q_cWS (As := [.ref x, .int (q_i a3), .int (q_i a4), .int (q_i a5), .int (q_i a6), .int (q_i a7), .ref out]) (rest := []) cx hX hB (fun q h => hLA q h) (fun q h1 h2 => absurd h1 (Nat.not_le_of_lt h2)) hN (w_feed_b l g ad hN hB.2.1 hfl x hx kx a3 (by omega) (by omega) a4 (by omega) (by omega) a5 (by omega) (by omega) a6 (by omega) (by omega) a7 (by omega) (by omega) out hout kout so hso kso rd hrd krd scr hscr kscr fc hfc kfc hist hhist khist rep hrep krep now hnow know dr hdr kdr sv hsv ksv tr htr ktr tn (by omega) (by omega) hn0 hr0 hr1 hr2 hr3 hr4 hr5 hr6 hr7 hr8 hr9) q_cL_118 q_dL_feed ⟨by decide, by show cells + 1 ≤ 601024; omega, by show slots + 6 ≤ 7293034; omega⟩ rfl rfl hl.1 rfl (Nat.le_of_ble_eq_true rfl) dL_law_252 (fun v9 H locs f125 h127 hF hB => ?_)
    obtain ⟨y126, rfl, ry126, h127⟩ := h127
    refine W.eq (g2 := F0 m 255 ls [.int (q_i y126)]) rfl ?_
    obtain ⟨rfl, qy126⟩ := h127
    subst qy126
    refine lv_istore (lv' := [(6, .int (q_i 1)), (5, .int (q_i ii)), (4, .ref outD), (3, .ref out), (2, .ref mo), (1, .ref x), (0, .ref b)]) cx.1 cx.2.1 dL_law_255 hl (by decide) rfl (fun ls hl => ?_)
    refine q_ald_n cx dL_law_257 rfl (lv_at hl 4 rfl) ?_
    refine q_ald_n cx dL_law_258 rfl (lv_at hl 6 rfl) ?_
    refine lv_iload cx.1 cx.2.1 dL_law_259 (lv_at hl 1 rfl) ?_
    refine q_iconst cx dL_law_261 ?_
    refine q_iadd cx dL_law_262 ?_
    refine va_sld cx.1 cx.2.1 hXs hbl hbA hB.1.2.2.2 (q_in (by omega) (by omega) (by omega)) dL_law_263 ?_
    rw [ea3]
    refine q_ald_n cx dL_law_264 rfl (lv_at hl 6 rfl) ?_
    refine lv_iload cx.1 cx.2.1 dL_law_265 (lv_at hl 1 rfl) ?_
    refine q_iconst cx dL_law_267 ?_
    refine q_iadd cx dL_law_268 ?_
    refine va_sld cx.1 cx.2.1 hXs hbl hbA hB.1.2.2.2 (q_in (by omega) (by omega) (by omega)) dL_law_269 ?_
    rw [ea4]
    refine q_ald_n cx dL_law_270 rfl (lv_at hl 6 rfl) ?_
    refine lv_iload cx.1 cx.2.1 dL_law_271 (lv_at hl 1 rfl) ?_
    refine q_iconst cx dL_law_273 ?_
    refine q_iadd cx dL_law_274 ?_
    refine va_sld cx.1 cx.2.1 hXs hbl hbA hB.1.2.2.2 (q_in (by omega) (by omega) (by omega)) dL_law_275 ?_
    rw [ea5]
    refine q_ald_n cx dL_law_276 rfl (lv_at hl 6 rfl) ?_
    refine lv_iload cx.1 cx.2.1 dL_law_277 (lv_at hl 1 rfl) ?_
    refine q_iconst cx dL_law_279 ?_
    refine q_iadd cx dL_law_280 ?_
    refine va_sld cx.1 cx.2.1 hXs hbl hbA hB.1.2.2.2 (q_in (by omega) (by omega) (by omega)) dL_law_281 ?_
    rw [ea6]
    refine q_ald_n cx dL_law_282 rfl (lv_at hl 6 rfl) ?_
    refine lv_iload cx.1 cx.2.1 dL_law_283 (lv_at hl 1 rfl) ?_
    refine q_iconst cx dL_law_285 ?_
    refine q_iadd cx dL_law_286 ?_
    refine va_sld cx.1 cx.2.1 hXs hbl hbA hB.1.2.2.2 (q_in (by omega) (by omega) (by omega)) dL_law_287 ?_
    rw [ea7]
    refine q_cVi (As := [.int (q_i a3), .int (q_i a4), .int (q_i a5), .int (q_i a6), .int (q_i a7)]) (rest := []) cx hB (fun q h => hLA q h) hN hmo kmo (by decide) rfl (r_feed_b l g hN hB.2.1 mo hmo kmo a3 (by omega) (by omega) a4 (by omega) (by omega) a5 (by omega) (by omega) a6 (by omega) (by omega) a7 (by omega) (by omega) bu hbu kbu tn (by omega) (by omega) hn1 hr16) q_cL_123 q_dX12_feed ⟨by decide, by show cells + 1 ≤ 601024; omega, by show slots + 6 ≤ 7293034; omega⟩ rfl rfl hl.1 rfl (Nat.le_of_ble_eq_true rfl) dL_law_288 (fun y129 H locs f128 ry129 h130 hF hB => ?_)
    obtain ⟨qy129, z131, z132⟩ := h130
    have z133 : q_is (q_z f128 so 1) tn := Eq.trans (hF.z hso (by rw [kso]; rfl)) hn0
    have z134 : q_is (q_z f128 mo 2) tn := Eq.trans (hF.z hmo (by rw [kmo]; rfl)) hn1
    have z135 : q_is (q_z f128 sr 0) xc := Eq.trans (hF.z hsr (by rw [ksr]; rfl)) hsr0
    have z136 : q_is (q_z f128 sr 3) x1 := Eq.trans (hF.z hsr (by rw [ksr]; rfl)) ex1
    have z137 : q_is (q_z f128 sr 4) x2 := Eq.trans (hF.z hsr (by rw [ksr]; rfl)) ex2
    have z138 : q_ir (q_r f128 x 0) so := Eq.trans (hF.r hx (by rw [kx]; rfl)) hr0
    have z139 : q_ir (q_r f128 x 1) rd := Eq.trans (hF.r hx (by rw [kx]; rfl)) hr1
    have z140 : q_ir (q_r f128 x 2) scr := Eq.trans (hF.r hx (by rw [kx]; rfl)) hr2
    have z141 : q_ir (q_r f128 x 3) fc := Eq.trans (hF.r hx (by rw [kx]; rfl)) hr3
    have z142 : q_ir (q_r f128 x 4) hist := Eq.trans (hF.r hx (by rw [kx]; rfl)) hr4
    have z143 : q_ir (q_r f128 x 5) rep := Eq.trans (hF.r hx (by rw [kx]; rfl)) hr5
    have z144 : q_ir (q_r f128 x 6) now := Eq.trans (hF.r hx (by rw [kx]; rfl)) hr6
    have z145 : q_ir (q_r f128 x 7) dr := Eq.trans (hF.r hx (by rw [kx]; rfl)) hr7
    have z146 : q_ir (q_r f128 x 8) sv := Eq.trans (hF.r hx (by rw [kx]; rfl)) hr8
    have z147 : q_ir (q_r f128 fc 0) tr := Eq.trans (hF.r hfc (by rw [kfc]; rfl)) hr9
    have z148 : q_ir (q_r f128 so 0) ba := Eq.trans (hF.r hso (by rw [kso]; rfl)) hr10
    have z149 : q_ir (q_r f128 dr 0) nds := Eq.trans (hF.r hdr (by rw [kdr]; rfl)) hr11
    have z150 : q_ir (q_r f128 hist 0) ka := Eq.trans (hF.r hhist (by rw [khist]; rfl)) hr12
    have z151 : q_ir (q_r f128 now 0) ndn := Eq.trans (hF.r hnow (by rw [know]; rfl)) hr13
    have z152 : q_ir (q_r f128 sv 0) nsv := Eq.trans (hF.r hsv (by rw [ksv]; rfl)) hr14
    have z153 : q_ir (q_r f128 scr 0) cmds := Eq.trans (hF.r hscr (by rw [kscr]; rfl)) hr15
    have z154 : q_ir (q_r f128 mo 1) bu := Eq.trans (hF.r hmo (by rw [kmo]; rfl)) hr16
    have z155 : q_ir (q_r f128 mo 13) sr := Eq.trans (hF.r hmo (by rw [kmo]; rfl)) hr17
    have z156 : q_ir (q_r f128 mo 14) sd := Eq.trans (hF.r hmo (by rw [kmo]; rfl)) hr18
    have z157 : q_ir (q_r f128 mo 15) as := Eq.trans (hF.r hmo (by rw [kmo]; rfl)) hr19
    have z158 : q_ir (q_r f128 mo 16) aw := Eq.trans (hF.r hmo (by rw [kmo]; rfl)) hr20
    have z159 : q_ir (q_r f128 mo 17) pa := Eq.trans (hF.r hmo (by rw [kmo]; rfl)) hr21
    have z160 : q_ir (q_r f128 mo 18) nm := Eq.trans (hF.r hmo (by rw [kmo]; rfl)) hr22
    have z161 : q_ir (q_r f128 mo 19) snm := Eq.trans (hF.r hmo (by rw [kmo]; rfl)) hr23
    have z162 : q_ir (q_r f128 mo 20) anm := Eq.trans (hF.r hmo (by rw [kmo]; rfl)) hr24
    have z163 : q_ir (q_r f128 mo 24) hp := Eq.trans (hF.r hmo (by rw [kmo]; rfl)) hr25
    have z164 : q_ir (q_r f128 mo 25) dy := Eq.trans (hF.r hmo (by rw [kmo]; rfl)) hr26
    have z165 : q_ir (q_r f128 mo 29) cs := Eq.trans (hF.r hmo (by rw [kmo]; rfl)) hr27
    have z166 : q_ir (q_r f128 mo 30) c1 := Eq.trans (hF.r hmo (by rw [kmo]; rfl)) hr28
    have z167 : q_ir (q_r f128 mo 31) c2 := Eq.trans (hF.r hmo (by rw [kmo]; rfl)) hr29
    have z168 : q_ir (q_r f128 mo 32) c3 := Eq.trans (hF.r hmo (by rw [kmo]; rfl)) hr30
    have z169 : q_ir (q_r f128 mo 33) bg := Eq.trans (hF.r hmo (by rw [kmo]; rfl)) hr31
    have z170 : q_ir (q_r f128 mo 34) lp := Eq.trans (hF.r hmo (by rw [kmo]; rfl)) hr32
    have z171 : q_ir (q_r f128 mo 38) rp := Eq.trans (hF.r hmo (by rw [kmo]; rfl)) hr33
    have g172 : q_gr f128 sr := q_gr_fr hgr (fun i9 _ => hF.z hsr (by rw [ksr]; rfl))
    have g173 : q_z f128 x 9 = q_z f128 mo 22 := tk_s2_tr hs22 (hF.z hx (by rw [kx]; rfl)) (hF.z hmo (by rw [kmo]; rfl))
    have g174 : q_pk f128 mo pa := q_pk_tr hpk (hF.z hmo (by rw [kmo]; rfl)) (fun i9 => hF.z hpa (by rw [kpa]; rfl))
    have g175 : q_sv f128 mo sd := q_sv_tr hsd9 (hF.z hmo (by rw [kmo]; rfl)) (fun i9 => hF.z hsd (by rw [ksd]; rfl))
    have g176 : tk_bb f128 bu ba tn := tk_bb_tr hbb (fun i9 => hF.z hbu (by rw [kbu]; rfl)) (fun i9 => hF.z hba (by rw [kba]; rfl))
    have g177 : tk_ij K L f128 nds := tk_ij_tr hij (fun i9 => hF.r hnds (by rw [knds]; rfl))
    have g178 : tk_c3 K L f128 cmds := tk_c3_tr hcj (fun i9 => hF.r hcmds (by rw [kcmds]; rfl))
    have g179 : q_z f128 so 2 = q_z f128 mo 10 := tk_e2_tr he2 (hF.z hso (by rw [kso]; rfl)) (hF.z hmo (by rw [kmo]; rfl))
    have g180 : q_z f128 so 3 = q_z f128 mo 11 := tk_e2_tr he3 (hF.z hso (by rw [kso]; rfl)) (hF.z hmo (by rw [kmo]; rfl))
    have g181 : tk_vn K L 5 f128 now ndn nl9 := tk_vn_tr hvn (hF.z hnow (by rw [know]; rfl)) (fun a9 h9 k9 => hF.j h9 (by rw [k9]; rfl)) (fun i9 => hF.r hndn (by rw [kndn]; rfl))
    have g182 : tk_vk K L f128 hist ka now ndn := tk_vk_tr hvk (hF.z hhist (by rw [khist]; rfl)) (hF.z hhist (by rw [khist]; rfl)) (hF.z hnow (by rw [know]; rfl)) (fun a9 h9 k9 => hF.j h9 (by rw [k9]; rfl)) (fun i9 => hF.r hndn (by rw [kndn]; rfl)) (fun a9 h9 k9 => hF.z h9 (by rw [k9]; rfl)) (fun a9 h9 k9 => hF.j h9 (by rw [k9]; rfl)) (fun i9 => hF.r hka (by rw [kka]; rfl)) (fun a9 h9 k9 => hF.r h9 (by rw [k9]; rfl)) (fun a9 h9 k9 i9 => hF.r h9 (by rw [k9]; rfl))
    have g183 : tk_vs K L f128 x sv nsv ls9 := tk_vs_tr hvs (hF.z hx (by rw [kx]; rfl)) (hF.z hsv (by rw [ksv]; rfl)) (fun a9 h9 k9 => hF.j h9 (by rw [k9]; rfl)) (fun i9 => hF.r hnsv (by rw [knsv]; rfl))
    have g184 : tk_nq f128 nm nl9 := tk_nq_tr hrn9 (fun i9 => hF.j hnm (by rw [knm]; rfl))
    have g185 : tk_rs f128 mo sd snm ls9 := tk_rs_tr hrs9 (hF.z hmo (by rw [kmo]; rfl)) (fun i9 h9 k9 => hF.z hsd (by rw [ksd]; exact q_inWr rfl h9 k9)) (fun i9 => hF.j hsnm (by rw [ksnm]; rfl))
    have g186 : q_pc f128 mo pa xc := q_pc_tr hpc (hF.z hmo (by rw [kmo]; rfl)) (fun i9 => hF.z hpa (by rw [kpa]; rfl))
    subst qy129
    refine lv_istore (lv' := [(7, .int (q_i 0)), (6, .int (q_i 1)), (5, .int (q_i ii)), (4, .ref outD), (3, .ref out), (2, .ref mo), (1, .ref x), (0, .ref b)]) cx.1 cx.2.1 dL_law_291 hl (by decide) rfl (fun ls hl => ?_)
    refine lv_goto (tgt := 1493) cx.1 cx.2.1 dL_law_293 (by decide) ?_
    refine W.widen (k := cells + 6) (n := slots + 36) (by omega) (by omega) ?_
    exact kk f128 H locs ls tn nl9 ls9 xc hB ⟨⟨z133, (Eq.trans z131 (by omega)), by omega, by omega⟩, g172, g174, g175, q_isu z136 (by omega), q_isu z137 (by omega), tk_bb_le g176 (by omega), z135, by omega, g181, g182, g183, g184, g185, g186, g173, g179, g180⟩ (lv_sub hl [2, 3, 4, 5, 6, 7] rfl)
