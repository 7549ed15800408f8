set_option maxHeartbeats 4000000 in
set_option maxRecDepth 100000 in
theorem law_c1234 {p : Program} {l : Launch} {e : Env} {s : State} {m : MethodId} {below : List Frame} {meth : Method} {c : Code} {b N9 : Nat} {xs : Nat → Int32} (hfl : l.stackTraces = false) (hN9 : N9 ≤ 3072) (C0 : lw_At p s m meth c b N9 xs) (cx : CallFix p m c cL_law 10 s #[Value.ref b] q_al RL) {g : q_G} {ad : Nat → Nat} {K : Nat → Nat} {L : List Nat} (hN : L.Nodup) (hLA : ∀ q, q ∈ L → s.heap.size ≤ q) (hX : q_X ad (fun q => q ∈ L) s) {f0 : Nat → va_E} {x : Nat} (hx : x ∈ L) (kx : K x = 11) {so : Nat} (hso : so ∈ L) (kso : K so = 8) {rd : Nat} (hrd : rd ∈ L) (krd : K rd = 9) {scr : Nat} (hscr : scr ∈ L) (kscr : K scr = 7) {fc : Nat} (hfc : fc ∈ L) (kfc : K fc = 1) {hist : Nat} (hhist : hist ∈ L) (khist : K hist = 2) {rep : Nat} (hrep : rep ∈ L) (krep : K rep = 6) {now : Nat} (hnow : now ∈ L) (know : K now = 10) {dr : Nat} (hdr : dr ∈ L) (kdr : K dr = 13) {sv : Nat} (hsv : sv ∈ L) (ksv : K sv = 14) {tr : Nat} (htr : tr ∈ L) (ktr : K tr = 15) {ba : Nat} (hba : ba ∈ L) (kba : K ba = 142) {nds : Nat} (hnds : nds ∈ L) (knds : K nds = 111) {ka : Nat} (hka : ka ∈ L) (kka : K ka = 140) {ndn : Nat} (hndn : ndn ∈ L) (kndn : K ndn = 110) {nsv : Nat} (hnsv : nsv ∈ L) (knsv : K nsv = 112) {cmds : Nat} (hcmds : cmds ∈ L) (kcmds : K cmds = 141) {mo : Nat} (hmo : mo ∈ L) (kmo : K mo = 12) {bu : Nat} (hbu : bu ∈ L) (kbu : K bu = 150) {sr : Nat} (hsr : sr ∈ L) (ksr : K sr = 151) {sd : Nat} (hsd : sd ∈ L) (ksd : K sd = 152) {as : Nat} (has : as ∈ L) (kas : K as = 153) {aw : Nat} (haw : aw ∈ L) (kaw : K aw = 154) {pa : Nat} (hpa : pa ∈ L) (kpa : K pa = 155) {nm : Nat} (hnm : nm ∈ L) (knm : K nm = 156) {snm : Nat} (hsnm : snm ∈ L) (ksnm : K snm = 157) {anm : Nat} (hanm : anm ∈ L) (kanm : K anm = 158) {hp : Nat} (hhp : hp ∈ L) (khp : K hp = 159) {dy : Nat} (hdy : dy ∈ L) (kdy : K dy = 160) {cs : Nat} (hcs : cs ∈ L) (kcs : K cs = 161) {c1 : Nat} (hc1 : c1 ∈ L) (kc1 : K c1 = 162) {c2 : Nat} (hc2 : c2 ∈ L) (kc2 : K c2 = 163) {c3 : Nat} (hc3 : c3 ∈ L) (kc3 : K c3 = 164) {bg : Nat} (hbg : bg ∈ L) (kbg : K bg = 165) {lp : Nat} (hlp : lp ∈ L) (klp : K lp = 166) {rp : Nat} (hrp : rp ∈ L) (krp : K rp = 167) {out : Nat} (hout : out ∈ L) (kout : K out = 168) {outD : Nat} (houtD : outD ∈ L) (koutD : K outD = 169) (hr0 : q_ir (q_r f0 x 0) so) (hr1 : q_ir (q_r f0 x 1) rd) (hr2 : q_ir (q_r f0 x 2) scr) (hr3 : q_ir (q_r f0 x 3) fc) (hr4 : q_ir (q_r f0 x 4) hist) (hr5 : q_ir (q_r f0 x 5) rep) (hr6 : q_ir (q_r f0 x 6) now) (hr7 : q_ir (q_r f0 x 7) dr) (hr8 : q_ir (q_r f0 x 8) sv) (hr9 : q_ir (q_r f0 fc 0) tr) (hr10 : q_ir (q_r f0 so 0) ba) (hr11 : q_ir (q_r f0 dr 0) nds) (hr12 : q_ir (q_r f0 hist 0) ka) (hr13 : q_ir (q_r f0 now 0) ndn) (hr14 : q_ir (q_r f0 sv 0) nsv) (hr15 : q_ir (q_r f0 scr 0) cmds) (hr16 : q_ir (q_r f0 mo 1) bu) (hr17 : q_ir (q_r f0 mo 13) sr) (hr18 : q_ir (q_r f0 mo 14) sd) (hr19 : q_ir (q_r f0 mo 15) as) (hr20 : q_ir (q_r f0 mo 16) aw) (hr21 : q_ir (q_r f0 mo 17) pa) (hr22 : q_ir (q_r f0 mo 18) nm) (hr23 : q_ir (q_r f0 mo 19) snm) (hr24 : q_ir (q_r f0 mo 20) anm) (hr25 : q_ir (q_r f0 mo 24) hp) (hr26 : q_ir (q_r f0 mo 25) dy) (hr27 : q_ir (q_r f0 mo 29) cs) (hr28 : q_ir (q_r f0 mo 30) c1) (hr29 : q_ir (q_r f0 mo 31) c2) (hr30 : q_ir (q_r f0 mo 32) c3) (hr31 : q_ir (q_r f0 mo 33) bg) (hr32 : q_ir (q_r f0 mo 34) lp) (hr33 : q_ir (q_r f0 mo 38) rp) (hij : tk_ij K L f0 nds) (hcj : tk_c3 K L f0 cmds) {f : Nat → va_E} {H : Heap} {locs : List Loc} {ls : Array Slot} {cells slots : Nat} {ii tn : Int} {nl9 ls9 : List (List Int)} {xc : Int} (hB : q_B g K L (fun q => s.heap.size ≤ q) [(0, 0, 6), (2, 1, 2), (3, 0, 4), (4, 0, 7), (5, 0, 9), (6, 1, 1), (7, 1, 4), (8, 1, 9), (9, 0, 2), (10, 3, 15), (11, 9, 9), (12, 0, 0), (12, 2, 12), (12, 21, 23), (12, 26, 28), (12, 35, 37), (12, 39, 40), (13, 3, 15), (14, 3, 15), (15, 3, 15), (16, 3, 15), (17, 0, 9), (18, 0, 9), (19, 0, 9), (20, 0, 9), (21, 0, 4), (22, 0, 4), (23, 0, 4), (24, 0, 4), (25, 0, 7), (26, 0, 7), (27, 0, 7), (28, 0, 7), (142, 0, 599), (143, 0, 599), (150, 0, 599), (151, 0, 657), (152, 0, 657), (153, 0, 657), (154, 0, 657), (155, 0, 3947), (156, 0, 9), (157, 0, 9), (158, 0, 9), (159, 0, 9), (160, 0, 9), (161, 0, 59), (162, 0, 58), (163, 0, 58), (164, 0, 58), (165, 0, 1), (166, 0, 1), (167, 0, 479), (168, 0, 0), (169, 0, 0)] f0 f s H locs) (hI : q_Iv6 K L f x so mo sr pa sd bu ba now ndn hist ka sv nsv nm snm tn nl9 ls9 xc) (hl : lv_has ls 10 [(5, .int (q_i ii)), (4, .ref outD), (3, .ref out), (2, .ref mo), (1, .ref x), (0, .ref b)]) (hi0 : 0 ≤ ii) (hi6 : ii + 6 ≤ N9) (hce : cells + 6 ≤ 10000) (hse : slots + 36 ≤ 100000) (kk : ∀ (f1 : Nat → va_E) (H1 : Heap) (locs1 : List Loc) (ls1 : Array Slot) (tn1 : Int) (nl1 ls1_ : List (List Int)) (xc1 : Int), q_B g K L (fun q => s.heap.size ≤ q) [(0, 0, 6), (2, 1, 2), (3, 0, 4), (4, 0, 7), (5, 0, 9), (6, 1, 1), (7, 1, 4), (8, 1, 9), (9, 0, 2), (10, 3, 15), (11, 9, 9), (12, 0, 0), (12, 2, 12), (12, 21, 23), (12, 26, 28), (12, 35, 37), (12, 39, 40), (13, 3, 15), (14, 3, 15), (15, 3, 15), (16, 3, 15), (17, 0, 9), (18, 0, 9), (19, 0, 9), (20, 0, 9), (21, 0, 4), (22, 0, 4), (23, 0, 4), (24, 0, 4), (25, 0, 7), (26, 0, 7), (27, 0, 7), (28, 0, 7), (142, 0, 599), (143, 0, 599), (150, 0, 599), (151, 0, 657), (152, 0, 657), (153, 0, 657), (154, 0, 657), (155, 0, 3947), (156, 0, 9), (157, 0, 9), (158, 0, 9), (159, 0, 9), (160, 0, 9), (161, 0, 59), (162, 0, 58), (163, 0, 58), (164, 0, 58), (165, 0, 1), (166, 0, 1), (167, 0, 479), (168, 0, 0), (169, 0, 0)] f0 f1 s H1 locs1 → q_Iv6 K L f1 x so mo sr pa sd bu ba now ndn hist ka sv nsv nm snm tn1 nl1 ls1_ xc1 → lv_has ls1 10 [(5, .int (q_i ii)), (4, .ref outD), (3, .ref out), (2, .ref mo), (1, .ref x), (0, .ref b)] → W p l e room_1 s m #[Value.ref b] below meth c H1 locs1 (cells + 6) (slots + 36) (lw_Z below #[Value.ref b] s) (F0 m 1493 ls1 [])) : W p l e room_1 s m #[Value.ref b] below meth c H locs (cells) (slots) (lw_Z below #[Value.ref b] s) (F0 m 1234 ls []) := by
  have hXs := C0.2.2.2.2.2.2.1
  have hbl := C0.2.2.2.2.2.2.2.1
  have hbA := q_bA hbl
  obtain ⟨⟨hn0, hn1, ltn, utn⟩, hgr, hpk, hsd9, ht3, ht4, hbb, hsr0, hxc, hvn, hvk, hvs, hrn9, hrs9, hpc, hs22, he2, he3⟩ := hI
  have lxc : 0 ≤ xc := by omega
  have uxc : xc ≤ 10 := by have h7 := hvn.2.1.2; omega
  have hr0 : q_ir (q_r f x 0) so := Eq.trans (hB.2.2.r hx (by rw [kx]; rfl)) hr0
  have hr1 : q_ir (q_r f x 1) rd := Eq.trans (hB.2.2.r hx (by rw [kx]; rfl)) hr1
  have hr2 : q_ir (q_r f x 2) scr := Eq.trans (hB.2.2.r hx (by rw [kx]; rfl)) hr2
  have hr3 : q_ir (q_r f x 3) fc := Eq.trans (hB.2.2.r hx (by rw [kx]; rfl)) hr3
  have hr4 : q_ir (q_r f x 4) hist := Eq.trans (hB.2.2.r hx (by rw [kx]; rfl)) hr4
  have hr5 : q_ir (q_r f x 5) rep := Eq.trans (hB.2.2.r hx (by rw [kx]; rfl)) hr5
  have hr6 : q_ir (q_r f x 6) now := Eq.trans (hB.2.2.r hx (by rw [kx]; rfl)) hr6
  have hr7 : q_ir (q_r f x 7) dr := Eq.trans (hB.2.2.r hx (by rw [kx]; rfl)) hr7
  have hr8 : q_ir (q_r f x 8) sv := Eq.trans (hB.2.2.r hx (by rw [kx]; rfl)) hr8
  have hr9 : q_ir (q_r f fc 0) tr := Eq.trans (hB.2.2.r hfc (by rw [kfc]; rfl)) hr9
  have hr10 : q_ir (q_r f so 0) ba := Eq.trans (hB.2.2.r hso (by rw [kso]; rfl)) hr10
  have hr11 : q_ir (q_r f dr 0) nds := Eq.trans (hB.2.2.r hdr (by rw [kdr]; rfl)) hr11
  have hr12 : q_ir (q_r f hist 0) ka := Eq.trans (hB.2.2.r hhist (by rw [khist]; rfl)) hr12
  have hr13 : q_ir (q_r f now 0) ndn := Eq.trans (hB.2.2.r hnow (by rw [know]; rfl)) hr13
  have hr14 : q_ir (q_r f sv 0) nsv := Eq.trans (hB.2.2.r hsv (by rw [ksv]; rfl)) hr14
  have hr15 : q_ir (q_r f scr 0) cmds := Eq.trans (hB.2.2.r hscr (by rw [kscr]; rfl)) hr15
  have hr16 : q_ir (q_r f mo 1) bu := Eq.trans (hB.2.2.r hmo (by rw [kmo]; rfl)) hr16
  have hr17 : q_ir (q_r f mo 13) sr := Eq.trans (hB.2.2.r hmo (by rw [kmo]; rfl)) hr17
  have hr18 : q_ir (q_r f mo 14) sd := Eq.trans (hB.2.2.r hmo (by rw [kmo]; rfl)) hr18
  have hr19 : q_ir (q_r f mo 15) as := Eq.trans (hB.2.2.r hmo (by rw [kmo]; rfl)) hr19
  have hr20 : q_ir (q_r f mo 16) aw := Eq.trans (hB.2.2.r hmo (by rw [kmo]; rfl)) hr20
  have hr21 : q_ir (q_r f mo 17) pa := Eq.trans (hB.2.2.r hmo (by rw [kmo]; rfl)) hr21
  have hr22 : q_ir (q_r f mo 18) nm := Eq.trans (hB.2.2.r hmo (by rw [kmo]; rfl)) hr22
  have hr23 : q_ir (q_r f mo 19) snm := Eq.trans (hB.2.2.r hmo (by rw [kmo]; rfl)) hr23
  have hr24 : q_ir (q_r f mo 20) anm := Eq.trans (hB.2.2.r hmo (by rw [kmo]; rfl)) hr24
  have hr25 : q_ir (q_r f mo 24) hp := Eq.trans (hB.2.2.r hmo (by rw [kmo]; rfl)) hr25
  have hr26 : q_ir (q_r f mo 25) dy := Eq.trans (hB.2.2.r hmo (by rw [kmo]; rfl)) hr26
  have hr27 : q_ir (q_r f mo 29) cs := Eq.trans (hB.2.2.r hmo (by rw [kmo]; rfl)) hr27
  have hr28 : q_ir (q_r f mo 30) c1 := Eq.trans (hB.2.2.r hmo (by rw [kmo]; rfl)) hr28
  have hr29 : q_ir (q_r f mo 31) c2 := Eq.trans (hB.2.2.r hmo (by rw [kmo]; rfl)) hr29
  have hr30 : q_ir (q_r f mo 32) c3 := Eq.trans (hB.2.2.r hmo (by rw [kmo]; rfl)) hr30
  have hr31 : q_ir (q_r f mo 33) bg := Eq.trans (hB.2.2.r hmo (by rw [kmo]; rfl)) hr31
  have hr32 : q_ir (q_r f mo 34) lp := Eq.trans (hB.2.2.r hmo (by rw [kmo]; rfl)) hr32
  have hr33 : q_ir (q_r f mo 38) rp := Eq.trans (hB.2.2.r hmo (by rw [kmo]; rfl)) hr33
  have hij : tk_ij K L f nds := tk_ij_tr hij (fun i9 => hB.2.2.r hnds (by rw [knds]; rfl))
  have hcj : tk_c3 K L f cmds := tk_c3_tr hcj (fun i9 => hB.2.2.r hcmds (by rw [kcmds]; rfl))
  obtain ⟨x1, ex1⟩ : ∃ zz, q_is (q_z f sr 3) zz := ⟨_, q_isr _⟩
  obtain ⟨lx1, ux1⟩ : 0 ≤ x1 ∧ x1 ≤ 9999 := q_isb ex1 ⟨(hgr 3 (by decide)).1, ht3⟩
  obtain ⟨x2, ex2⟩ : ∃ zz, q_is (q_z f sr 4) zz := ⟨_, q_isr _⟩
  obtain ⟨lx2, ux2⟩ : 0 ≤ x2 ∧ x2 ≤ 60 := q_isb ex2 ⟨(hgr 4 (by decide)).1, ht4⟩
  refine q_ald_n cx dL_law_1234 rfl (lv_at hl 4 rfl) ?_
  refine q_ald_n cx dL_law_1235 rfl (lv_at hl 5 rfl) ?_
  refine lv_iload cx.1 cx.2.1 dL_law_1236 (lv_at hl 0 rfl) ?_
  refine q_iconst cx dL_law_1238 ?_
  refine q_iadd cx dL_law_1239 ?_
  refine va_sld cx.1 cx.2.1 hXs hbl hbA hB.1.2.2.2 (q_in (by omega) (by omega) (by omega)) dL_law_1240 ?_
  obtain ⟨a3, ra3, ea3⟩ : ∃ z : Int, q_R z ∧ xs (q_i (ii + 1)).toNatClampNeg = q_i z := ⟨_, q_rng _, (q_of _).symm⟩
  rw [ea3]
  refine q_ald_n cx dL_law_1241 rfl (lv_at hl 5 rfl) ?_
  refine lv_iload cx.1 cx.2.1 dL_law_1242 (lv_at hl 0 rfl) ?_
  refine q_iconst cx dL_law_1244 ?_
  refine q_iadd cx dL_law_1245 ?_
  refine va_sld cx.1 cx.2.1 hXs hbl hbA hB.1.2.2.2 (q_in (by omega) (by omega) (by omega)) dL_law_1246 ?_
  obtain ⟨a4, ra4, ea4⟩ : ∃ z : Int, q_R z ∧ xs (q_i (ii + 2)).toNatClampNeg = q_i z := ⟨_, q_rng _, (q_of _).symm⟩
  rw [ea4]
  refine q_ald_n cx dL_law_1247 rfl (lv_at hl 5 rfl) ?_
  refine lv_iload cx.1 cx.2.1 dL_law_1248 (lv_at hl 0 rfl) ?_
  refine q_iconst cx dL_law_1250 ?_
  refine q_iadd cx dL_law_1251 ?_
  refine va_sld cx.1 cx.2.1 hXs hbl hbA hB.1.2.2.2 (q_in (by omega) (by omega) (by omega)) dL_law_1252 ?_
  obtain ⟨a5, ra5, ea5⟩ : ∃ z : Int, q_R z ∧ xs (q_i (ii + 3)).toNatClampNeg = q_i z := ⟨_, q_rng _, (q_of _).symm⟩
  rw [ea5]
  refine q_ifeq (tgt := 1260) cx ⟨by omega, by omega⟩ dL_law_1253 (by decide) (fun c6 => ?_) (fun c6 => ?_)
  · refine q_iconst cx dL_law_1260 ?_
    refine q_ald_n cx dL_law_1261 rfl (lv_at hl 2 rfl) ?_
    refine q_cWS (As := [.ref x, .int (q_i a3), .int (q_i a4), .int (q_i 0), .ref out]) (rest := []) cx hX hB (fun q h => hLA q h) (fun q h1 h2 => absurd h1 (Nat.not_le_of_lt h2)) hN (f_wwatch l g ad hN hB.2.1 hfl nl9 x hx kx a3 (by omega) (by omega) a4 (by omega) (by omega) 0 (by decide) (by decide) out hout kout so hso kso rd hrd krd scr hscr kscr fc hfc kfc hist hhist khist rep hrep krep now hnow know dr hdr kdr sv hsv ksv tr htr ktr ba hba kba nds hnds knds ka hka kka ndn hndn kndn nsv hnsv knsv hr0 hr1 hr2 hr3 hr4 hr5 hr6 hr7 hr8 hr9 hr10 hr11 hr12 hr13 hr14 hvn hvk) q_cL_228 q_dL_watch ⟨by decide, by show cells + 2 ≤ 601024; omega, by show slots + 12 ≤ 7293034; omega⟩ rfl rfl hl.1 rfl (Nat.le_of_ble_eq_true rfl) dL_law_1262 (fun v9 H locs f7 h9 hF hB => ?_)
    obtain ⟨y8, rfl, ry8, h9⟩ := h9
    refine W.eq (g2 := F0 m 1265 ls [.int (q_i y8)]) rfl ?_
    obtain ⟨ly8, uy8, g10⟩ := h9
    have z11 : q_is (q_z f7 so 1) tn := Eq.trans (hF.z hso (by rw [kso]; rfl)) hn0
    have z12 : q_is (q_z f7 mo 2) tn := Eq.trans (hF.z hmo (by rw [kmo]; rfl)) hn1
    have z13 : q_is (q_z f7 sr 0) xc := Eq.trans (hF.z hsr (by rw [ksr]; rfl)) hsr0
    have z14 : q_is (q_z f7 sr 3) x1 := Eq.trans (hF.z hsr (by rw [ksr]; rfl)) ex1
    have z15 : q_is (q_z f7 sr 4) x2 := Eq.trans (hF.z hsr (by rw [ksr]; rfl)) ex2
    have z16 : q_ir (q_r f7 x 0) so := Eq.trans (hF.r hx (by rw [kx]; rfl)) hr0
    have z17 : q_ir (q_r f7 x 1) rd := Eq.trans (hF.r hx (by rw [kx]; rfl)) hr1
    have z18 : q_ir (q_r f7 x 2) scr := Eq.trans (hF.r hx (by rw [kx]; rfl)) hr2
    have z19 : q_ir (q_r f7 x 3) fc := Eq.trans (hF.r hx (by rw [kx]; rfl)) hr3
    have z20 : q_ir (q_r f7 x 4) hist := Eq.trans (hF.r hx (by rw [kx]; rfl)) hr4
    have z21 : q_ir (q_r f7 x 5) rep := Eq.trans (hF.r hx (by rw [kx]; rfl)) hr5
    have z22 : q_ir (q_r f7 x 6) now := Eq.trans (hF.r hx (by rw [kx]; rfl)) hr6
    have z23 : q_ir (q_r f7 x 7) dr := Eq.trans (hF.r hx (by rw [kx]; rfl)) hr7
    have z24 : q_ir (q_r f7 x 8) sv := Eq.trans (hF.r hx (by rw [kx]; rfl)) hr8
    have z25 : q_ir (q_r f7 fc 0) tr := Eq.trans (hF.r hfc (by rw [kfc]; rfl)) hr9
    have z26 : q_ir (q_r f7 so 0) ba := Eq.trans (hF.r hso (by rw [kso]; rfl)) hr10
    have z27 : q_ir (q_r f7 dr 0) nds := Eq.trans (hF.r hdr (by rw [kdr]; rfl)) hr11
    have z28 : q_ir (q_r f7 hist 0) ka := Eq.trans (hF.r hhist (by rw [khist]; rfl)) hr12
    have z29 : q_ir (q_r f7 now 0) ndn := Eq.trans (hF.r hnow (by rw [know]; rfl)) hr13
    have z30 : q_ir (q_r f7 sv 0) nsv := Eq.trans (hF.r hsv (by rw [ksv]; rfl)) hr14
    have z31 : q_ir (q_r f7 scr 0) cmds := Eq.trans (hF.r hscr (by rw [kscr]; rfl)) hr15
    have z32 : q_ir (q_r f7 mo 1) bu := Eq.trans (hF.r hmo (by rw [kmo]; rfl)) hr16
    have z33 : q_ir (q_r f7 mo 13) sr := Eq.trans (hF.r hmo (by rw [kmo]; rfl)) hr17
    have z34 : q_ir (q_r f7 mo 14) sd := Eq.trans (hF.r hmo (by rw [kmo]; rfl)) hr18
    have z35 : q_ir (q_r f7 mo 15) as := Eq.trans (hF.r hmo (by rw [kmo]; rfl)) hr19
    have z36 : q_ir (q_r f7 mo 16) aw := Eq.trans (hF.r hmo (by rw [kmo]; rfl)) hr20
    have z37 : q_ir (q_r f7 mo 17) pa := Eq.trans (hF.r hmo (by rw [kmo]; rfl)) hr21
    have z38 : q_ir (q_r f7 mo 18) nm := Eq.trans (hF.r hmo (by rw [kmo]; rfl)) hr22
    have z39 : q_ir (q_r f7 mo 19) snm := Eq.trans (hF.r hmo (by rw [kmo]; rfl)) hr23
    have z40 : q_ir (q_r f7 mo 20) anm := Eq.trans (hF.r hmo (by rw [kmo]; rfl)) hr24
    have z41 : q_ir (q_r f7 mo 24) hp := Eq.trans (hF.r hmo (by rw [kmo]; rfl)) hr25
    have z42 : q_ir (q_r f7 mo 25) dy := Eq.trans (hF.r hmo (by rw [kmo]; rfl)) hr26
    have z43 : q_ir (q_r f7 mo 29) cs := Eq.trans (hF.r hmo (by rw [kmo]; rfl)) hr27
    have z44 : q_ir (q_r f7 mo 30) c1 := Eq.trans (hF.r hmo (by rw [kmo]; rfl)) hr28
    have z45 : q_ir (q_r f7 mo 31) c2 := Eq.trans (hF.r hmo (by rw [kmo]; rfl)) hr29
    have z46 : q_ir (q_r f7 mo 32) c3 := Eq.trans (hF.r hmo (by rw [kmo]; rfl)) hr30
    have z47 : q_ir (q_r f7 mo 33) bg := Eq.trans (hF.r hmo (by rw [kmo]; rfl)) hr31
    have z48 : q_ir (q_r f7 mo 34) lp := Eq.trans (hF.r hmo (by rw [kmo]; rfl)) hr32
    have z49 : q_ir (q_r f7 mo 38) rp := Eq.trans (hF.r hmo (by rw [kmo]; rfl)) hr33
    have g50 : q_gr f7 sr := q_gr_fr hgr (fun i9 _ => hF.z hsr (by rw [ksr]; rfl))
    have g51 : q_z f7 x 9 = q_z f7 mo 22 := tk_s2_tr hs22 (hF.z hx (by rw [kx]; rfl)) (hF.z hmo (by rw [kmo]; rfl))
    have g52 : q_pk f7 mo pa := q_pk_tr hpk (hF.z hmo (by rw [kmo]; rfl)) (fun i9 => hF.z hpa (by rw [kpa]; rfl))
    have g53 : q_sv f7 mo sd := q_sv_tr hsd9 (hF.z hmo (by rw [kmo]; rfl)) (fun i9 => hF.z hsd (by rw [ksd]; rfl))
    have g54 : tk_bb f7 bu ba tn := tk_bb_tr hbb (fun i9 => hF.z hbu (by rw [kbu]; rfl)) (fun i9 => hF.z hba (by rw [kba]; rfl))
    have g55 : tk_ij K L f7 nds := tk_ij_tr hij (fun i9 => hF.r hnds (by rw [knds]; rfl))
    have g56 : tk_c3 K L f7 cmds := tk_c3_tr hcj (fun i9 => hF.r hcmds (by rw [kcmds]; rfl))
    have g57 : q_z f7 so 2 = q_z f7 mo 10 := tk_e2_tr he2 (hF.z hso (by rw [kso]; rfl)) (hF.z hmo (by rw [kmo]; rfl))
    have g58 : q_z f7 so 3 = q_z f7 mo 11 := tk_e2_tr he3 (hF.z hso (by rw [kso]; rfl)) (hF.z hmo (by rw [kmo]; rfl))
    have g59 : tk_vn K L 5 f7 now ndn nl9 := tk_vn_tr hvn (hF.z hnow (by rw [know]; rfl)) (fun a9 h9 k9 => hF.j h9 (by rw [k9]; rfl)) (fun i9 => hF.r hndn (by rw [kndn]; rfl))
    have g60 : tk_vs K L f7 x sv nsv ls9 := tk_vs_tr hvs (hF.z hx (by rw [kx]; rfl)) (hF.z hsv (by rw [ksv]; rfl)) (fun a9 h9 k9 => hF.j h9 (by rw [k9]; rfl)) (fun i9 => hF.r hnsv (by rw [knsv]; rfl))
    have g61 : tk_nq f7 nm nl9 := tk_nq_tr hrn9 (fun i9 => hF.j hnm (by rw [knm]; rfl))
    have g62 : tk_rs f7 mo sd snm ls9 := tk_rs_tr hrs9 (hF.z hmo (by rw [kmo]; rfl)) (fun i9 h9 k9 => hF.z hsd (by rw [ksd]; exact q_inWr rfl h9 k9)) (fun i9 => hF.j hsnm (by rw [ksnm]; rfl))
    have g63 : q_pc f7 mo pa xc := q_pc_tr hpc (hF.z hmo (by rw [kmo]; rfl)) (fun i9 => hF.z hpa (by rw [kpa]; rfl))
    refine lv_istore (lv' := [(6, .int (q_i y8)), (5, .int (q_i ii)), (4, .ref outD), (3, .ref out), (2, .ref mo), (1, .ref x), (0, .ref b)]) cx.1 cx.2.1 dL_law_1265 hl (by decide) rfl (fun ls hl => ?_)
    refine q_ald_n cx dL_law_1267 rfl (lv_at hl 4 rfl) ?_
    refine q_ald_n cx dL_law_1268 rfl (lv_at hl 6 rfl) ?_
    refine lv_iload cx.1 cx.2.1 dL_law_1269 (lv_at hl 1 rfl) ?_
    refine q_iconst cx dL_law_1271 ?_
    refine q_iadd cx dL_law_1272 ?_
    refine va_sld cx.1 cx.2.1 hXs hbl hbA hB.1.2.2.2 (q_in (by omega) (by omega) (by omega)) dL_law_1273 ?_
    rw [ea3]
    refine q_ald_n cx dL_law_1274 rfl (lv_at hl 6 rfl) ?_
    refine lv_iload cx.1 cx.2.1 dL_law_1275 (lv_at hl 1 rfl) ?_
    refine q_iconst cx dL_law_1277 ?_
    refine q_iadd cx dL_law_1278 ?_
    refine va_sld cx.1 cx.2.1 hXs hbl hbA hB.1.2.2.2 (q_in (by omega) (by omega) (by omega)) dL_law_1279 ?_
    rw [ea4]
    refine q_ald_n cx dL_law_1280 rfl (lv_at hl 6 rfl) ?_
    refine lv_iload cx.1 cx.2.1 dL_law_1281 (lv_at hl 1 rfl) ?_
    refine q_iconst cx dL_law_1283 ?_
    refine q_iadd cx dL_law_1284 ?_
    refine va_sld cx.1 cx.2.1 hXs hbl hbA hB.1.2.2.2 (q_in (by omega) (by omega) (by omega)) dL_law_1285 ?_
    rw [ea5]
    refine q_ifeq (tgt := 1293) cx ⟨by omega, by omega⟩ dL_law_1286 (by decide) (fun c64 => ?_) (fun c64 => ?_)
    · refine q_iconst cx dL_law_1293 ?_
      refine q_cVi (As := [.int (q_i a3), .int (q_i a4), .int (q_i 0)]) (rest := []) cx hB (fun q h => hLA q h) hN hmo kmo (by decide) rfl (r_watch l g hN hB.2.1 mo hmo kmo a3 (by omega) (by omega) a4 (by omega) (by omega) 0 (by decide) (by decide) sr hsr ksr as has kas pa hpa kpa x1 (by omega) (by omega) x2 (by omega) (by omega) xc (by omega) (by omega) z14 z15 z13 z33 z35 z37 g50 g52 g63) q_cL_230 q_dX12_watch ⟨by decide, by show cells + 2 ≤ 601024; omega, by show slots + 12 ≤ 7293034; omega⟩ rfl rfl hl.1 rfl (Nat.le_of_ble_eq_true rfl) dL_law_1294 (fun y66 H locs f65 ry66 h67 hF hB => ?_)
      obtain ⟨ly66, uy66, lz68, uz68, lz69, uz69, z70, g71, g72, g73⟩ := h67
      have z74 : q_is (q_z f65 so 1) tn := Eq.trans (hF.z hso (by rw [kso]; rfl)) z11
      have z75 : q_is (q_z f65 mo 2) tn := Eq.trans (hF.z hmo (by rw [kmo]; rfl)) z12
      have z76 : q_is (q_z f65 sr 0) xc := Eq.trans (hF.z hsr (by rw [ksr]; rfl)) z13
      have z77 : q_is (q_z f65 sr 3) x1 := Eq.trans (hF.z hsr (by rw [ksr]; rfl)) z14
      have z78 : q_is (q_z f65 sr 4) x2 := Eq.trans (hF.z hsr (by rw [ksr]; rfl)) z15
      have z79 : q_ir (q_r f65 x 0) so := Eq.trans (hF.r hx (by rw [kx]; rfl)) z16
      have z80 : q_ir (q_r f65 x 1) rd := Eq.trans (hF.r hx (by rw [kx]; rfl)) z17
      have z81 : q_ir (q_r f65 x 2) scr := Eq.trans (hF.r hx (by rw [kx]; rfl)) z18
      have z82 : q_ir (q_r f65 x 3) fc := Eq.trans (hF.r hx (by rw [kx]; rfl)) z19
      have z83 : q_ir (q_r f65 x 4) hist := Eq.trans (hF.r hx (by rw [kx]; rfl)) z20
      have z84 : q_ir (q_r f65 x 5) rep := Eq.trans (hF.r hx (by rw [kx]; rfl)) z21
      have z85 : q_ir (q_r f65 x 6) now := Eq.trans (hF.r hx (by rw [kx]; rfl)) z22
      have z86 : q_ir (q_r f65 x 7) dr := Eq.trans (hF.r hx (by rw [kx]; rfl)) z23
      have z87 : q_ir (q_r f65 x 8) sv := Eq.trans (hF.r hx (by rw [kx]; rfl)) z24
      have z88 : q_ir (q_r f65 fc 0) tr := Eq.trans (hF.r hfc (by rw [kfc]; rfl)) z25
      have z89 : q_ir (q_r f65 so 0) ba := Eq.trans (hF.r hso (by rw [kso]; rfl)) z26
      have z90 : q_ir (q_r f65 dr 0) nds := Eq.trans (hF.r hdr (by rw [kdr]; rfl)) z27
      have z91 : q_ir (q_r f65 hist 0) ka := Eq.trans (hF.r hhist (by rw [khist]; rfl)) z28
      have z92 : q_ir (q_r f65 now 0) ndn := Eq.trans (hF.r hnow (by rw [know]; rfl)) z29
      have z93 : q_ir (q_r f65 sv 0) nsv := Eq.trans (hF.r hsv (by rw [ksv]; rfl)) z30
      have z94 : q_ir (q_r f65 scr 0) cmds := Eq.trans (hF.r hscr (by rw [kscr]; rfl)) z31
      have z95 : q_ir (q_r f65 mo 1) bu := Eq.trans (hF.r hmo (by rw [kmo]; rfl)) z32
      have z96 : q_ir (q_r f65 mo 13) sr := Eq.trans (hF.r hmo (by rw [kmo]; rfl)) z33
      have z97 : q_ir (q_r f65 mo 14) sd := Eq.trans (hF.r hmo (by rw [kmo]; rfl)) z34
      have z98 : q_ir (q_r f65 mo 15) as := Eq.trans (hF.r hmo (by rw [kmo]; rfl)) z35
      have z99 : q_ir (q_r f65 mo 16) aw := Eq.trans (hF.r hmo (by rw [kmo]; rfl)) z36
      have z100 : q_ir (q_r f65 mo 17) pa := Eq.trans (hF.r hmo (by rw [kmo]; rfl)) z37
      have z101 : q_ir (q_r f65 mo 18) nm := Eq.trans (hF.r hmo (by rw [kmo]; rfl)) z38
      have z102 : q_ir (q_r f65 mo 19) snm := Eq.trans (hF.r hmo (by rw [kmo]; rfl)) z39
      have z103 : q_ir (q_r f65 mo 20) anm := Eq.trans (hF.r hmo (by rw [kmo]; rfl)) z40
      have z104 : q_ir (q_r f65 mo 24) hp := Eq.trans (hF.r hmo (by rw [kmo]; rfl)) z41
      have z105 : q_ir (q_r f65 mo 25) dy := Eq.trans (hF.r hmo (by rw [kmo]; rfl)) z42
      have z106 : q_ir (q_r f65 mo 29) cs := Eq.trans (hF.r hmo (by rw [kmo]; rfl)) z43
      have z107 : q_ir (q_r f65 mo 30) c1 := Eq.trans (hF.r hmo (by rw [kmo]; rfl)) z44
      have z108 : q_ir (q_r f65 mo 31) c2 := Eq.trans (hF.r hmo (by rw [kmo]; rfl)) z45
      have z109 : q_ir (q_r f65 mo 32) c3 := Eq.trans (hF.r hmo (by rw [kmo]; rfl)) z46
      have z110 : q_ir (q_r f65 mo 33) bg := Eq.trans (hF.r hmo (by rw [kmo]; rfl)) z47
      have z111 : q_ir (q_r f65 mo 34) lp := Eq.trans (hF.r hmo (by rw [kmo]; rfl)) z48
      have z112 : q_ir (q_r f65 mo 38) rp := Eq.trans (hF.r hmo (by rw [kmo]; rfl)) z49
      have g113 : q_z f65 x 9 = q_z f65 mo 22 := tk_s2_tr g51 (hF.z hx (by rw [kx]; rfl)) (hF.z hmo (by rw [kmo]; rfl))
      have g114 : q_sv f65 mo sd := q_sv_tr g53 (hF.z hmo (by rw [kmo]; rfl)) (fun i9 => hF.z hsd (by rw [ksd]; rfl))
      have g115 : tk_bb f65 bu ba tn := tk_bb_tr g54 (fun i9 => hF.z hbu (by rw [kbu]; rfl)) (fun i9 => hF.z hba (by rw [kba]; rfl))
      have g116 : tk_ij K L f65 nds := tk_ij_tr g55 (fun i9 => hF.r hnds (by rw [knds]; rfl))
      have g117 : tk_c3 K L f65 cmds := tk_c3_tr g56 (fun i9 => hF.r hcmds (by rw [kcmds]; rfl))
      have g118 : q_z f65 so 2 = q_z f65 mo 10 := tk_e2_tr g57 (hF.z hso (by rw [kso]; rfl)) (hF.z hmo (by rw [kmo]; rfl))
      have g119 : q_z f65 so 3 = q_z f65 mo 11 := tk_e2_tr g58 (hF.z hso (by rw [kso]; rfl)) (hF.z hmo (by rw [kmo]; rfl))
      have g120 : tk_vn K L 5 f65 now ndn nl9 := tk_vn_tr g59 (hF.z hnow (by rw [know]; rfl)) (fun a9 h9 k9 => hF.j h9 (by rw [k9]; rfl)) (fun i9 => hF.r hndn (by rw [kndn]; rfl))
      have g121 : tk_vs K L f65 x sv nsv ls9 := tk_vs_tr g60 (hF.z hx (by rw [kx]; rfl)) (hF.z hsv (by rw [ksv]; rfl)) (fun a9 h9 k9 => hF.j h9 (by rw [k9]; rfl)) (fun i9 => hF.r hnsv (by rw [knsv]; rfl))
      have g122 : tk_nq f65 nm nl9 := tk_nq_tr g61 (fun i9 => hF.j hnm (by rw [knm]; rfl))
      have g123 : tk_rs f65 mo sd snm ls9 := tk_rs_tr g62 (hF.z hmo (by rw [kmo]; rfl)) (fun i9 h9 k9 => hF.z hsd (by rw [ksd]; exact q_inWr rfl h9 k9)) (fun i9 => hF.j hsnm (by rw [ksnm]; rfl))
      have g124 : tk_vk K L f65 hist ka now ndn := tk_vk_tr g10 (hF.z hhist (by rw [khist]; rfl)) (hF.z hhist (by rw [khist]; rfl)) (hF.z hnow (by rw [know]; rfl)) (fun a9 h9 k9 => hF.j h9 (by rw [k9]; rfl)) (fun i9 => hF.r hndn (by rw [kndn]; rfl)) (fun a9 h9 k9 => hF.z h9 (by rw [k9]; rfl)) (fun a9 h9 k9 => hF.j h9 (by rw [k9]; rfl)) (fun i9 => hF.r hka (by rw [kka]; rfl)) (fun a9 h9 k9 => hF.r h9 (by rw [k9]; rfl)) (fun a9 h9 k9 i9 => hF.r h9 (by rw [k9]; rfl))
      obtain ⟨x125, ex125⟩ : ∃ zz, q_is (q_z f65 sr 3) zz := ⟨_, q_isr _⟩
      obtain ⟨lx125, ux125⟩ := q_isb ex125 ⟨lz68, uz68⟩
      obtain ⟨x126, ex126⟩ : ∃ zz, q_is (q_z f65 sr 4) zz := ⟨_, q_isr _⟩
      obtain ⟨lx126, ux126⟩ := q_isb ex126 ⟨lz69, uz69⟩
      refine lv_istore (lv' := [(7, .int (q_i y66)), (6, .int (q_i y8)), (5, .int (q_i ii)), (4, .ref outD), (3, .ref out), (2, .ref mo), (1, .ref x), (0, .ref b)]) cx.1 cx.2.1 dL_law_1297 hl (by decide) rfl (fun ls hl => ?_)
      refine lv_goto (tgt := 1493) cx.1 cx.2.1 dL_law_1299 (by decide) ?_
      refine W.widen (k := cells + 6) (n := slots + 36) (by omega) (by omega) ?_
      exact kk f65 H locs ls tn nl9 ls9 xc hB ⟨⟨z74, (Eq.trans z75 (by omega)), by omega, by omega⟩, g71, g72, g114, q_isu ex125 (by omega), q_isu ex126 (by omega), tk_bb_le g115 (by omega), z70, by omega, g120, g124, g121, g122, g123, g73, g113, g118, g119⟩ (lv_sub hl [2, 3, 4, 5, 6, 7] rfl)
    · exact absurd c64 (by omega)
  · refine q_iconst cx dL_law_1256 ?_
    refine lv_goto (tgt := 1261) cx.1 cx.2.1 dL_law_1257 (by decide) ?_
    refine q_ald_n cx dL_law_1261 rfl (lv_at hl 2 rfl) ?_
    refine q_cWS (As := [.ref x, .int (q_i a3), .int (q_i a4), .int (q_i 1), .ref out]) (rest := []) cx hX hB (fun q h => hLA q h) (fun q h1 h2 => absurd h1 (Nat.not_le_of_lt h2)) hN (f_wwatch l g ad hN hB.2.1 hfl nl9 x hx kx a3 (by omega) (by omega) a4 (by omega) (by omega) 1 (by decide) (by decide) out hout kout so hso kso rd hrd krd scr hscr kscr fc hfc kfc hist hhist khist rep hrep krep now hnow know dr hdr kdr sv hsv ksv tr htr ktr ba hba kba nds hnds knds ka hka kka ndn hndn kndn nsv hnsv knsv hr0 hr1 hr2 hr3 hr4 hr5 hr6 hr7 hr8 hr9 hr10 hr11 hr12 hr13 hr14 hvn hvk) q_cL_228 q_dL_watch ⟨by decide, by show cells + 2 ≤ 601024; omega, by show slots + 12 ≤ 7293034; omega⟩ rfl rfl hl.1 rfl (Nat.le_of_ble_eq_true rfl) dL_law_1262 (fun v9 H locs f127 h129 hF hB => ?_)
    obtain ⟨y128, rfl, ry128, h129⟩ := h129
    refine W.eq (g2 := F0 m 1265 ls [.int (q_i y128)]) rfl ?_
    obtain ⟨ly128, uy128, g130⟩ := h129
    have z131 : q_is (q_z f127 so 1) tn := Eq.trans (hF.z hso (by rw [kso]; rfl)) hn0
    have z132 : q_is (q_z f127 mo 2) tn := Eq.trans (hF.z hmo (by rw [kmo]; rfl)) hn1
    have z133 : q_is (q_z f127 sr 0) xc := Eq.trans (hF.z hsr (by rw [ksr]; rfl)) hsr0
    have z134 : q_is (q_z f127 sr 3) x1 := Eq.trans (hF.z hsr (by rw [ksr]; rfl)) ex1
    have z135 : q_is (q_z f127 sr 4) x2 := Eq.trans (hF.z hsr (by rw [ksr]; rfl)) ex2
    have z136 : q_ir (q_r f127 x 0) so := Eq.trans (hF.r hx (by rw [kx]; rfl)) hr0
    have z137 : q_ir (q_r f127 x 1) rd := Eq.trans (hF.r hx (by rw [kx]; rfl)) hr1
    have z138 : q_ir (q_r f127 x 2) scr := Eq.trans (hF.r hx (by rw [kx]; rfl)) hr2
    have z139 : q_ir (q_r f127 x 3) fc := Eq.trans (hF.r hx (by rw [kx]; rfl)) hr3
    have z140 : q_ir (q_r f127 x 4) hist := Eq.trans (hF.r hx (by rw [kx]; rfl)) hr4
    have z141 : q_ir (q_r f127 x 5) rep := Eq.trans (hF.r hx (by rw [kx]; rfl)) hr5
    have z142 : q_ir (q_r f127 x 6) now := Eq.trans (hF.r hx (by rw [kx]; rfl)) hr6
    have z143 : q_ir (q_r f127 x 7) dr := Eq.trans (hF.r hx (by rw [kx]; rfl)) hr7
    have z144 : q_ir (q_r f127 x 8) sv := Eq.trans (hF.r hx (by rw [kx]; rfl)) hr8
    have z145 : q_ir (q_r f127 fc 0) tr := Eq.trans (hF.r hfc (by rw [kfc]; rfl)) hr9
    have z146 : q_ir (q_r f127 so 0) ba := Eq.trans (hF.r hso (by rw [kso]; rfl)) hr10
    have z147 : q_ir (q_r f127 dr 0) nds := Eq.trans (hF.r hdr (by rw [kdr]; rfl)) hr11
    have z148 : q_ir (q_r f127 hist 0) ka := Eq.trans (hF.r hhist (by rw [khist]; rfl)) hr12
    have z149 : q_ir (q_r f127 now 0) ndn := Eq.trans (hF.r hnow (by rw [know]; rfl)) hr13
    have z150 : q_ir (q_r f127 sv 0) nsv := Eq.trans (hF.r hsv (by rw [ksv]; rfl)) hr14
    have z151 : q_ir (q_r f127 scr 0) cmds := Eq.trans (hF.r hscr (by rw [kscr]; rfl)) hr15
    have z152 : q_ir (q_r f127 mo 1) bu := Eq.trans (hF.r hmo (by rw [kmo]; rfl)) hr16
    have z153 : q_ir (q_r f127 mo 13) sr := Eq.trans (hF.r hmo (by rw [kmo]; rfl)) hr17
    have z154 : q_ir (q_r f127 mo 14) sd := Eq.trans (hF.r hmo (by rw [kmo]; rfl)) hr18
    have z155 : q_ir (q_r f127 mo 15) as := Eq.trans (hF.r hmo (by rw [kmo]; rfl)) hr19
    have z156 : q_ir (q_r f127 mo 16) aw := Eq.trans (hF.r hmo (by rw [kmo]; rfl)) hr20
    have z157 : q_ir (q_r f127 mo 17) pa := Eq.trans (hF.r hmo (by rw [kmo]; rfl)) hr21
    have z158 : q_ir (q_r f127 mo 18) nm := Eq.trans (hF.r hmo (by rw [kmo]; rfl)) hr22
    have z159 : q_ir (q_r f127 mo 19) snm := Eq.trans (hF.r hmo (by rw [kmo]; rfl)) hr23
    have z160 : q_ir (q_r f127 mo 20) anm := Eq.trans (hF.r hmo (by rw [kmo]; rfl)) hr24
    have z161 : q_ir (q_r f127 mo 24) hp := Eq.trans (hF.r hmo (by rw [kmo]; rfl)) hr25
    have z162 : q_ir (q_r f127 mo 25) dy := Eq.trans (hF.r hmo (by rw [kmo]; rfl)) hr26
    have z163 : q_ir (q_r f127 mo 29) cs := Eq.trans (hF.r hmo (by rw [kmo]; rfl)) hr27
    have z164 : q_ir (q_r f127 mo 30) c1 := Eq.trans (hF.r hmo (by rw [kmo]; rfl)) hr28
    have z165 : q_ir (q_r f127 mo 31) c2 := Eq.trans (hF.r hmo (by rw [kmo]; rfl)) hr29
    have z166 : q_ir (q_r f127 mo 32) c3 := Eq.trans (hF.r hmo (by rw [kmo]; rfl)) hr30
    have z167 : q_ir (q_r f127 mo 33) bg := Eq.trans (hF.r hmo (by rw [kmo]; rfl)) hr31
    have z168 : q_ir (q_r f127 mo 34) lp := Eq.trans (hF.r hmo (by rw [kmo]; rfl)) hr32
    have z169 : q_ir (q_r f127 mo 38) rp := Eq.trans (hF.r hmo (by rw [kmo]; rfl)) hr33
    have g170 : q_gr f127 sr := q_gr_fr hgr (fun i9 _ => hF.z hsr (by rw [ksr]; rfl))
    have g171 : q_z f127 x 9 = q_z f127 mo 22 := tk_s2_tr hs22 (hF.z hx (by rw [kx]; rfl)) (hF.z hmo (by rw [kmo]; rfl))
    have g172 : q_pk f127 mo pa := q_pk_tr hpk (hF.z hmo (by rw [kmo]; rfl)) (fun i9 => hF.z hpa (by rw [kpa]; rfl))
    have g173 : q_sv f127 mo sd := q_sv_tr hsd9 (hF.z hmo (by rw [kmo]; rfl)) (fun i9 => hF.z hsd (by rw [ksd]; rfl))
    have g174 : tk_bb f127 bu ba tn := tk_bb_tr hbb (fun i9 => hF.z hbu (by rw [kbu]; rfl)) (fun i9 => hF.z hba (by rw [kba]; rfl))
    have g175 : tk_ij K L f127 nds := tk_ij_tr hij (fun i9 => hF.r hnds (by rw [knds]; rfl))
    have g176 : tk_c3 K L f127 cmds := tk_c3_tr hcj (fun i9 => hF.r hcmds (by rw [kcmds]; rfl))
    have g177 : q_z f127 so 2 = q_z f127 mo 10 := tk_e2_tr he2 (hF.z hso (by rw [kso]; rfl)) (hF.z hmo (by rw [kmo]; rfl))
    have g178 : q_z f127 so 3 = q_z f127 mo 11 := tk_e2_tr he3 (hF.z hso (by rw [kso]; rfl)) (hF.z hmo (by rw [kmo]; rfl))
    have g179 : tk_vn K L 5 f127 now ndn nl9 := tk_vn_tr hvn (hF.z hnow (by rw [know]; rfl)) (fun a9 h9 k9 => hF.j h9 (by rw [k9]; rfl)) (fun i9 => hF.r hndn (by rw [kndn]; rfl))
    have g180 : tk_vs K L f127 x sv nsv ls9 := tk_vs_tr hvs (hF.z hx (by rw [kx]; rfl)) (hF.z hsv (by rw [ksv]; rfl)) (fun a9 h9 k9 => hF.j h9 (by rw [k9]; rfl)) (fun i9 => hF.r hnsv (by rw [knsv]; rfl))
    have g181 : tk_nq f127 nm nl9 := tk_nq_tr hrn9 (fun i9 => hF.j hnm (by rw [knm]; rfl))
    have g182 : tk_rs f127 mo sd snm ls9 := tk_rs_tr hrs9 (hF.z hmo (by rw [kmo]; rfl)) (fun i9 h9 k9 => hF.z hsd (by rw [ksd]; exact q_inWr rfl h9 k9)) (fun i9 => hF.j hsnm (by rw [ksnm]; rfl))
    have g183 : q_pc f127 mo pa xc := q_pc_tr hpc (hF.z hmo (by rw [kmo]; rfl)) (fun i9 => hF.z hpa (by rw [kpa]; rfl))
    refine lv_istore (lv' := [(6, .int (q_i y128)), (5, .int (q_i ii)), (4, .ref outD), (3, .ref out), (2, .ref mo), (1, .ref x), (0, .ref b)]) cx.1 cx.2.1 dL_law_1265 hl (by decide) rfl (fun ls hl => ?_)
    refine q_ald_n cx dL_law_1267 rfl (lv_at hl 4 rfl) ?_
    refine q_ald_n cx dL_law_1268 rfl (lv_at hl 6 rfl) ?_
    refine lv_iload cx.1 cx.2.1 dL_law_1269 (lv_at hl 1 rfl) ?_
    refine q_iconst cx dL_law_1271 ?_
    refine q_iadd cx dL_law_1272 ?_
    refine va_sld cx.1 cx.2.1 hXs hbl hbA hB.1.2.2.2 (q_in (by omega) (by omega) (by omega)) dL_law_1273 ?_
    rw [ea3]
    refine q_ald_n cx dL_law_1274 rfl (lv_at hl 6 rfl) ?_
    refine lv_iload cx.1 cx.2.1 dL_law_1275 (lv_at hl 1 rfl) ?_
    refine q_iconst cx dL_law_1277 ?_
    refine q_iadd cx dL_law_1278 ?_
    refine va_sld cx.1 cx.2.1 hXs hbl hbA hB.1.2.2.2 (q_in (by omega) (by omega) (by omega)) dL_law_1279 ?_
    rw [ea4]
    refine q_ald_n cx dL_law_1280 rfl (lv_at hl 6 rfl) ?_
    refine lv_iload cx.1 cx.2.1 dL_law_1281 (lv_at hl 1 rfl) ?_
    refine q_iconst cx dL_law_1283 ?_
    refine q_iadd cx dL_law_1284 ?_
    refine va_sld cx.1 cx.2.1 hXs hbl hbA hB.1.2.2.2 (q_in (by omega) (by omega) (by omega)) dL_law_1285 ?_
    rw [ea5]
    refine q_ifeq (tgt := 1293) cx ⟨by omega, by omega⟩ dL_law_1286 (by decide) (fun c184 => ?_) (fun c184 => ?_)
    · refine q_iconst cx dL_law_1293 ?_
      refine q_cVi (As := [.int (q_i a3), .int (q_i a4), .int (q_i 0)]) (rest := []) cx hB (fun q h => hLA q h) hN hmo kmo (by decide) rfl (r_watch l g hN hB.2.1 mo hmo kmo a3 (by omega) (by omega) a4 (by omega) (by omega) 0 (by decide) (by decide) sr hsr ksr as has kas pa hpa kpa x1 (by omega) (by omega) x2 (by omega) (by omega) xc (by omega) (by omega) z134 z135 z133 z153 z155 z157 g170 g172 g183) q_cL_230 q_dX12_watch ⟨by decide, by show cells + 2 ≤ 601024; omega, by show slots + 12 ≤ 7293034; omega⟩ rfl rfl hl.1 rfl (Nat.le_of_ble_eq_true rfl) dL_law_1294 (fun y186 H locs f185 ry186 h187 hF hB => ?_)
      obtain ⟨ly186, uy186, lz188, uz188, lz189, uz189, z190, g191, g192, g193⟩ := h187
      have z194 : q_is (q_z f185 so 1) tn := Eq.trans (hF.z hso (by rw [kso]; rfl)) z131
      have z195 : q_is (q_z f185 mo 2) tn := Eq.trans (hF.z hmo (by rw [kmo]; rfl)) z132
      have z196 : q_is (q_z f185 sr 0) xc := Eq.trans (hF.z hsr (by rw [ksr]; rfl)) z133
      have z197 : q_is (q_z f185 sr 3) x1 := Eq.trans (hF.z hsr (by rw [ksr]; rfl)) z134
      have z198 : q_is (q_z f185 sr 4) x2 := Eq.trans (hF.z hsr (by rw [ksr]; rfl)) z135
      have z199 : q_ir (q_r f185 x 0) so := Eq.trans (hF.r hx (by rw [kx]; rfl)) z136
      have z200 : q_ir (q_r f185 x 1) rd := Eq.trans (hF.r hx (by rw [kx]; rfl)) z137
      have z201 : q_ir (q_r f185 x 2) scr := Eq.trans (hF.r hx (by rw [kx]; rfl)) z138
      have z202 : q_ir (q_r f185 x 3) fc := Eq.trans (hF.r hx (by rw [kx]; rfl)) z139
      have z203 : q_ir (q_r f185 x 4) hist := Eq.trans (hF.r hx (by rw [kx]; rfl)) z140
      have z204 : q_ir (q_r f185 x 5) rep := Eq.trans (hF.r hx (by rw [kx]; rfl)) z141
      have z205 : q_ir (q_r f185 x 6) now := Eq.trans (hF.r hx (by rw [kx]; rfl)) z142
      have z206 : q_ir (q_r f185 x 7) dr := Eq.trans (hF.r hx (by rw [kx]; rfl)) z143
      have z207 : q_ir (q_r f185 x 8) sv := Eq.trans (hF.r hx (by rw [kx]; rfl)) z144
      have z208 : q_ir (q_r f185 fc 0) tr := Eq.trans (hF.r hfc (by rw [kfc]; rfl)) z145
      have z209 : q_ir (q_r f185 so 0) ba := Eq.trans (hF.r hso (by rw [kso]; rfl)) z146
      have z210 : q_ir (q_r f185 dr 0) nds := Eq.trans (hF.r hdr (by rw [kdr]; rfl)) z147
      have z211 : q_ir (q_r f185 hist 0) ka := Eq.trans (hF.r hhist (by rw [khist]; rfl)) z148
      have z212 : q_ir (q_r f185 now 0) ndn := Eq.trans (hF.r hnow (by rw [know]; rfl)) z149
      have z213 : q_ir (q_r f185 sv 0) nsv := Eq.trans (hF.r hsv (by rw [ksv]; rfl)) z150
      have z214 : q_ir (q_r f185 scr 0) cmds := Eq.trans (hF.r hscr (by rw [kscr]; rfl)) z151
      have z215 : q_ir (q_r f185 mo 1) bu := Eq.trans (hF.r hmo (by rw [kmo]; rfl)) z152
      have z216 : q_ir (q_r f185 mo 13) sr := Eq.trans (hF.r hmo (by rw [kmo]; rfl)) z153
      have z217 : q_ir (q_r f185 mo 14) sd := Eq.trans (hF.r hmo (by rw [kmo]; rfl)) z154
      have z218 : q_ir (q_r f185 mo 15) as := Eq.trans (hF.r hmo (by rw [kmo]; rfl)) z155
      have z219 : q_ir (q_r f185 mo 16) aw := Eq.trans (hF.r hmo (by rw [kmo]; rfl)) z156
      have z220 : q_ir (q_r f185 mo 17) pa := Eq.trans (hF.r hmo (by rw [kmo]; rfl)) z157
      have z221 : q_ir (q_r f185 mo 18) nm := Eq.trans (hF.r hmo (by rw [kmo]; rfl)) z158
      have z222 : q_ir (q_r f185 mo 19) snm := Eq.trans (hF.r hmo (by rw [kmo]; rfl)) z159
      have z223 : q_ir (q_r f185 mo 20) anm := Eq.trans (hF.r hmo (by rw [kmo]; rfl)) z160
      have z224 : q_ir (q_r f185 mo 24) hp := Eq.trans (hF.r hmo (by rw [kmo]; rfl)) z161
      have z225 : q_ir (q_r f185 mo 25) dy := Eq.trans (hF.r hmo (by rw [kmo]; rfl)) z162
      have z226 : q_ir (q_r f185 mo 29) cs := Eq.trans (hF.r hmo (by rw [kmo]; rfl)) z163
      have z227 : q_ir (q_r f185 mo 30) c1 := Eq.trans (hF.r hmo (by rw [kmo]; rfl)) z164
      have z228 : q_ir (q_r f185 mo 31) c2 := Eq.trans (hF.r hmo (by rw [kmo]; rfl)) z165
      have z229 : q_ir (q_r f185 mo 32) c3 := Eq.trans (hF.r hmo (by rw [kmo]; rfl)) z166
      have z230 : q_ir (q_r f185 mo 33) bg := Eq.trans (hF.r hmo (by rw [kmo]; rfl)) z167
      have z231 : q_ir (q_r f185 mo 34) lp := Eq.trans (hF.r hmo (by rw [kmo]; rfl)) z168
      have z232 : q_ir (q_r f185 mo 38) rp := Eq.trans (hF.r hmo (by rw [kmo]; rfl)) z169
      have g233 : q_z f185 x 9 = q_z f185 mo 22 := tk_s2_tr g171 (hF.z hx (by rw [kx]; rfl)) (hF.z hmo (by rw [kmo]; rfl))
      have g234 : q_sv f185 mo sd := q_sv_tr g173 (hF.z hmo (by rw [kmo]; rfl)) (fun i9 => hF.z hsd (by rw [ksd]; rfl))
      have g235 : tk_bb f185 bu ba tn := tk_bb_tr g174 (fun i9 => hF.z hbu (by rw [kbu]; rfl)) (fun i9 => hF.z hba (by rw [kba]; rfl))
      have g236 : tk_ij K L f185 nds := tk_ij_tr g175 (fun i9 => hF.r hnds (by rw [knds]; rfl))
      have g237 : tk_c3 K L f185 cmds := tk_c3_tr g176 (fun i9 => hF.r hcmds (by rw [kcmds]; rfl))
      have g238 : q_z f185 so 2 = q_z f185 mo 10 := tk_e2_tr g177 (hF.z hso (by rw [kso]; rfl)) (hF.z hmo (by rw [kmo]; rfl))
      have g239 : q_z f185 so 3 = q_z f185 mo 11 := tk_e2_tr g178 (hF.z hso (by rw [kso]; rfl)) (hF.z hmo (by rw [kmo]; rfl))
      have g240 : tk_vn K L 5 f185 now ndn nl9 := tk_vn_tr g179 (hF.z hnow (by rw [know]; rfl)) (fun a9 h9 k9 => hF.j h9 (by rw [k9]; rfl)) (fun i9 => hF.r hndn (by rw [kndn]; rfl))
      have g241 : tk_vs K L f185 x sv nsv ls9 := tk_vs_tr g180 (hF.z hx (by rw [kx]; rfl)) (hF.z hsv (by rw [ksv]; rfl)) (fun a9 h9 k9 => hF.j h9 (by rw [k9]; rfl)) (fun i9 => hF.r hnsv (by rw [knsv]; rfl))
      have g242 : tk_nq f185 nm nl9 := tk_nq_tr g181 (fun i9 => hF.j hnm (by rw [knm]; rfl))
      have g243 : tk_rs f185 mo sd snm ls9 := tk_rs_tr g182 (hF.z hmo (by rw [kmo]; rfl)) (fun i9 h9 k9 => hF.z hsd (by rw [ksd]; exact q_inWr rfl h9 k9)) (fun i9 => hF.j hsnm (by rw [ksnm]; rfl))
      have g244 : tk_vk K L f185 hist ka now ndn := tk_vk_tr g130 (hF.z hhist (by rw [khist]; rfl)) (hF.z hhist (by rw [khist]; rfl)) (hF.z hnow (by rw [know]; rfl)) (fun a9 h9 k9 => hF.j h9 (by rw [k9]; rfl)) (fun i9 => hF.r hndn (by rw [kndn]; rfl)) (fun a9 h9 k9 => hF.z h9 (by rw [k9]; rfl)) (fun a9 h9 k9 => hF.j h9 (by rw [k9]; rfl)) (fun i9 => hF.r hka (by rw [kka]; rfl)) (fun a9 h9 k9 => hF.r h9 (by rw [k9]; rfl)) (fun a9 h9 k9 i9 => hF.r h9 (by rw [k9]; rfl))
      obtain ⟨x245, ex245⟩ : ∃ zz, q_is (q_z f185 sr 3) zz := ⟨_, q_isr _⟩
      obtain ⟨lx245, ux245⟩ := q_isb ex245 ⟨lz188, uz188⟩
      obtain ⟨x246, ex246⟩ : ∃ zz, q_is (q_z f185 sr 4) zz := ⟨_, q_isr _⟩
      obtain ⟨lx246, ux246⟩ := q_isb ex246 ⟨lz189, uz189⟩
      refine lv_istore (lv' := [(7, .int (q_i y186)), (6, .int (q_i y128)), (5, .int (q_i ii)), (4, .ref outD), (3, .ref out), (2, .ref mo), (1, .ref x), (0, .ref b)]) cx.1 cx.2.1 dL_law_1297 hl (by decide) rfl (fun ls hl => ?_)
      refine lv_goto (tgt := 1493) cx.1 cx.2.1 dL_law_1299 (by decide) ?_
      refine W.widen (k := cells + 6) (n := slots + 36) (by omega) (by omega) ?_
      exact kk f185 H locs ls tn nl9 ls9 xc hB ⟨⟨z194, (Eq.trans z195 (by omega)), by omega, by omega⟩, g191, g192, g234, q_isu ex245 (by omega), q_isu ex246 (by omega), tk_bb_le g235 (by omega), z190, by omega, g240, g244, g241, g242, g243, g193, g233, g238, g239⟩ (lv_sub hl [2, 3, 4, 5, 6, 7] rfl)
    · refine q_iconst cx dL_law_1289 ?_
      refine lv_goto (tgt := 1294) cx.1 cx.2.1 dL_law_1290 (by decide) ?_
      refine q_cVi (As := [.int (q_i a3), .int (q_i a4), .int (q_i 1)]) (rest := []) cx hB (fun q h => hLA q h) hN hmo kmo (by decide) rfl (r_watch l g hN hB.2.1 mo hmo kmo a3 (by omega) (by omega) a4 (by omega) (by omega) 1 (by decide) (by decide) sr hsr ksr as has kas pa hpa kpa x1 (by omega) (by omega) x2 (by omega) (by omega) xc (by omega) (by omega) z134 z135 z133 z153 z155 z157 g170 g172 g183) q_cL_230 q_dX12_watch ⟨by decide, by show cells + 2 ≤ 601024; omega, by show slots + 12 ≤ 7293034; omega⟩ rfl rfl hl.1 rfl (Nat.le_of_ble_eq_true rfl) dL_law_1294 (fun y248 H locs f247 ry248 h249 hF hB => ?_)
      obtain ⟨ly248, uy248, lz250, uz250, lz251, uz251, z252, g253, g254, g255⟩ := h249
      have z256 : q_is (q_z f247 so 1) tn := Eq.trans (hF.z hso (by rw [kso]; rfl)) z131
      have z257 : q_is (q_z f247 mo 2) tn := Eq.trans (hF.z hmo (by rw [kmo]; rfl)) z132
      have z258 : q_is (q_z f247 sr 0) xc := Eq.trans (hF.z hsr (by rw [ksr]; rfl)) z133
      have z259 : q_is (q_z f247 sr 3) x1 := Eq.trans (hF.z hsr (by rw [ksr]; rfl)) z134
      have z260 : q_is (q_z f247 sr 4) x2 := Eq.trans (hF.z hsr (by rw [ksr]; rfl)) z135
      have z261 : q_ir (q_r f247 x 0) so := Eq.trans (hF.r hx (by rw [kx]; rfl)) z136
      have z262 : q_ir (q_r f247 x 1) rd := Eq.trans (hF.r hx (by rw [kx]; rfl)) z137
      have z263 : q_ir (q_r f247 x 2) scr := Eq.trans (hF.r hx (by rw [kx]; rfl)) z138
      have z264 : q_ir (q_r f247 x 3) fc := Eq.trans (hF.r hx (by rw [kx]; rfl)) z139
      have z265 : q_ir (q_r f247 x 4) hist := Eq.trans (hF.r hx (by rw [kx]; rfl)) z140
      have z266 : q_ir (q_r f247 x 5) rep := Eq.trans (hF.r hx (by rw [kx]; rfl)) z141
      have z267 : q_ir (q_r f247 x 6) now := Eq.trans (hF.r hx (by rw [kx]; rfl)) z142
      have z268 : q_ir (q_r f247 x 7) dr := Eq.trans (hF.r hx (by rw [kx]; rfl)) z143
      have z269 : q_ir (q_r f247 x 8) sv := Eq.trans (hF.r hx (by rw [kx]; rfl)) z144
      have z270 : q_ir (q_r f247 fc 0) tr := Eq.trans (hF.r hfc (by rw [kfc]; rfl)) z145
      have z271 : q_ir (q_r f247 so 0) ba := Eq.trans (hF.r hso (by rw [kso]; rfl)) z146
      have z272 : q_ir (q_r f247 dr 0) nds := Eq.trans (hF.r hdr (by rw [kdr]; rfl)) z147
      have z273 : q_ir (q_r f247 hist 0) ka := Eq.trans (hF.r hhist (by rw [khist]; rfl)) z148
      have z274 : q_ir (q_r f247 now 0) ndn := Eq.trans (hF.r hnow (by rw [know]; rfl)) z149
      have z275 : q_ir (q_r f247 sv 0) nsv := Eq.trans (hF.r hsv (by rw [ksv]; rfl)) z150
      have z276 : q_ir (q_r f247 scr 0) cmds := Eq.trans (hF.r hscr (by rw [kscr]; rfl)) z151
      have z277 : q_ir (q_r f247 mo 1) bu := Eq.trans (hF.r hmo (by rw [kmo]; rfl)) z152
      have z278 : q_ir (q_r f247 mo 13) sr := Eq.trans (hF.r hmo (by rw [kmo]; rfl)) z153
      have z279 : q_ir (q_r f247 mo 14) sd := Eq.trans (hF.r hmo (by rw [kmo]; rfl)) z154
      have z280 : q_ir (q_r f247 mo 15) as := Eq.trans (hF.r hmo (by rw [kmo]; rfl)) z155
      have z281 : q_ir (q_r f247 mo 16) aw := Eq.trans (hF.r hmo (by rw [kmo]; rfl)) z156
      have z282 : q_ir (q_r f247 mo 17) pa := Eq.trans (hF.r hmo (by rw [kmo]; rfl)) z157
      have z283 : q_ir (q_r f247 mo 18) nm := Eq.trans (hF.r hmo (by rw [kmo]; rfl)) z158
      have z284 : q_ir (q_r f247 mo 19) snm := Eq.trans (hF.r hmo (by rw [kmo]; rfl)) z159
      have z285 : q_ir (q_r f247 mo 20) anm := Eq.trans (hF.r hmo (by rw [kmo]; rfl)) z160
      have z286 : q_ir (q_r f247 mo 24) hp := Eq.trans (hF.r hmo (by rw [kmo]; rfl)) z161
      have z287 : q_ir (q_r f247 mo 25) dy := Eq.trans (hF.r hmo (by rw [kmo]; rfl)) z162
      have z288 : q_ir (q_r f247 mo 29) cs := Eq.trans (hF.r hmo (by rw [kmo]; rfl)) z163
      have z289 : q_ir (q_r f247 mo 30) c1 := Eq.trans (hF.r hmo (by rw [kmo]; rfl)) z164
      have z290 : q_ir (q_r f247 mo 31) c2 := Eq.trans (hF.r hmo (by rw [kmo]; rfl)) z165
      have z291 : q_ir (q_r f247 mo 32) c3 := Eq.trans (hF.r hmo (by rw [kmo]; rfl)) z166
      have z292 : q_ir (q_r f247 mo 33) bg := Eq.trans (hF.r hmo (by rw [kmo]; rfl)) z167
      have z293 : q_ir (q_r f247 mo 34) lp := Eq.trans (hF.r hmo (by rw [kmo]; rfl)) z168
      have z294 : q_ir (q_r f247 mo 38) rp := Eq.trans (hF.r hmo (by rw [kmo]; rfl)) z169
      have g295 : q_z f247 x 9 = q_z f247 mo 22 := tk_s2_tr g171 (hF.z hx (by rw [kx]; rfl)) (hF.z hmo (by rw [kmo]; rfl))
      have g296 : q_sv f247 mo sd := q_sv_tr g173 (hF.z hmo (by rw [kmo]; rfl)) (fun i9 => hF.z hsd (by rw [ksd]; rfl))
      have g297 : tk_bb f247 bu ba tn := tk_bb_tr g174 (fun i9 => hF.z hbu (by rw [kbu]; rfl)) (fun i9 => hF.z hba (by rw [kba]; rfl))
      have g298 : tk_ij K L f247 nds := tk_ij_tr g175 (fun i9 => hF.r hnds (by rw [knds]; rfl))
      have g299 : tk_c3 K L f247 cmds := tk_c3_tr g176 (fun i9 => hF.r hcmds (by rw [kcmds]; rfl))
      have g300 : q_z f247 so 2 = q_z f247 mo 10 := tk_e2_tr g177 (hF.z hso (by rw [kso]; rfl)) (hF.z hmo (by rw [kmo]; rfl))
      have g301 : q_z f247 so 3 = q_z f247 mo 11 := tk_e2_tr g178 (hF.z hso (by rw [kso]; rfl)) (hF.z hmo (by rw [kmo]; rfl))
      have g302 : tk_vn K L 5 f247 now ndn nl9 := tk_vn_tr g179 (hF.z hnow (by rw [know]; rfl)) (fun a9 h9 k9 => hF.j h9 (by rw [k9]; rfl)) (fun i9 => hF.r hndn (by rw [kndn]; rfl))
      have g303 : tk_vs K L f247 x sv nsv ls9 := tk_vs_tr g180 (hF.z hx (by rw [kx]; rfl)) (hF.z hsv (by rw [ksv]; rfl)) (fun a9 h9 k9 => hF.j h9 (by rw [k9]; rfl)) (fun i9 => hF.r hnsv (by rw [knsv]; rfl))
      have g304 : tk_nq f247 nm nl9 := tk_nq_tr g181 (fun i9 => hF.j hnm (by rw [knm]; rfl))
      have g305 : tk_rs f247 mo sd snm ls9 := tk_rs_tr g182 (hF.z hmo (by rw [kmo]; rfl)) (fun i9 h9 k9 => hF.z hsd (by rw [ksd]; exact q_inWr rfl h9 k9)) (fun i9 => hF.j hsnm (by rw [ksnm]; rfl))
      have g306 : tk_vk K L f247 hist ka now ndn := tk_vk_tr g130 (hF.z hhist (by rw [khist]; rfl)) (hF.z hhist (by rw [khist]; rfl)) (hF.z hnow (by rw [know]; rfl)) (fun a9 h9 k9 => hF.j h9 (by rw [k9]; rfl)) (fun i9 => hF.r hndn (by rw [kndn]; rfl)) (fun a9 h9 k9 => hF.z h9 (by rw [k9]; rfl)) (fun a9 h9 k9 => hF.j h9 (by rw [k9]; rfl)) (fun i9 => hF.r hka (by rw [kka]; rfl)) (fun a9 h9 k9 => hF.r h9 (by rw [k9]; rfl)) (fun a9 h9 k9 i9 => hF.r h9 (by rw [k9]; rfl))
      obtain ⟨x307, ex307⟩ : ∃ zz, q_is (q_z f247 sr 3) zz := ⟨_, q_isr _⟩
      obtain ⟨lx307, ux307⟩ := q_isb ex307 ⟨lz250, uz250⟩
      obtain ⟨x308, ex308⟩ : ∃ zz, q_is (q_z f247 sr 4) zz := ⟨_, q_isr _⟩
      obtain ⟨lx308, ux308⟩ := q_isb ex308 ⟨lz251, uz251⟩
      refine lv_istore (lv' := [(7, .int (q_i y248)), (6, .int (q_i y128)), (5, .int (q_i ii)), (4, .ref outD), (3, .ref out), (2, .ref mo), (1, .ref x), (0, .ref b)]) cx.1 cx.2.1 dL_law_1297 hl (by decide) rfl (fun ls hl => ?_)
      refine lv_goto (tgt := 1493) cx.1 cx.2.1 dL_law_1299 (by decide) ?_
      refine W.widen (k := cells + 6) (n := slots + 36) (by omega) (by omega) ?_
      exact kk f247 H locs ls tn nl9 ls9 xc hB ⟨⟨z256, (Eq.trans z257 (by omega)), by omega, by omega⟩, g253, g254, g296, q_isu ex307 (by omega), q_isu ex308 (by omega), tk_bb_le g297 (by omega), z252, by omega, g302, g306, g303, g304, g305, g255, g295, g300, g301⟩ (lv_sub hl [2, 3, 4, 5, 6, 7] rfl)
set_option maxHeartbeats 4000000 in
set_option maxRecDepth 100000 in
theorem law_c1302 {p : Program} {l : Launch} {e : Env} {s : State} {m : MethodId} {below : List Frame} {meth : Method} {c : Code} {b N9 : Nat} {xs : Nat → Int32} (hfl : l.stackTraces = false) (hN9 : N9 ≤ 3072) (C0 : lw_At p s m meth c b N9 xs) (cx : CallFix p m c cL_law 10 s #[Value.ref b] q_al RL) {g : q_G} {ad : Nat → Nat} {K : Nat → Nat} {L : List Nat} (hN : L.Nodup) (hLA : ∀ q, q ∈ L → s.heap.size ≤ q) (hX : q_X ad (fun q => q ∈ L) s) {f0 : Nat → va_E} {x : Nat} (hx : x ∈ L) (kx : K x = 11) {so : Nat} (hso : so ∈ L) (kso : K so = 8) {rd : Nat} (hrd : rd ∈ L) (krd : K rd = 9) {scr : Nat} (hscr : scr ∈ L) (kscr : K scr = 7) {fc : Nat} (hfc : fc ∈ L) (kfc : K fc = 1) {hist : Nat} (hhist : hist ∈ L) (khist : K hist = 2) {rep : Nat} (hrep : rep ∈ L) (krep : K rep = 6) {now : Nat} (hnow : now ∈ L) (know : K now = 10) {dr : Nat} (hdr : dr ∈ L) (kdr : K dr = 13) {sv : Nat} (hsv : sv ∈ L) (ksv : K sv = 14) {tr : Nat} (htr : tr ∈ L) (ktr : K tr = 15) {ba : Nat} (hba : ba ∈ L) (kba : K ba = 142) {nds : Nat} (hnds : nds ∈ L) (knds : K nds = 111) {ka : Nat} (hka : ka ∈ L) (kka : K ka = 140) {ndn : Nat} (hndn : ndn ∈ L) (kndn : K ndn = 110) {nsv : Nat} (hnsv : nsv ∈ L) (knsv : K nsv = 112) {cmds : Nat} (hcmds : cmds ∈ L) (kcmds : K cmds = 141) {mo : Nat} (hmo : mo ∈ L) (kmo : K mo = 12) {bu : Nat} (hbu : bu ∈ L) (kbu : K bu = 150) {sr : Nat} (hsr : sr ∈ L) (ksr : K sr = 151) {sd : Nat} (hsd : sd ∈ L) (ksd : K sd = 152) {as : Nat} (has : as ∈ L) (kas : K as = 153) {aw : Nat} (haw : aw ∈ L) (kaw : K aw = 154) {pa : Nat} (hpa : pa ∈ L) (kpa : K pa = 155) {nm : Nat} (hnm : nm ∈ L) (knm : K nm = 156) {snm : Nat} (hsnm : snm ∈ L) (ksnm : K snm = 157) {anm : Nat} (hanm : anm ∈ L) (kanm : K anm = 158) {hp : Nat} (hhp : hp ∈ L) (khp : K hp = 159) {dy : Nat} (hdy : dy ∈ L) (kdy : K dy = 160) {cs : Nat} (hcs : cs ∈ L) (kcs : K cs = 161) {c1 : Nat} (hc1 : c1 ∈ L) (kc1 : K c1 = 162) {c2 : Nat} (hc2 : c2 ∈ L) (kc2 : K c2 = 163) {c3 : Nat} (hc3 : c3 ∈ L) (kc3 : K c3 = 164) {bg : Nat} (hbg : bg ∈ L) (kbg : K bg = 165) {lp : Nat} (hlp : lp ∈ L) (klp : K lp = 166) {rp : Nat} (hrp : rp ∈ L) (krp : K rp = 167) {out : Nat} (hout : out ∈ L) (kout : K out = 168) {outD : Nat} (houtD : outD ∈ L) (koutD : K outD = 169) (hr0 : q_ir (q_r f0 x 0) so) (hr1 : q_ir (q_r f0 x 1) rd) (hr2 : q_ir (q_r f0 x 2) scr) (hr3 : q_ir (q_r f0 x 3) fc) (hr4 : q_ir (q_r f0 x 4) hist) (hr5 : q_ir (q_r f0 x 5) rep) (hr6 : q_ir (q_r f0 x 6) now) (hr7 : q_ir (q_r f0 x 7) dr) (hr8 : q_ir (q_r f0 x 8) sv) (hr9 : q_ir (q_r f0 fc 0) tr) (hr10 : q_ir (q_r f0 so 0) ba) (hr11 : q_ir (q_r f0 dr 0) nds) (hr12 : q_ir (q_r f0 hist 0) ka) (hr13 : q_ir (q_r f0 now 0) ndn) (hr14 : q_ir (q_r f0 sv 0) nsv) (hr15 : q_ir (q_r f0 scr 0) cmds) (hr16 : q_ir (q_r f0 mo 1) bu) (hr17 : q_ir (q_r f0 mo 13) sr) (hr18 : q_ir (q_r f0 mo 14) sd) (hr19 : q_ir (q_r f0 mo 15) as) (hr20 : q_ir (q_r f0 mo 16) aw) (hr21 : q_ir (q_r f0 mo 17) pa) (hr22 : q_ir (q_r f0 mo 18) nm) (hr23 : q_ir (q_r f0 mo 19) snm) (hr24 : q_ir (q_r f0 mo 20) anm) (hr25 : q_ir (q_r f0 mo 24) hp) (hr26 : q_ir (q_r f0 mo 25) dy) (hr27 : q_ir (q_r f0 mo 29) cs) (hr28 : q_ir (q_r f0 mo 30) c1) (hr29 : q_ir (q_r f0 mo 31) c2) (hr30 : q_ir (q_r f0 mo 32) c3) (hr31 : q_ir (q_r f0 mo 33) bg) (hr32 : q_ir (q_r f0 mo 34) lp) (hr33 : q_ir (q_r f0 mo 38) rp) (hij : tk_ij K L f0 nds) (hcj : tk_c3 K L f0 cmds) {f : Nat → va_E} {H : Heap} {locs : List Loc} {ls : Array Slot} {cells slots : Nat} {ii tn : Int} {nl9 ls9 : List (List Int)} {xc : Int} (hB : q_B g K L (fun q => s.heap.size ≤ q) [(0, 0, 6), (2, 1, 2), (3, 0, 4), (4, 0, 7), (5, 0, 9), (6, 1, 1), (7, 1, 4), (8, 1, 9), (9, 0, 2), (10, 3, 15), (11, 9, 9), (12, 0, 0), (12, 2, 12), (12, 21, 23), (12, 26, 28), (12, 35, 37), (12, 39, 40), (13, 3, 15), (14, 3, 15), (15, 3, 15), (16, 3, 15), (17, 0, 9), (18, 0, 9), (19, 0, 9), (20, 0, 9), (21, 0, 4), (22, 0, 4), (23, 0, 4), (24, 0, 4), (25, 0, 7), (26, 0, 7), (27, 0, 7), (28, 0, 7), (142, 0, 599), (143, 0, 599), (150, 0, 599), (151, 0, 657), (152, 0, 657), (153, 0, 657), (154, 0, 657), (155, 0, 3947), (156, 0, 9), (157, 0, 9), (158, 0, 9), (159, 0, 9), (160, 0, 9), (161, 0, 59), (162, 0, 58), (163, 0, 58), (164, 0, 58), (165, 0, 1), (166, 0, 1), (167, 0, 479), (168, 0, 0), (169, 0, 0)] f0 f s H locs) (hI : q_Iv6 K L f x so mo sr pa sd bu ba now ndn hist ka sv nsv nm snm tn nl9 ls9 xc) (hl : lv_has ls 10 [(5, .int (q_i ii)), (4, .ref outD), (3, .ref out), (2, .ref mo), (1, .ref x), (0, .ref b)]) (hi0 : 0 ≤ ii) (hi6 : ii + 6 ≤ N9) (hce : cells + 6 ≤ 10000) (hse : slots + 36 ≤ 100000) (kk : ∀ (f1 : Nat → va_E) (H1 : Heap) (locs1 : List Loc) (ls1 : Array Slot) (tn1 : Int) (nl1 ls1_ : List (List Int)) (xc1 : Int), q_B g K L (fun q => s.heap.size ≤ q) [(0, 0, 6), (2, 1, 2), (3, 0, 4), (4, 0, 7), (5, 0, 9), (6, 1, 1), (7, 1, 4), (8, 1, 9), (9, 0, 2), (10, 3, 15), (11, 9, 9), (12, 0, 0), (12, 2, 12), (12, 21, 23), (12, 26, 28), (12, 35, 37), (12, 39, 40), (13, 3, 15), (14, 3, 15), (15, 3, 15), (16, 3, 15), (17, 0, 9), (18, 0, 9), (19, 0, 9), (20, 0, 9), (21, 0, 4), (22, 0, 4), (23, 0, 4), (24, 0, 4), (25, 0, 7), (26, 0, 7), (27, 0, 7), (28, 0, 7), (142, 0, 599), (143, 0, 599), (150, 0, 599), (151, 0, 657), (152, 0, 657), (153, 0, 657), (154, 0, 657), (155, 0, 3947), (156, 0, 9), (157, 0, 9), (158, 0, 9), (159, 0, 9), (160, 0, 9), (161, 0, 59), (162, 0, 58), (163, 0, 58), (164, 0, 58), (165, 0, 1), (166, 0, 1), (167, 0, 479), (168, 0, 0), (169, 0, 0)] f0 f1 s H1 locs1 → q_Iv6 K L f1 x so mo sr pa sd bu ba now ndn hist ka sv nsv nm snm tn1 nl1 ls1_ xc1 → lv_has ls1 10 [(5, .int (q_i ii)), (4, .ref outD), (3, .ref out), (2, .ref mo), (1, .ref x), (0, .ref b)] → W p l e room_1 s m #[Value.ref b] below meth c H1 locs1 (cells + 6) (slots + 36) (lw_Z below #[Value.ref b] s) (F0 m 1493 ls1 [])) : W p l e room_1 s m #[Value.ref b] below meth c H locs (cells) (slots) (lw_Z below #[Value.ref b] s) (F0 m 1302 ls []) := by
  have hXs := C0.2.2.2.2.2.2.1
  have hbl := C0.2.2.2.2.2.2.2.1
  have hbA := q_bA hbl
  obtain ⟨⟨hn0, hn1, ltn, utn⟩, hgr, hpk, hsd9, ht3, ht4, hbb, hsr0, hxc, hvn, hvk, hvs, hrn9, hrs9, hpc, hs22, he2, he3⟩ := hI
  have lxc : 0 ≤ xc := by omega
  have uxc : xc ≤ 10 := by have h7 := hvn.2.1.2; omega
  have hr0 : q_ir (q_r f x 0) so := Eq.trans (hB.2.2.r hx (by rw [kx]; rfl)) hr0
  have hr1 : q_ir (q_r f x 1) rd := Eq.trans (hB.2.2.r hx (by rw [kx]; rfl)) hr1
  have hr2 : q_ir (q_r f x 2) scr := Eq.trans (hB.2.2.r hx (by rw [kx]; rfl)) hr2
  have hr3 : q_ir (q_r f x 3) fc := Eq.trans (hB.2.2.r hx (by rw [kx]; rfl)) hr3
  have hr4 : q_ir (q_r f x 4) hist := Eq.trans (hB.2.2.r hx (by rw [kx]; rfl)) hr4
  have hr5 : q_ir (q_r f x 5) rep := Eq.trans (hB.2.2.r hx (by rw [kx]; rfl)) hr5
  have hr6 : q_ir (q_r f x 6) now := Eq.trans (hB.2.2.r hx (by rw [kx]; rfl)) hr6
  have hr7 : q_ir (q_r f x 7) dr := Eq.trans (hB.2.2.r hx (by rw [kx]; rfl)) hr7
  have hr8 : q_ir (q_r f x 8) sv := Eq.trans (hB.2.2.r hx (by rw [kx]; rfl)) hr8
  have hr9 : q_ir (q_r f fc 0) tr := Eq.trans (hB.2.2.r hfc (by rw [kfc]; rfl)) hr9
  have hr10 : q_ir (q_r f so 0) ba := Eq.trans (hB.2.2.r hso (by rw [kso]; rfl)) hr10
  have hr11 : q_ir (q_r f dr 0) nds := Eq.trans (hB.2.2.r hdr (by rw [kdr]; rfl)) hr11
  have hr12 : q_ir (q_r f hist 0) ka := Eq.trans (hB.2.2.r hhist (by rw [khist]; rfl)) hr12
  have hr13 : q_ir (q_r f now 0) ndn := Eq.trans (hB.2.2.r hnow (by rw [know]; rfl)) hr13
  have hr14 : q_ir (q_r f sv 0) nsv := Eq.trans (hB.2.2.r hsv (by rw [ksv]; rfl)) hr14
  have hr15 : q_ir (q_r f scr 0) cmds := Eq.trans (hB.2.2.r hscr (by rw [kscr]; rfl)) hr15
  have hr16 : q_ir (q_r f mo 1) bu := Eq.trans (hB.2.2.r hmo (by rw [kmo]; rfl)) hr16
  have hr17 : q_ir (q_r f mo 13) sr := Eq.trans (hB.2.2.r hmo (by rw [kmo]; rfl)) hr17
  have hr18 : q_ir (q_r f mo 14) sd := Eq.trans (hB.2.2.r hmo (by rw [kmo]; rfl)) hr18
  have hr19 : q_ir (q_r f mo 15) as := Eq.trans (hB.2.2.r hmo (by rw [kmo]; rfl)) hr19
  have hr20 : q_ir (q_r f mo 16) aw := Eq.trans (hB.2.2.r hmo (by rw [kmo]; rfl)) hr20
  have hr21 : q_ir (q_r f mo 17) pa := Eq.trans (hB.2.2.r hmo (by rw [kmo]; rfl)) hr21
  have hr22 : q_ir (q_r f mo 18) nm := Eq.trans (hB.2.2.r hmo (by rw [kmo]; rfl)) hr22
  have hr23 : q_ir (q_r f mo 19) snm := Eq.trans (hB.2.2.r hmo (by rw [kmo]; rfl)) hr23
  have hr24 : q_ir (q_r f mo 20) anm := Eq.trans (hB.2.2.r hmo (by rw [kmo]; rfl)) hr24
  have hr25 : q_ir (q_r f mo 24) hp := Eq.trans (hB.2.2.r hmo (by rw [kmo]; rfl)) hr25
  have hr26 : q_ir (q_r f mo 25) dy := Eq.trans (hB.2.2.r hmo (by rw [kmo]; rfl)) hr26
  have hr27 : q_ir (q_r f mo 29) cs := Eq.trans (hB.2.2.r hmo (by rw [kmo]; rfl)) hr27
  have hr28 : q_ir (q_r f mo 30) c1 := Eq.trans (hB.2.2.r hmo (by rw [kmo]; rfl)) hr28
  have hr29 : q_ir (q_r f mo 31) c2 := Eq.trans (hB.2.2.r hmo (by rw [kmo]; rfl)) hr29
  have hr30 : q_ir (q_r f mo 32) c3 := Eq.trans (hB.2.2.r hmo (by rw [kmo]; rfl)) hr30
  have hr31 : q_ir (q_r f mo 33) bg := Eq.trans (hB.2.2.r hmo (by rw [kmo]; rfl)) hr31
  have hr32 : q_ir (q_r f mo 34) lp := Eq.trans (hB.2.2.r hmo (by rw [kmo]; rfl)) hr32
  have hr33 : q_ir (q_r f mo 38) rp := Eq.trans (hB.2.2.r hmo (by rw [kmo]; rfl)) hr33
  have hij : tk_ij K L f nds := tk_ij_tr hij (fun i9 => hB.2.2.r hnds (by rw [knds]; rfl))
  have hcj : tk_c3 K L f cmds := tk_c3_tr hcj (fun i9 => hB.2.2.r hcmds (by rw [kcmds]; rfl))
  obtain ⟨x1, ex1⟩ : ∃ zz, q_is (q_z f sr 3) zz := ⟨_, q_isr _⟩
  obtain ⟨lx1, ux1⟩ : 0 ≤ x1 ∧ x1 ≤ 9999 := q_isb ex1 ⟨(hgr 3 (by decide)).1, ht3⟩
  obtain ⟨x2, ex2⟩ : ∃ zz, q_is (q_z f sr 4) zz := ⟨_, q_isr _⟩
  obtain ⟨lx2, ux2⟩ : 0 ≤ x2 ∧ x2 ≤ 60 := q_isb ex2 ⟨(hgr 4 (by decide)).1, ht4⟩
  refine q_ald_n cx dL_law_1302 rfl (lv_at hl 4 rfl) ?_
  refine q_ald_n cx dL_law_1303 rfl (lv_at hl 5 rfl) ?_
  refine lv_iload cx.1 cx.2.1 dL_law_1304 (lv_at hl 0 rfl) ?_
  refine q_iconst cx dL_law_1306 ?_
  refine q_iadd cx dL_law_1307 ?_
  refine va_sld cx.1 cx.2.1 hXs hbl hbA hB.1.2.2.2 (q_in (by omega) (by omega) (by omega)) dL_law_1308 ?_
  obtain ⟨a3, ra3, ea3⟩ : ∃ z : Int, q_R z ∧ xs (q_i (ii + 1)).toNatClampNeg = q_i z := ⟨_, q_rng _, (q_of _).symm⟩
  rw [ea3]
  refine q_ald_n cx dL_law_1309 rfl (lv_at hl 5 rfl) ?_
  refine lv_iload cx.1 cx.2.1 dL_law_1310 (lv_at hl 0 rfl) ?_
  refine q_iconst cx dL_law_1312 ?_
  refine q_iadd cx dL_law_1313 ?_
  refine va_sld cx.1 cx.2.1 hXs hbl hbA hB.1.2.2.2 (q_in (by omega) (by omega) (by omega)) dL_law_1314 ?_
  obtain ⟨a4, ra4, ea4⟩ : ∃ z : Int, q_R z ∧ xs (q_i (ii + 2)).toNatClampNeg = q_i z := ⟨_, q_rng _, (q_of _).symm⟩
  rw [ea4]
  refine q_ald_n cx dL_law_1315 rfl (lv_at hl 2 rfl) ?_
  refine q_cWS (As := [.ref x, .int (q_i a3), .int (q_i a4), .ref out]) (rest := []) cx hX hB (fun q h => hLA q h) (fun q h1 h2 => absurd h1 (Nat.not_le_of_lt h2)) hN (f_wsetBorn l g ad hN hB.2.1 hfl nl9 x hx kx a3 (by omega) (by omega) a4 (by omega) (by omega) out hout kout so hso kso rd hrd krd scr hscr kscr fc hfc kfc hist hhist khist rep hrep krep now hnow know dr hdr kdr sv hsv ksv tr htr ktr ba hba kba nds hnds knds ka hka kka ndn hndn kndn nsv hnsv knsv hr0 hr1 hr2 hr3 hr4 hr5 hr6 hr7 hr8 hr9 hr10 hr11 hr12 hr13 hr14 hvn hvk) q_cL_231 q_dL_setBorn ⟨by decide, by show cells + 2 ≤ 601024; omega, by show slots + 12 ≤ 7293034; omega⟩ rfl rfl hl.1 rfl (Nat.le_of_ble_eq_true rfl) dL_law_1316 (fun v9 H locs f5 h7 hF hB => ?_)
  obtain ⟨y6, rfl, ry6, h7⟩ := h7
  refine W.eq (g2 := F0 m 1319 ls [.int (q_i y6)]) rfl ?_
  obtain ⟨ly6, uy6, g8⟩ := h7
  have z9 : q_is (q_z f5 so 1) tn := Eq.trans (hF.z hso (by rw [kso]; rfl)) hn0
  have z10 : q_is (q_z f5 mo 2) tn := Eq.trans (hF.z hmo (by rw [kmo]; rfl)) hn1
  have z11 : q_is (q_z f5 sr 0) xc := Eq.trans (hF.z hsr (by rw [ksr]; rfl)) hsr0
  have z12 : q_is (q_z f5 sr 3) x1 := Eq.trans (hF.z hsr (by rw [ksr]; rfl)) ex1
  have z13 : q_is (q_z f5 sr 4) x2 := Eq.trans (hF.z hsr (by rw [ksr]; rfl)) ex2
  have z14 : q_ir (q_r f5 x 0) so := Eq.trans (hF.r hx (by rw [kx]; rfl)) hr0
  have z15 : q_ir (q_r f5 x 1) rd := Eq.trans (hF.r hx (by rw [kx]; rfl)) hr1
  have z16 : q_ir (q_r f5 x 2) scr := Eq.trans (hF.r hx (by rw [kx]; rfl)) hr2
  have z17 : q_ir (q_r f5 x 3) fc := Eq.trans (hF.r hx (by rw [kx]; rfl)) hr3
  have z18 : q_ir (q_r f5 x 4) hist := Eq.trans (hF.r hx (by rw [kx]; rfl)) hr4
  have z19 : q_ir (q_r f5 x 5) rep := Eq.trans (hF.r hx (by rw [kx]; rfl)) hr5
  have z20 : q_ir (q_r f5 x 6) now := Eq.trans (hF.r hx (by rw [kx]; rfl)) hr6
  have z21 : q_ir (q_r f5 x 7) dr := Eq.trans (hF.r hx (by rw [kx]; rfl)) hr7
  have z22 : q_ir (q_r f5 x 8) sv := Eq.trans (hF.r hx (by rw [kx]; rfl)) hr8
  have z23 : q_ir (q_r f5 fc 0) tr := Eq.trans (hF.r hfc (by rw [kfc]; rfl)) hr9
  have z24 : q_ir (q_r f5 so 0) ba := Eq.trans (hF.r hso (by rw [kso]; rfl)) hr10
  have z25 : q_ir (q_r f5 dr 0) nds := Eq.trans (hF.r hdr (by rw [kdr]; rfl)) hr11
  have z26 : q_ir (q_r f5 hist 0) ka := Eq.trans (hF.r hhist (by rw [khist]; rfl)) hr12
  have z27 : q_ir (q_r f5 now 0) ndn := Eq.trans (hF.r hnow (by rw [know]; rfl)) hr13
  have z28 : q_ir (q_r f5 sv 0) nsv := Eq.trans (hF.r hsv (by rw [ksv]; rfl)) hr14
  have z29 : q_ir (q_r f5 scr 0) cmds := Eq.trans (hF.r hscr (by rw [kscr]; rfl)) hr15
  have z30 : q_ir (q_r f5 mo 1) bu := Eq.trans (hF.r hmo (by rw [kmo]; rfl)) hr16
  have z31 : q_ir (q_r f5 mo 13) sr := Eq.trans (hF.r hmo (by rw [kmo]; rfl)) hr17
  have z32 : q_ir (q_r f5 mo 14) sd := Eq.trans (hF.r hmo (by rw [kmo]; rfl)) hr18
  have z33 : q_ir (q_r f5 mo 15) as := Eq.trans (hF.r hmo (by rw [kmo]; rfl)) hr19
  have z34 : q_ir (q_r f5 mo 16) aw := Eq.trans (hF.r hmo (by rw [kmo]; rfl)) hr20
  have z35 : q_ir (q_r f5 mo 17) pa := Eq.trans (hF.r hmo (by rw [kmo]; rfl)) hr21
  have z36 : q_ir (q_r f5 mo 18) nm := Eq.trans (hF.r hmo (by rw [kmo]; rfl)) hr22
  have z37 : q_ir (q_r f5 mo 19) snm := Eq.trans (hF.r hmo (by rw [kmo]; rfl)) hr23
  have z38 : q_ir (q_r f5 mo 20) anm := Eq.trans (hF.r hmo (by rw [kmo]; rfl)) hr24
  have z39 : q_ir (q_r f5 mo 24) hp := Eq.trans (hF.r hmo (by rw [kmo]; rfl)) hr25
  have z40 : q_ir (q_r f5 mo 25) dy := Eq.trans (hF.r hmo (by rw [kmo]; rfl)) hr26
  have z41 : q_ir (q_r f5 mo 29) cs := Eq.trans (hF.r hmo (by rw [kmo]; rfl)) hr27
  have z42 : q_ir (q_r f5 mo 30) c1 := Eq.trans (hF.r hmo (by rw [kmo]; rfl)) hr28
  have z43 : q_ir (q_r f5 mo 31) c2 := Eq.trans (hF.r hmo (by rw [kmo]; rfl)) hr29
  have z44 : q_ir (q_r f5 mo 32) c3 := Eq.trans (hF.r hmo (by rw [kmo]; rfl)) hr30
  have z45 : q_ir (q_r f5 mo 33) bg := Eq.trans (hF.r hmo (by rw [kmo]; rfl)) hr31
  have z46 : q_ir (q_r f5 mo 34) lp := Eq.trans (hF.r hmo (by rw [kmo]; rfl)) hr32
  have z47 : q_ir (q_r f5 mo 38) rp := Eq.trans (hF.r hmo (by rw [kmo]; rfl)) hr33
  have g48 : q_gr f5 sr := q_gr_fr hgr (fun i9 _ => hF.z hsr (by rw [ksr]; rfl))
  have g49 : q_z f5 x 9 = q_z f5 mo 22 := tk_s2_tr hs22 (hF.z hx (by rw [kx]; rfl)) (hF.z hmo (by rw [kmo]; rfl))
  have g50 : q_pk f5 mo pa := q_pk_tr hpk (hF.z hmo (by rw [kmo]; rfl)) (fun i9 => hF.z hpa (by rw [kpa]; rfl))
  have g51 : q_sv f5 mo sd := q_sv_tr hsd9 (hF.z hmo (by rw [kmo]; rfl)) (fun i9 => hF.z hsd (by rw [ksd]; rfl))
  have g52 : tk_bb f5 bu ba tn := tk_bb_tr hbb (fun i9 => hF.z hbu (by rw [kbu]; rfl)) (fun i9 => hF.z hba (by rw [kba]; rfl))
  have g53 : tk_ij K L f5 nds := tk_ij_tr hij (fun i9 => hF.r hnds (by rw [knds]; rfl))
  have g54 : tk_c3 K L f5 cmds := tk_c3_tr hcj (fun i9 => hF.r hcmds (by rw [kcmds]; rfl))
  have g55 : q_z f5 so 2 = q_z f5 mo 10 := tk_e2_tr he2 (hF.z hso (by rw [kso]; rfl)) (hF.z hmo (by rw [kmo]; rfl))
  have g56 : q_z f5 so 3 = q_z f5 mo 11 := tk_e2_tr he3 (hF.z hso (by rw [kso]; rfl)) (hF.z hmo (by rw [kmo]; rfl))
  have g57 : tk_vn K L 5 f5 now ndn nl9 := tk_vn_tr hvn (hF.z hnow (by rw [know]; rfl)) (fun a9 h9 k9 => hF.j h9 (by rw [k9]; rfl)) (fun i9 => hF.r hndn (by rw [kndn]; rfl))
  have g58 : tk_vs K L f5 x sv nsv ls9 := tk_vs_tr hvs (hF.z hx (by rw [kx]; rfl)) (hF.z hsv (by rw [ksv]; rfl)) (fun a9 h9 k9 => hF.j h9 (by rw [k9]; rfl)) (fun i9 => hF.r hnsv (by rw [knsv]; rfl))
  have g59 : tk_nq f5 nm nl9 := tk_nq_tr hrn9 (fun i9 => hF.j hnm (by rw [knm]; rfl))
  have g60 : tk_rs f5 mo sd snm ls9 := tk_rs_tr hrs9 (hF.z hmo (by rw [kmo]; rfl)) (fun i9 h9 k9 => hF.z hsd (by rw [ksd]; exact q_inWr rfl h9 k9)) (fun i9 => hF.j hsnm (by rw [ksnm]; rfl))
  have g61 : q_pc f5 mo pa xc := q_pc_tr hpc (hF.z hmo (by rw [kmo]; rfl)) (fun i9 => hF.z hpa (by rw [kpa]; rfl))
  refine lv_istore (lv' := [(6, .int (q_i y6)), (5, .int (q_i ii)), (4, .ref outD), (3, .ref out), (2, .ref mo), (1, .ref x), (0, .ref b)]) cx.1 cx.2.1 dL_law_1319 hl (by decide) rfl (fun ls hl => ?_)
  refine q_ald_n cx dL_law_1321 rfl (lv_at hl 4 rfl) ?_
  refine q_ald_n cx dL_law_1322 rfl (lv_at hl 6 rfl) ?_
  refine lv_iload cx.1 cx.2.1 dL_law_1323 (lv_at hl 1 rfl) ?_
  refine q_iconst cx dL_law_1325 ?_
  refine q_iadd cx dL_law_1326 ?_
  refine va_sld cx.1 cx.2.1 hXs hbl hbA hB.1.2.2.2 (q_in (by omega) (by omega) (by omega)) dL_law_1327 ?_
  rw [ea3]
  refine q_ald_n cx dL_law_1328 rfl (lv_at hl 6 rfl) ?_
  refine lv_iload cx.1 cx.2.1 dL_law_1329 (lv_at hl 1 rfl) ?_
  refine q_iconst cx dL_law_1331 ?_
  refine q_iadd cx dL_law_1332 ?_
  refine va_sld cx.1 cx.2.1 hXs hbl hbA hB.1.2.2.2 (q_in (by omega) (by omega) (by omega)) dL_law_1333 ?_
  rw [ea4]
  refine q_cVi (As := [.int (q_i a3), .int (q_i a4)]) (rest := []) cx hB (fun q h => hLA q h) hN hmo kmo (by decide) rfl (r_setBorn l g hN hB.2.1 mo hmo kmo a3 (by omega) (by omega) a4 (by omega) (by omega) sr hsr ksr as has kas pa hpa kpa x1 (by omega) (by omega) x2 (by omega) (by omega) xc (by omega) (by omega) z12 z13 z11 z31 z33 z35 g48 g50 g61) q_cL_233 q_dX12_setBorn ⟨by decide, by show cells + 2 ≤ 601024; omega, by show slots + 12 ≤ 7293034; omega⟩ rfl rfl hl.1 rfl (Nat.le_of_ble_eq_true rfl) dL_law_1334 (fun y63 H locs f62 ry63 h64 hF hB => ?_)
  obtain ⟨ly63, uy63, lz65, uz65, lz66, uz66, z67, g68, g69, g70⟩ := h64
  have z71 : q_is (q_z f62 so 1) tn := Eq.trans (hF.z hso (by rw [kso]; rfl)) z9
  have z72 : q_is (q_z f62 mo 2) tn := Eq.trans (hF.z hmo (by rw [kmo]; rfl)) z10
  have z73 : q_is (q_z f62 sr 0) xc := Eq.trans (hF.z hsr (by rw [ksr]; rfl)) z11
  have z74 : q_is (q_z f62 sr 3) x1 := Eq.trans (hF.z hsr (by rw [ksr]; rfl)) z12
  have z75 : q_is (q_z f62 sr 4) x2 := Eq.trans (hF.z hsr (by rw [ksr]; rfl)) z13
  have z76 : q_ir (q_r f62 x 0) so := Eq.trans (hF.r hx (by rw [kx]; rfl)) z14
  have z77 : q_ir (q_r f62 x 1) rd := Eq.trans (hF.r hx (by rw [kx]; rfl)) z15
  have z78 : q_ir (q_r f62 x 2) scr := Eq.trans (hF.r hx (by rw [kx]; rfl)) z16
  have z79 : q_ir (q_r f62 x 3) fc := Eq.trans (hF.r hx (by rw [kx]; rfl)) z17
  have z80 : q_ir (q_r f62 x 4) hist := Eq.trans (hF.r hx (by rw [kx]; rfl)) z18
  have z81 : q_ir (q_r f62 x 5) rep := Eq.trans (hF.r hx (by rw [kx]; rfl)) z19
  have z82 : q_ir (q_r f62 x 6) now := Eq.trans (hF.r hx (by rw [kx]; rfl)) z20
  have z83 : q_ir (q_r f62 x 7) dr := Eq.trans (hF.r hx (by rw [kx]; rfl)) z21
  have z84 : q_ir (q_r f62 x 8) sv := Eq.trans (hF.r hx (by rw [kx]; rfl)) z22
  have z85 : q_ir (q_r f62 fc 0) tr := Eq.trans (hF.r hfc (by rw [kfc]; rfl)) z23
  have z86 : q_ir (q_r f62 so 0) ba := Eq.trans (hF.r hso (by rw [kso]; rfl)) z24
  have z87 : q_ir (q_r f62 dr 0) nds := Eq.trans (hF.r hdr (by rw [kdr]; rfl)) z25
  have z88 : q_ir (q_r f62 hist 0) ka := Eq.trans (hF.r hhist (by rw [khist]; rfl)) z26
  have z89 : q_ir (q_r f62 now 0) ndn := Eq.trans (hF.r hnow (by rw [know]; rfl)) z27
  have z90 : q_ir (q_r f62 sv 0) nsv := Eq.trans (hF.r hsv (by rw [ksv]; rfl)) z28
  have z91 : q_ir (q_r f62 scr 0) cmds := Eq.trans (hF.r hscr (by rw [kscr]; rfl)) z29
  have z92 : q_ir (q_r f62 mo 1) bu := Eq.trans (hF.r hmo (by rw [kmo]; rfl)) z30
  have z93 : q_ir (q_r f62 mo 13) sr := Eq.trans (hF.r hmo (by rw [kmo]; rfl)) z31
  have z94 : q_ir (q_r f62 mo 14) sd := Eq.trans (hF.r hmo (by rw [kmo]; rfl)) z32
  have z95 : q_ir (q_r f62 mo 15) as := Eq.trans (hF.r hmo (by rw [kmo]; rfl)) z33
  have z96 : q_ir (q_r f62 mo 16) aw := Eq.trans (hF.r hmo (by rw [kmo]; rfl)) z34
  have z97 : q_ir (q_r f62 mo 17) pa := Eq.trans (hF.r hmo (by rw [kmo]; rfl)) z35
  have z98 : q_ir (q_r f62 mo 18) nm := Eq.trans (hF.r hmo (by rw [kmo]; rfl)) z36
  have z99 : q_ir (q_r f62 mo 19) snm := Eq.trans (hF.r hmo (by rw [kmo]; rfl)) z37
  have z100 : q_ir (q_r f62 mo 20) anm := Eq.trans (hF.r hmo (by rw [kmo]; rfl)) z38
  have z101 : q_ir (q_r f62 mo 24) hp := Eq.trans (hF.r hmo (by rw [kmo]; rfl)) z39
  have z102 : q_ir (q_r f62 mo 25) dy := Eq.trans (hF.r hmo (by rw [kmo]; rfl)) z40
  have z103 : q_ir (q_r f62 mo 29) cs := Eq.trans (hF.r hmo (by rw [kmo]; rfl)) z41
  have z104 : q_ir (q_r f62 mo 30) c1 := Eq.trans (hF.r hmo (by rw [kmo]; rfl)) z42
  have z105 : q_ir (q_r f62 mo 31) c2 := Eq.trans (hF.r hmo (by rw [kmo]; rfl)) z43
  have z106 : q_ir (q_r f62 mo 32) c3 := Eq.trans (hF.r hmo (by rw [kmo]; rfl)) z44
  have z107 : q_ir (q_r f62 mo 33) bg := Eq.trans (hF.r hmo (by rw [kmo]; rfl)) z45
  have z108 : q_ir (q_r f62 mo 34) lp := Eq.trans (hF.r hmo (by rw [kmo]; rfl)) z46
  have z109 : q_ir (q_r f62 mo 38) rp := Eq.trans (hF.r hmo (by rw [kmo]; rfl)) z47
  have g110 : q_z f62 x 9 = q_z f62 mo 22 := tk_s2_tr g49 (hF.z hx (by rw [kx]; rfl)) (hF.z hmo (by rw [kmo]; rfl))
  have g111 : q_sv f62 mo sd := q_sv_tr g51 (hF.z hmo (by rw [kmo]; rfl)) (fun i9 => hF.z hsd (by rw [ksd]; rfl))
  have g112 : tk_bb f62 bu ba tn := tk_bb_tr g52 (fun i9 => hF.z hbu (by rw [kbu]; rfl)) (fun i9 => hF.z hba (by rw [kba]; rfl))
  have g113 : tk_ij K L f62 nds := tk_ij_tr g53 (fun i9 => hF.r hnds (by rw [knds]; rfl))
  have g114 : tk_c3 K L f62 cmds := tk_c3_tr g54 (fun i9 => hF.r hcmds (by rw [kcmds]; rfl))
  have g115 : q_z f62 so 2 = q_z f62 mo 10 := tk_e2_tr g55 (hF.z hso (by rw [kso]; rfl)) (hF.z hmo (by rw [kmo]; rfl))
  have g116 : q_z f62 so 3 = q_z f62 mo 11 := tk_e2_tr g56 (hF.z hso (by rw [kso]; rfl)) (hF.z hmo (by rw [kmo]; rfl))
  have g117 : tk_vn K L 5 f62 now ndn nl9 := tk_vn_tr g57 (hF.z hnow (by rw [know]; rfl)) (fun a9 h9 k9 => hF.j h9 (by rw [k9]; rfl)) (fun i9 => hF.r hndn (by rw [kndn]; rfl))
  have g118 : tk_vs K L f62 x sv nsv ls9 := tk_vs_tr g58 (hF.z hx (by rw [kx]; rfl)) (hF.z hsv (by rw [ksv]; rfl)) (fun a9 h9 k9 => hF.j h9 (by rw [k9]; rfl)) (fun i9 => hF.r hnsv (by rw [knsv]; rfl))
  have g119 : tk_nq f62 nm nl9 := tk_nq_tr g59 (fun i9 => hF.j hnm (by rw [knm]; rfl))
  have g120 : tk_rs f62 mo sd snm ls9 := tk_rs_tr g60 (hF.z hmo (by rw [kmo]; rfl)) (fun i9 h9 k9 => hF.z hsd (by rw [ksd]; exact q_inWr rfl h9 k9)) (fun i9 => hF.j hsnm (by rw [ksnm]; rfl))
  have g121 : tk_vk K L f62 hist ka now ndn := tk_vk_tr g8 (hF.z hhist (by rw [khist]; rfl)) (hF.z hhist (by rw [khist]; rfl)) (hF.z hnow (by rw [know]; rfl)) (fun a9 h9 k9 => hF.j h9 (by rw [k9]; rfl)) (fun i9 => hF.r hndn (by rw [kndn]; rfl)) (fun a9 h9 k9 => hF.z h9 (by rw [k9]; rfl)) (fun a9 h9 k9 => hF.j h9 (by rw [k9]; rfl)) (fun i9 => hF.r hka (by rw [kka]; rfl)) (fun a9 h9 k9 => hF.r h9 (by rw [k9]; rfl)) (fun a9 h9 k9 i9 => hF.r h9 (by rw [k9]; rfl))
  obtain ⟨x122, ex122⟩ : ∃ zz, q_is (q_z f62 sr 3) zz := ⟨_, q_isr _⟩
  obtain ⟨lx122, ux122⟩ := q_isb ex122 ⟨lz65, uz65⟩
  obtain ⟨x123, ex123⟩ : ∃ zz, q_is (q_z f62 sr 4) zz := ⟨_, q_isr _⟩
  obtain ⟨lx123, ux123⟩ := q_isb ex123 ⟨lz66, uz66⟩
  refine lv_istore (lv' := [(7, .int (q_i y63)), (6, .int (q_i y6)), (5, .int (q_i ii)), (4, .ref outD), (3, .ref out), (2, .ref mo), (1, .ref x), (0, .ref b)]) cx.1 cx.2.1 dL_law_1337 hl (by decide) rfl (fun ls hl => ?_)
  refine lv_goto (tgt := 1493) cx.1 cx.2.1 dL_law_1339 (by decide) ?_
  refine W.widen (k := cells + 6) (n := slots + 36) (by omega) (by omega) ?_
  exact kk f62 H locs ls tn nl9 ls9 xc hB ⟨⟨z71, (Eq.trans z72 (by omega)), by omega, by omega⟩, g68, g69, g111, q_isu ex122 (by omega), q_isu ex123 (by omega), tk_bb_le g112 (by omega), z67, by omega, g117, g121, g118, g119, g120, g70, g110, g115, g116⟩ (lv_sub hl [2, 3, 4, 5, 6, 7] rfl)
