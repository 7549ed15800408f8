set_option maxHeartbeats 4000000 in
set_option maxRecDepth 100000 in
theorem law_c490 {p : Program} {l : Launch} {e : Env} {s : State} {m : MethodId} {below : List Frame} {meth : Method} {c : Code} {b N9 : Nat} {xs : Nat → Int32} (hfl : l.stackTraces = false) (hN9 : N9 ≤ 3072) (C0 : lw_At p s m meth c b N9 xs) (cx : CallFix p m c cL_law 10 s #[Value.ref b] q_al RL) {g : q_G} {ad : Nat → Nat} {K : Nat → Nat} {L : List Nat} (hN : L.Nodup) (hLA : ∀ q, q ∈ L → s.heap.size ≤ q) (hX : q_X ad (fun q => q ∈ L) s) {f0 : Nat → va_E} {x : Nat} (hx : x ∈ L) (kx : K x = 11) {so : Nat} (hso : so ∈ L) (kso : K so = 8) {rd : Nat} (hrd : rd ∈ L) (krd : K rd = 9) {scr : Nat} (hscr : scr ∈ L) (kscr : K scr = 7) {fc : Nat} (hfc : fc ∈ L) (kfc : K fc = 1) {hist : Nat} (hhist : hist ∈ L) (khist : K hist = 2) {rep : Nat} (hrep : rep ∈ L) (krep : K rep = 6) {now : Nat} (hnow : now ∈ L) (know : K now = 10) {dr : Nat} (hdr : dr ∈ L) (kdr : K dr = 13) {sv : Nat} (hsv : sv ∈ L) (ksv : K sv = 14) {tr : Nat} (htr : tr ∈ L) (ktr : K tr = 15) {ba : Nat} (hba : ba ∈ L) (kba : K ba = 142) {nds : Nat} (hnds : nds ∈ L) (knds : K nds = 111) {ka : Nat} (hka : ka ∈ L) (kka : K ka = 140) {ndn : Nat} (hndn : ndn ∈ L) (kndn : K ndn = 110) {nsv : Nat} (hnsv : nsv ∈ L) (knsv : K nsv = 112) {cmds : Nat} (hcmds : cmds ∈ L) (kcmds : K cmds = 141) {mo : Nat} (hmo : mo ∈ L) (kmo : K mo = 12) {bu : Nat} (hbu : bu ∈ L) (kbu : K bu = 150) {sr : Nat} (hsr : sr ∈ L) (ksr : K sr = 151) {sd : Nat} (hsd : sd ∈ L) (ksd : K sd = 152) {as : Nat} (has : as ∈ L) (kas : K as = 153) {aw : Nat} (haw : aw ∈ L) (kaw : K aw = 154) {pa : Nat} (hpa : pa ∈ L) (kpa : K pa = 155) {nm : Nat} (hnm : nm ∈ L) (knm : K nm = 156) {snm : Nat} (hsnm : snm ∈ L) (ksnm : K snm = 157) {anm : Nat} (hanm : anm ∈ L) (kanm : K anm = 158) {hp : Nat} (hhp : hp ∈ L) (khp : K hp = 159) {dy : Nat} (hdy : dy ∈ L) (kdy : K dy = 160) {cs : Nat} (hcs : cs ∈ L) (kcs : K cs = 161) {c1 : Nat} (hc1 : c1 ∈ L) (kc1 : K c1 = 162) {c2 : Nat} (hc2 : c2 ∈ L) (kc2 : K c2 = 163) {c3 : Nat} (hc3 : c3 ∈ L) (kc3 : K c3 = 164) {bg : Nat} (hbg : bg ∈ L) (kbg : K bg = 165) {lp : Nat} (hlp : lp ∈ L) (klp : K lp = 166) {rp : Nat} (hrp : rp ∈ L) (krp : K rp = 167) {out : Nat} (hout : out ∈ L) (kout : K out = 168) {outD : Nat} (houtD : outD ∈ L) (koutD : K outD = 169) (hr0 : q_ir (q_r f0 x 0) so) (hr1 : q_ir (q_r f0 x 1) rd) (hr2 : q_ir (q_r f0 x 2) scr) (hr3 : q_ir (q_r f0 x 3) fc) (hr4 : q_ir (q_r f0 x 4) hist) (hr5 : q_ir (q_r f0 x 5) rep) (hr6 : q_ir (q_r f0 x 6) now) (hr7 : q_ir (q_r f0 x 7) dr) (hr8 : q_ir (q_r f0 x 8) sv) (hr9 : q_ir (q_r f0 fc 0) tr) (hr10 : q_ir (q_r f0 so 0) ba) (hr11 : q_ir (q_r f0 dr 0) nds) (hr12 : q_ir (q_r f0 hist 0) ka) (hr13 : q_ir (q_r f0 now 0) ndn) (hr14 : q_ir (q_r f0 sv 0) nsv) (hr15 : q_ir (q_r f0 scr 0) cmds) (hr16 : q_ir (q_r f0 mo 1) bu) (hr17 : q_ir (q_r f0 mo 13) sr) (hr18 : q_ir (q_r f0 mo 14) sd) (hr19 : q_ir (q_r f0 mo 15) as) (hr20 : q_ir (q_r f0 mo 16) aw) (hr21 : q_ir (q_r f0 mo 17) pa) (hr22 : q_ir (q_r f0 mo 18) nm) (hr23 : q_ir (q_r f0 mo 19) snm) (hr24 : q_ir (q_r f0 mo 20) anm) (hr25 : q_ir (q_r f0 mo 24) hp) (hr26 : q_ir (q_r f0 mo 25) dy) (hr27 : q_ir (q_r f0 mo 29) cs) (hr28 : q_ir (q_r f0 mo 30) c1) (hr29 : q_ir (q_r f0 mo 31) c2) (hr30 : q_ir (q_r f0 mo 32) c3) (hr31 : q_ir (q_r f0 mo 33) bg) (hr32 : q_ir (q_r f0 mo 34) lp) (hr33 : q_ir (q_r f0 mo 38) rp) (hij : tk_ij K L f0 nds) (hcj : tk_c3 K L f0 cmds) {f : Nat → va_E} {H : Heap} {locs : List Loc} {ls : Array Slot} {cells slots : Nat} {ii tn : Int} {nl9 ls9 : List (List Int)} {xc : Int} (hB : q_B g K L (fun q => s.heap.size ≤ q) [(0, 0, 6), (2, 1, 2), (3, 0, 4), (4, 0, 7), (5, 0, 9), (6, 1, 1), (7, 1, 4), (8, 1, 9), (9, 0, 2), (10, 3, 15), (11, 9, 9), (12, 0, 0), (12, 2, 12), (12, 21, 23), (12, 26, 28), (12, 35, 37), (12, 39, 40), (13, 3, 15), (14, 3, 15), (15, 3, 15), (16, 3, 15), (17, 0, 9), (18, 0, 9), (19, 0, 9), (20, 0, 9), (21, 0, 4), (22, 0, 4), (23, 0, 4), (24, 0, 4), (25, 0, 7), (26, 0, 7), (27, 0, 7), (28, 0, 7), (142, 0, 599), (143, 0, 599), (150, 0, 599), (151, 0, 657), (152, 0, 657), (153, 0, 657), (154, 0, 657), (155, 0, 3947), (156, 0, 9), (157, 0, 9), (158, 0, 9), (159, 0, 9), (160, 0, 9), (161, 0, 59), (162, 0, 58), (163, 0, 58), (164, 0, 58), (165, 0, 1), (166, 0, 1), (167, 0, 479), (168, 0, 0), (169, 0, 0)] f0 f s H locs) (hI : q_Iv6 K L f x so mo sr pa sd bu ba now ndn hist ka sv nsv nm snm tn nl9 ls9 xc) (hl : lv_has ls 10 [(5, .int (q_i ii)), (4, .ref outD), (3, .ref out), (2, .ref mo), (1, .ref x), (0, .ref b)]) (hi0 : 0 ≤ ii) (hi6 : ii + 6 ≤ N9) (hce : cells + 6 ≤ 10000) (hse : slots + 36 ≤ 100000) (kk : ∀ (f1 : Nat → va_E) (H1 : Heap) (locs1 : List Loc) (ls1 : Array Slot) (tn1 : Int) (nl1 ls1_ : List (List Int)) (xc1 : Int), q_B g K L (fun q => s.heap.size ≤ q) [(0, 0, 6), (2, 1, 2), (3, 0, 4), (4, 0, 7), (5, 0, 9), (6, 1, 1), (7, 1, 4), (8, 1, 9), (9, 0, 2), (10, 3, 15), (11, 9, 9), (12, 0, 0), (12, 2, 12), (12, 21, 23), (12, 26, 28), (12, 35, 37), (12, 39, 40), (13, 3, 15), (14, 3, 15), (15, 3, 15), (16, 3, 15), (17, 0, 9), (18, 0, 9), (19, 0, 9), (20, 0, 9), (21, 0, 4), (22, 0, 4), (23, 0, 4), (24, 0, 4), (25, 0, 7), (26, 0, 7), (27, 0, 7), (28, 0, 7), (142, 0, 599), (143, 0, 599), (150, 0, 599), (151, 0, 657), (152, 0, 657), (153, 0, 657), (154, 0, 657), (155, 0, 3947), (156, 0, 9), (157, 0, 9), (158, 0, 9), (159, 0, 9), (160, 0, 9), (161, 0, 59), (162, 0, 58), (163, 0, 58), (164, 0, 58), (165, 0, 1), (166, 0, 1), (167, 0, 479), (168, 0, 0), (169, 0, 0)] f0 f1 s H1 locs1 → q_Iv6 K L f1 x so mo sr pa sd bu ba now ndn hist ka sv nsv nm snm tn1 nl1 ls1_ xc1 → lv_has ls1 10 [(5, .int (q_i ii)), (4, .ref outD), (3, .ref out), (2, .ref mo), (1, .ref x), (0, .ref b)] → W p l e room_1 s m #[Value.ref b] below meth c H1 locs1 (cells + 6) (slots + 36) (lw_Z below #[Value.ref b] s) (F0 m 1493 ls1 [])) : W p l e room_1 s m #[Value.ref b] below meth c H locs (cells) (slots) (lw_Z below #[Value.ref b] s) (F0 m 490 ls []) := by
  have hXs := C0.2.2.2.2.2.2.1
  have hbl := C0.2.2.2.2.2.2.2.1
  have hbA := q_bA hbl
  obtain ⟨⟨hn0, hn1, ltn, utn⟩, hgr, hpk, hsd9, ht3, ht4, hbb, hsr0, hxc, hvn, hvk, hvs, hrn9, hrs9, hpc, hs22, he2, he3⟩ := hI
  have lxc : 0 ≤ xc := by omega
  have uxc : xc ≤ 10 := by have h7 := hvn.2.1.2; omega
  have hr0 : q_ir (q_r f x 0) so := Eq.trans (hB.2.2.r hx (by rw [kx]; rfl)) hr0
  have hr1 : q_ir (q_r f x 1) rd := Eq.trans (hB.2.2.r hx (by rw [kx]; rfl)) hr1
  have hr2 : q_ir (q_r f x 2) scr := Eq.trans (hB.2.2.r hx (by rw [kx]; rfl)) hr2
  have hr3 : q_ir (q_r f x 3) fc := Eq.trans (hB.2.2.r hx (by rw [kx]; rfl)) hr3
  have hr4 : q_ir (q_r f x 4) hist := Eq.trans (hB.2.2.r hx (by rw [kx]; rfl)) hr4
  have hr5 : q_ir (q_r f x 5) rep := Eq.trans (hB.2.2.r hx (by rw [kx]; rfl)) hr5
  have hr6 : q_ir (q_r f x 6) now := Eq.trans (hB.2.2.r hx (by rw [kx]; rfl)) hr6
  have hr7 : q_ir (q_r f x 7) dr := Eq.trans (hB.2.2.r hx (by rw [kx]; rfl)) hr7
  have hr8 : q_ir (q_r f x 8) sv := Eq.trans (hB.2.2.r hx (by rw [kx]; rfl)) hr8
  have hr9 : q_ir (q_r f fc 0) tr := Eq.trans (hB.2.2.r hfc (by rw [kfc]; rfl)) hr9
  have hr10 : q_ir (q_r f so 0) ba := Eq.trans (hB.2.2.r hso (by rw [kso]; rfl)) hr10
  have hr11 : q_ir (q_r f dr 0) nds := Eq.trans (hB.2.2.r hdr (by rw [kdr]; rfl)) hr11
  have hr12 : q_ir (q_r f hist 0) ka := Eq.trans (hB.2.2.r hhist (by rw [khist]; rfl)) hr12
  have hr13 : q_ir (q_r f now 0) ndn := Eq.trans (hB.2.2.r hnow (by rw [know]; rfl)) hr13
  have hr14 : q_ir (q_r f sv 0) nsv := Eq.trans (hB.2.2.r hsv (by rw [ksv]; rfl)) hr14
  have hr15 : q_ir (q_r f scr 0) cmds := Eq.trans (hB.2.2.r hscr (by rw [kscr]; rfl)) hr15
  have hr16 : q_ir (q_r f mo 1) bu := Eq.trans (hB.2.2.r hmo (by rw [kmo]; rfl)) hr16
  have hr17 : q_ir (q_r f mo 13) sr := Eq.trans (hB.2.2.r hmo (by rw [kmo]; rfl)) hr17
  have hr18 : q_ir (q_r f mo 14) sd := Eq.trans (hB.2.2.r hmo (by rw [kmo]; rfl)) hr18
  have hr19 : q_ir (q_r f mo 15) as := Eq.trans (hB.2.2.r hmo (by rw [kmo]; rfl)) hr19
  have hr20 : q_ir (q_r f mo 16) aw := Eq.trans (hB.2.2.r hmo (by rw [kmo]; rfl)) hr20
  have hr21 : q_ir (q_r f mo 17) pa := Eq.trans (hB.2.2.r hmo (by rw [kmo]; rfl)) hr21
  have hr22 : q_ir (q_r f mo 18) nm := Eq.trans (hB.2.2.r hmo (by rw [kmo]; rfl)) hr22
  have hr23 : q_ir (q_r f mo 19) snm := Eq.trans (hB.2.2.r hmo (by rw [kmo]; rfl)) hr23
  have hr24 : q_ir (q_r f mo 20) anm := Eq.trans (hB.2.2.r hmo (by rw [kmo]; rfl)) hr24
  have hr25 : q_ir (q_r f mo 24) hp := Eq.trans (hB.2.2.r hmo (by rw [kmo]; rfl)) hr25
  have hr26 : q_ir (q_r f mo 25) dy := Eq.trans (hB.2.2.r hmo (by rw [kmo]; rfl)) hr26
  have hr27 : q_ir (q_r f mo 29) cs := Eq.trans (hB.2.2.r hmo (by rw [kmo]; rfl)) hr27
  have hr28 : q_ir (q_r f mo 30) c1 := Eq.trans (hB.2.2.r hmo (by rw [kmo]; rfl)) hr28
  have hr29 : q_ir (q_r f mo 31) c2 := Eq.trans (hB.2.2.r hmo (by rw [kmo]; rfl)) hr29
  have hr30 : q_ir (q_r f mo 32) c3 := Eq.trans (hB.2.2.r hmo (by rw [kmo]; rfl)) hr30
  have hr31 : q_ir (q_r f mo 33) bg := Eq.trans (hB.2.2.r hmo (by rw [kmo]; rfl)) hr31
  have hr32 : q_ir (q_r f mo 34) lp := Eq.trans (hB.2.2.r hmo (by rw [kmo]; rfl)) hr32
  have hr33 : q_ir (q_r f mo 38) rp := Eq.trans (hB.2.2.r hmo (by rw [kmo]; rfl)) hr33
  have hij : tk_ij K L f nds := tk_ij_tr hij (fun i9 => hB.2.2.r hnds (by rw [knds]; rfl))
  have hcj : tk_c3 K L f cmds := tk_c3_tr hcj (fun i9 => hB.2.2.r hcmds (by rw [kcmds]; rfl))
  obtain ⟨x1, ex1⟩ : ∃ zz, q_is (q_z f sr 3) zz := ⟨_, q_isr _⟩
  obtain ⟨lx1, ux1⟩ : 0 ≤ x1 ∧ x1 ≤ 9999 := q_isb ex1 ⟨(hgr 3 (by decide)).1, ht3⟩
  obtain ⟨x2, ex2⟩ : ∃ zz, q_is (q_z f sr 4) zz := ⟨_, q_isr _⟩
  obtain ⟨lx2, ux2⟩ : 0 ≤ x2 ∧ x2 ≤ 60 := q_isb ex2 ⟨(hgr 4 (by decide)).1, ht4⟩
  refine q_ald_n cx dL_law_490 rfl (lv_at hl 4 rfl) ?_
  refine q_ald_n cx dL_law_491 rfl (lv_at hl 5 rfl) ?_
  refine lv_iload cx.1 cx.2.1 dL_law_492 (lv_at hl 0 rfl) ?_
  refine q_iconst cx dL_law_494 ?_
  refine q_iadd cx dL_law_495 ?_
  refine va_sld cx.1 cx.2.1 hXs hbl hbA hB.1.2.2.2 (q_in (by omega) (by omega) (by omega)) dL_law_496 ?_
  obtain ⟨a3, ra3, ea3⟩ : ∃ z : Int, q_R z ∧ xs (q_i (ii + 1)).toNatClampNeg = q_i z := ⟨_, q_rng _, (q_of _).symm⟩
  rw [ea3]
  refine q_ald_n cx dL_law_497 rfl (lv_at hl 5 rfl) ?_
  refine lv_iload cx.1 cx.2.1 dL_law_498 (lv_at hl 0 rfl) ?_
  refine q_iconst cx dL_law_500 ?_
  refine q_iadd cx dL_law_501 ?_
  refine va_sld cx.1 cx.2.1 hXs hbl hbA hB.1.2.2.2 (q_in (by omega) (by omega) (by omega)) dL_law_502 ?_
  obtain ⟨a4, ra4, ea4⟩ : ∃ z : Int, q_R z ∧ xs (q_i (ii + 2)).toNatClampNeg = q_i z := ⟨_, q_rng _, (q_of _).symm⟩
  rw [ea4]
  refine q_ald_n cx dL_law_503 rfl (lv_at hl 2 rfl) ?_
  refine q_cWS (As := [.ref x, .int (q_i a3), .int (q_i a4), .ref out]) (rest := []) cx hX hB (fun q h => hLA q h) (fun q h1 h2 => absurd h1 (Nat.not_le_of_lt h2)) hN (w_message l g ad hN hB.2.1 hfl x hx kx a3 (by omega) (by omega) a4 (by omega) (by omega) out hout kout so hso kso rd hrd krd scr hscr kscr fc hfc kfc hist hhist khist rep hrep krep now hnow know dr hdr kdr sv hsv ksv tr htr ktr hr0 hr1 hr2 hr3 hr4 hr5 hr6 hr7 hr8 hr9) q_cL_153 q_dL_message ⟨by decide, by show cells + 2 ≤ 601024; omega, by show slots + 12 ≤ 7293034; omega⟩ rfl rfl hl.1 rfl (Nat.le_of_ble_eq_true rfl) dL_law_504 (fun v9 H locs f5 h7 hF hB => ?_)
  obtain ⟨y6, rfl, ry6, h7⟩ := h7
  refine W.eq (g2 := F0 m 507 ls [.int (q_i y6)]) rfl ?_
  obtain ⟨ly6, uy6⟩ := h7
  have z8 : q_is (q_z f5 so 1) tn := Eq.trans (hF.z hso (by rw [kso]; rfl)) hn0
  have z9 : q_is (q_z f5 mo 2) tn := Eq.trans (hF.z hmo (by rw [kmo]; rfl)) hn1
  have z10 : q_is (q_z f5 sr 0) xc := Eq.trans (hF.z hsr (by rw [ksr]; rfl)) hsr0
  have z11 : q_is (q_z f5 sr 3) x1 := Eq.trans (hF.z hsr (by rw [ksr]; rfl)) ex1
  have z12 : q_is (q_z f5 sr 4) x2 := Eq.trans (hF.z hsr (by rw [ksr]; rfl)) ex2
  have z13 : q_ir (q_r f5 x 0) so := Eq.trans (hF.r hx (by rw [kx]; rfl)) hr0
  have z14 : q_ir (q_r f5 x 1) rd := Eq.trans (hF.r hx (by rw [kx]; rfl)) hr1
  have z15 : q_ir (q_r f5 x 2) scr := Eq.trans (hF.r hx (by rw [kx]; rfl)) hr2
  have z16 : q_ir (q_r f5 x 3) fc := Eq.trans (hF.r hx (by rw [kx]; rfl)) hr3
  have z17 : q_ir (q_r f5 x 4) hist := Eq.trans (hF.r hx (by rw [kx]; rfl)) hr4
  have z18 : q_ir (q_r f5 x 5) rep := Eq.trans (hF.r hx (by rw [kx]; rfl)) hr5
  have z19 : q_ir (q_r f5 x 6) now := Eq.trans (hF.r hx (by rw [kx]; rfl)) hr6
  have z20 : q_ir (q_r f5 x 7) dr := Eq.trans (hF.r hx (by rw [kx]; rfl)) hr7
  have z21 : q_ir (q_r f5 x 8) sv := Eq.trans (hF.r hx (by rw [kx]; rfl)) hr8
  have z22 : q_ir (q_r f5 fc 0) tr := Eq.trans (hF.r hfc (by rw [kfc]; rfl)) hr9
  have z23 : q_ir (q_r f5 so 0) ba := Eq.trans (hF.r hso (by rw [kso]; rfl)) hr10
  have z24 : q_ir (q_r f5 dr 0) nds := Eq.trans (hF.r hdr (by rw [kdr]; rfl)) hr11
  have z25 : q_ir (q_r f5 hist 0) ka := Eq.trans (hF.r hhist (by rw [khist]; rfl)) hr12
  have z26 : q_ir (q_r f5 now 0) ndn := Eq.trans (hF.r hnow (by rw [know]; rfl)) hr13
  have z27 : q_ir (q_r f5 sv 0) nsv := Eq.trans (hF.r hsv (by rw [ksv]; rfl)) hr14
  have z28 : q_ir (q_r f5 scr 0) cmds := Eq.trans (hF.r hscr (by rw [kscr]; rfl)) hr15
  have z29 : q_ir (q_r f5 mo 1) bu := Eq.trans (hF.r hmo (by rw [kmo]; rfl)) hr16
  have z30 : q_ir (q_r f5 mo 13) sr := Eq.trans (hF.r hmo (by rw [kmo]; rfl)) hr17
  have z31 : q_ir (q_r f5 mo 14) sd := Eq.trans (hF.r hmo (by rw [kmo]; rfl)) hr18
  have z32 : q_ir (q_r f5 mo 15) as := Eq.trans (hF.r hmo (by rw [kmo]; rfl)) hr19
  have z33 : q_ir (q_r f5 mo 16) aw := Eq.trans (hF.r hmo (by rw [kmo]; rfl)) hr20
  have z34 : q_ir (q_r f5 mo 17) pa := Eq.trans (hF.r hmo (by rw [kmo]; rfl)) hr21
  have z35 : q_ir (q_r f5 mo 18) nm := Eq.trans (hF.r hmo (by rw [kmo]; rfl)) hr22
  have z36 : q_ir (q_r f5 mo 19) snm := Eq.trans (hF.r hmo (by rw [kmo]; rfl)) hr23
  have z37 : q_ir (q_r f5 mo 20) anm := Eq.trans (hF.r hmo (by rw [kmo]; rfl)) hr24
  have z38 : q_ir (q_r f5 mo 24) hp := Eq.trans (hF.r hmo (by rw [kmo]; rfl)) hr25
  have z39 : q_ir (q_r f5 mo 25) dy := Eq.trans (hF.r hmo (by rw [kmo]; rfl)) hr26
  have z40 : q_ir (q_r f5 mo 29) cs := Eq.trans (hF.r hmo (by rw [kmo]; rfl)) hr27
  have z41 : q_ir (q_r f5 mo 30) c1 := Eq.trans (hF.r hmo (by rw [kmo]; rfl)) hr28
  have z42 : q_ir (q_r f5 mo 31) c2 := Eq.trans (hF.r hmo (by rw [kmo]; rfl)) hr29
  have z43 : q_ir (q_r f5 mo 32) c3 := Eq.trans (hF.r hmo (by rw [kmo]; rfl)) hr30
  have z44 : q_ir (q_r f5 mo 33) bg := Eq.trans (hF.r hmo (by rw [kmo]; rfl)) hr31
  have z45 : q_ir (q_r f5 mo 34) lp := Eq.trans (hF.r hmo (by rw [kmo]; rfl)) hr32
  have z46 : q_ir (q_r f5 mo 38) rp := Eq.trans (hF.r hmo (by rw [kmo]; rfl)) hr33
  have g47 : q_gr f5 sr := q_gr_fr hgr (fun i9 _ => hF.z hsr (by rw [ksr]; rfl))
  have g48 : q_z f5 x 9 = q_z f5 mo 22 := tk_s2_tr hs22 (hF.z hx (by rw [kx]; rfl)) (hF.z hmo (by rw [kmo]; rfl))
  have g49 : q_pk f5 mo pa := q_pk_tr hpk (hF.z hmo (by rw [kmo]; rfl)) (fun i9 => hF.z hpa (by rw [kpa]; rfl))
  have g50 : q_sv f5 mo sd := q_sv_tr hsd9 (hF.z hmo (by rw [kmo]; rfl)) (fun i9 => hF.z hsd (by rw [ksd]; rfl))
  have g51 : tk_bb f5 bu ba tn := tk_bb_tr hbb (fun i9 => hF.z hbu (by rw [kbu]; rfl)) (fun i9 => hF.z hba (by rw [kba]; rfl))
  have g52 : tk_ij K L f5 nds := tk_ij_tr hij (fun i9 => hF.r hnds (by rw [knds]; rfl))
  have g53 : tk_c3 K L f5 cmds := tk_c3_tr hcj (fun i9 => hF.r hcmds (by rw [kcmds]; rfl))
  have g54 : q_z f5 so 2 = q_z f5 mo 10 := tk_e2_tr he2 (hF.z hso (by rw [kso]; rfl)) (hF.z hmo (by rw [kmo]; rfl))
  have g55 : q_z f5 so 3 = q_z f5 mo 11 := tk_e2_tr he3 (hF.z hso (by rw [kso]; rfl)) (hF.z hmo (by rw [kmo]; rfl))
  have g56 : tk_vn K L 5 f5 now ndn nl9 := tk_vn_tr hvn (hF.z hnow (by rw [know]; rfl)) (fun a9 h9 k9 => hF.j h9 (by rw [k9]; rfl)) (fun i9 => hF.r hndn (by rw [kndn]; rfl))
  have g57 : tk_vk K L f5 hist ka now ndn := tk_vk_tr hvk (hF.z hhist (by rw [khist]; rfl)) (hF.z hhist (by rw [khist]; rfl)) (hF.z hnow (by rw [know]; rfl)) (fun a9 h9 k9 => hF.j h9 (by rw [k9]; rfl)) (fun i9 => hF.r hndn (by rw [kndn]; rfl)) (fun a9 h9 k9 => hF.z h9 (by rw [k9]; rfl)) (fun a9 h9 k9 => hF.j h9 (by rw [k9]; rfl)) (fun i9 => hF.r hka (by rw [kka]; rfl)) (fun a9 h9 k9 => hF.r h9 (by rw [k9]; rfl)) (fun a9 h9 k9 i9 => hF.r h9 (by rw [k9]; rfl))
  have g58 : tk_vs K L f5 x sv nsv ls9 := tk_vs_tr hvs (hF.z hx (by rw [kx]; rfl)) (hF.z hsv (by rw [ksv]; rfl)) (fun a9 h9 k9 => hF.j h9 (by rw [k9]; rfl)) (fun i9 => hF.r hnsv (by rw [knsv]; rfl))
  have g59 : tk_nq f5 nm nl9 := tk_nq_tr hrn9 (fun i9 => hF.j hnm (by rw [knm]; rfl))
  have g60 : tk_rs f5 mo sd snm ls9 := tk_rs_tr hrs9 (hF.z hmo (by rw [kmo]; rfl)) (fun i9 h9 k9 => hF.z hsd (by rw [ksd]; exact q_inWr rfl h9 k9)) (fun i9 => hF.j hsnm (by rw [ksnm]; rfl))
  have g61 : q_pc f5 mo pa xc := q_pc_tr hpc (hF.z hmo (by rw [kmo]; rfl)) (fun i9 => hF.z hpa (by rw [kpa]; rfl))
  refine lv_istore (lv' := [(6, .int (q_i y6)), (5, .int (q_i ii)), (4, .ref outD), (3, .ref out), (2, .ref mo), (1, .ref x), (0, .ref b)]) cx.1 cx.2.1 dL_law_507 hl (by decide) rfl (fun ls hl => ?_)
  refine q_ald_n cx dL_law_509 rfl (lv_at hl 4 rfl) ?_
  refine q_ald_n cx dL_law_510 rfl (lv_at hl 6 rfl) ?_
  refine lv_iload cx.1 cx.2.1 dL_law_511 (lv_at hl 1 rfl) ?_
  refine q_iconst cx dL_law_513 ?_
  refine q_iadd cx dL_law_514 ?_
  refine va_sld cx.1 cx.2.1 hXs hbl hbA hB.1.2.2.2 (q_in (by omega) (by omega) (by omega)) dL_law_515 ?_
  rw [ea3]
  refine q_ald_n cx dL_law_516 rfl (lv_at hl 6 rfl) ?_
  refine lv_iload cx.1 cx.2.1 dL_law_517 (lv_at hl 1 rfl) ?_
  refine q_iconst cx dL_law_519 ?_
  refine q_iadd cx dL_law_520 ?_
  refine va_sld cx.1 cx.2.1 hXs hbl hbA hB.1.2.2.2 (q_in (by omega) (by omega) (by omega)) dL_law_521 ?_
  rw [ea4]
  refine q_cVi (As := [.int (q_i a3), .int (q_i a4)]) (rest := []) cx hB (fun q h => hLA q h) hN hmo kmo (by decide) rfl (r_message l g hN hB.2.1 mo hmo kmo a3 (by omega) (by omega) a4 (by omega) (by omega) sr hsr ksr x1 (by omega) (by omega) x2 (by omega) (by omega) xc (by omega) (by omega) z11 z12 z10 z30 g47) q_cL_155 q_dX12_message ⟨by decide, by show cells + 2 ≤ 601024; omega, by show slots + 12 ≤ 7293034; omega⟩ rfl rfl hl.1 rfl (Nat.le_of_ble_eq_true rfl) dL_law_522 (fun y63 H locs f62 ry63 h64 hF hB => ?_)
  have z65 : q_is (q_z f62 so 1) tn := Eq.trans (hF.z hso (by rw [kso]; rfl)) z8
  have z66 : q_is (q_z f62 mo 2) tn := Eq.trans (hF.z hmo (by rw [kmo]; rfl)) z9
  have z67 : q_is (q_z f62 sr 0) xc := Eq.trans (hF.z hsr (by rw [ksr]; rfl)) z10
  have z68 : q_is (q_z f62 sr 3) x1 := Eq.trans (hF.z hsr (by rw [ksr]; rfl)) z11
  have z69 : q_is (q_z f62 sr 4) x2 := Eq.trans (hF.z hsr (by rw [ksr]; rfl)) z12
  have z70 : q_ir (q_r f62 x 0) so := Eq.trans (hF.r hx (by rw [kx]; rfl)) z13
  have z71 : q_ir (q_r f62 x 1) rd := Eq.trans (hF.r hx (by rw [kx]; rfl)) z14
  have z72 : q_ir (q_r f62 x 2) scr := Eq.trans (hF.r hx (by rw [kx]; rfl)) z15
  have z73 : q_ir (q_r f62 x 3) fc := Eq.trans (hF.r hx (by rw [kx]; rfl)) z16
  have z74 : q_ir (q_r f62 x 4) hist := Eq.trans (hF.r hx (by rw [kx]; rfl)) z17
  have z75 : q_ir (q_r f62 x 5) rep := Eq.trans (hF.r hx (by rw [kx]; rfl)) z18
  have z76 : q_ir (q_r f62 x 6) now := Eq.trans (hF.r hx (by rw [kx]; rfl)) z19
  have z77 : q_ir (q_r f62 x 7) dr := Eq.trans (hF.r hx (by rw [kx]; rfl)) z20
  have z78 : q_ir (q_r f62 x 8) sv := Eq.trans (hF.r hx (by rw [kx]; rfl)) z21
  have z79 : q_ir (q_r f62 fc 0) tr := Eq.trans (hF.r hfc (by rw [kfc]; rfl)) z22
  have z80 : q_ir (q_r f62 so 0) ba := Eq.trans (hF.r hso (by rw [kso]; rfl)) z23
  have z81 : q_ir (q_r f62 dr 0) nds := Eq.trans (hF.r hdr (by rw [kdr]; rfl)) z24
  have z82 : q_ir (q_r f62 hist 0) ka := Eq.trans (hF.r hhist (by rw [khist]; rfl)) z25
  have z83 : q_ir (q_r f62 now 0) ndn := Eq.trans (hF.r hnow (by rw [know]; rfl)) z26
  have z84 : q_ir (q_r f62 sv 0) nsv := Eq.trans (hF.r hsv (by rw [ksv]; rfl)) z27
  have z85 : q_ir (q_r f62 scr 0) cmds := Eq.trans (hF.r hscr (by rw [kscr]; rfl)) z28
  have z86 : q_ir (q_r f62 mo 1) bu := Eq.trans (hF.r hmo (by rw [kmo]; rfl)) z29
  have z87 : q_ir (q_r f62 mo 13) sr := Eq.trans (hF.r hmo (by rw [kmo]; rfl)) z30
  have z88 : q_ir (q_r f62 mo 14) sd := Eq.trans (hF.r hmo (by rw [kmo]; rfl)) z31
  have z89 : q_ir (q_r f62 mo 15) as := Eq.trans (hF.r hmo (by rw [kmo]; rfl)) z32
  have z90 : q_ir (q_r f62 mo 16) aw := Eq.trans (hF.r hmo (by rw [kmo]; rfl)) z33
  have z91 : q_ir (q_r f62 mo 17) pa := Eq.trans (hF.r hmo (by rw [kmo]; rfl)) z34
  have z92 : q_ir (q_r f62 mo 18) nm := Eq.trans (hF.r hmo (by rw [kmo]; rfl)) z35
  have z93 : q_ir (q_r f62 mo 19) snm := Eq.trans (hF.r hmo (by rw [kmo]; rfl)) z36
  have z94 : q_ir (q_r f62 mo 20) anm := Eq.trans (hF.r hmo (by rw [kmo]; rfl)) z37
  have z95 : q_ir (q_r f62 mo 24) hp := Eq.trans (hF.r hmo (by rw [kmo]; rfl)) z38
  have z96 : q_ir (q_r f62 mo 25) dy := Eq.trans (hF.r hmo (by rw [kmo]; rfl)) z39
  have z97 : q_ir (q_r f62 mo 29) cs := Eq.trans (hF.r hmo (by rw [kmo]; rfl)) z40
  have z98 : q_ir (q_r f62 mo 30) c1 := Eq.trans (hF.r hmo (by rw [kmo]; rfl)) z41
  have z99 : q_ir (q_r f62 mo 31) c2 := Eq.trans (hF.r hmo (by rw [kmo]; rfl)) z42
  have z100 : q_ir (q_r f62 mo 32) c3 := Eq.trans (hF.r hmo (by rw [kmo]; rfl)) z43
  have z101 : q_ir (q_r f62 mo 33) bg := Eq.trans (hF.r hmo (by rw [kmo]; rfl)) z44
  have z102 : q_ir (q_r f62 mo 34) lp := Eq.trans (hF.r hmo (by rw [kmo]; rfl)) z45
  have z103 : q_ir (q_r f62 mo 38) rp := Eq.trans (hF.r hmo (by rw [kmo]; rfl)) z46
  have g104 : q_gr f62 sr := q_gr_fr g47 (fun i9 _ => hF.z hsr (by rw [ksr]; rfl))
  have g105 : q_z f62 x 9 = q_z f62 mo 22 := tk_s2_tr g48 (hF.z hx (by rw [kx]; rfl)) (hF.z hmo (by rw [kmo]; rfl))
  have g106 : q_pk f62 mo pa := q_pk_tr g49 (hF.z hmo (by rw [kmo]; rfl)) (fun i9 => hF.z hpa (by rw [kpa]; rfl))
  have g107 : q_sv f62 mo sd := q_sv_tr g50 (hF.z hmo (by rw [kmo]; rfl)) (fun i9 => hF.z hsd (by rw [ksd]; rfl))
  have g108 : tk_bb f62 bu ba tn := tk_bb_tr g51 (fun i9 => hF.z hbu (by rw [kbu]; rfl)) (fun i9 => hF.z hba (by rw [kba]; rfl))
  have g109 : tk_ij K L f62 nds := tk_ij_tr g52 (fun i9 => hF.r hnds (by rw [knds]; rfl))
  have g110 : tk_c3 K L f62 cmds := tk_c3_tr g53 (fun i9 => hF.r hcmds (by rw [kcmds]; rfl))
  have g111 : q_z f62 so 2 = q_z f62 mo 10 := tk_e2_tr g54 (hF.z hso (by rw [kso]; rfl)) (hF.z hmo (by rw [kmo]; rfl))
  have g112 : q_z f62 so 3 = q_z f62 mo 11 := tk_e2_tr g55 (hF.z hso (by rw [kso]; rfl)) (hF.z hmo (by rw [kmo]; rfl))
  have g113 : tk_vn K L 5 f62 now ndn nl9 := tk_vn_tr g56 (hF.z hnow (by rw [know]; rfl)) (fun a9 h9 k9 => hF.j h9 (by rw [k9]; rfl)) (fun i9 => hF.r hndn (by rw [kndn]; rfl))
  have g114 : tk_vk K L f62 hist ka now ndn := tk_vk_tr g57 (hF.z hhist (by rw [khist]; rfl)) (hF.z hhist (by rw [khist]; rfl)) (hF.z hnow (by rw [know]; rfl)) (fun a9 h9 k9 => hF.j h9 (by rw [k9]; rfl)) (fun i9 => hF.r hndn (by rw [kndn]; rfl)) (fun a9 h9 k9 => hF.z h9 (by rw [k9]; rfl)) (fun a9 h9 k9 => hF.j h9 (by rw [k9]; rfl)) (fun i9 => hF.r hka (by rw [kka]; rfl)) (fun a9 h9 k9 => hF.r h9 (by rw [k9]; rfl)) (fun a9 h9 k9 i9 => hF.r h9 (by rw [k9]; rfl))
  have g115 : tk_vs K L f62 x sv nsv ls9 := tk_vs_tr g58 (hF.z hx (by rw [kx]; rfl)) (hF.z hsv (by rw [ksv]; rfl)) (fun a9 h9 k9 => hF.j h9 (by rw [k9]; rfl)) (fun i9 => hF.r hnsv (by rw [knsv]; rfl))
  have g116 : tk_nq f62 nm nl9 := tk_nq_tr g59 (fun i9 => hF.j hnm (by rw [knm]; rfl))
  have g117 : tk_rs f62 mo sd snm ls9 := tk_rs_tr g60 (hF.z hmo (by rw [kmo]; rfl)) (fun i9 h9 k9 => hF.z hsd (by rw [ksd]; exact q_inWr rfl h9 k9)) (fun i9 => hF.j hsnm (by rw [ksnm]; rfl))
  have g118 : q_pc f62 mo pa xc := q_pc_tr g61 (hF.z hmo (by rw [kmo]; rfl)) (fun i9 => hF.z hpa (by rw [kpa]; rfl))
  refine lv_istore (lv' := [(7, .int (q_i y63)), (6, .int (q_i y6)), (5, .int (q_i ii)), (4, .ref outD), (3, .ref out), (2, .ref mo), (1, .ref x), (0, .ref b)]) cx.1 cx.2.1 dL_law_525 hl (by decide) rfl (fun ls hl => ?_)
  refine lv_goto (tgt := 1493) cx.1 cx.2.1 dL_law_527 (by decide) ?_
  refine W.widen (k := cells + 6) (n := slots + 36) (by omega) (by omega) ?_
  exact kk f62 H locs ls tn nl9 ls9 xc hB ⟨⟨z65, (Eq.trans z66 (by omega)), by omega, by omega⟩, g104, g106, g107, q_isu z68 (by omega), q_isu z69 (by omega), tk_bb_le g108 (by omega), z67, by omega, g113, g114, g115, g116, g117, g118, g105, g111, g112⟩ (lv_sub hl [2, 3, 4, 5, 6, 7] rfl)
set_option maxHeartbeats 4000000 in
set_option maxRecDepth 100000 in
theorem law_c530 {p : Program} {l : Launch} {e : Env} {s : State} {m : MethodId} {below : List Frame} {meth : Method} {c : Code} {b N9 : Nat} {xs : Nat → Int32} (hfl : l.stackTraces = false) (hN9 : N9 ≤ 3072) (C0 : lw_At p s m meth c b N9 xs) (cx : CallFix p m c cL_law 10 s #[Value.ref b] q_al RL) {g : q_G} {ad : Nat → Nat} {K : Nat → Nat} {L : List Nat} (hN : L.Nodup) (hLA : ∀ q, q ∈ L → s.heap.size ≤ q) (hX : q_X ad (fun q => q ∈ L) s) {f0 : Nat → va_E} {x : Nat} (hx : x ∈ L) (kx : K x = 11) {so : Nat} (hso : so ∈ L) (kso : K so = 8) {rd : Nat} (hrd : rd ∈ L) (krd : K rd = 9) {scr : Nat} (hscr : scr ∈ L) (kscr : K scr = 7) {fc : Nat} (hfc : fc ∈ L) (kfc : K fc = 1) {hist : Nat} (hhist : hist ∈ L) (khist : K hist = 2) {rep : Nat} (hrep : rep ∈ L) (krep : K rep = 6) {now : Nat} (hnow : now ∈ L) (know : K now = 10) {dr : Nat} (hdr : dr ∈ L) (kdr : K dr = 13) {sv : Nat} (hsv : sv ∈ L) (ksv : K sv = 14) {tr : Nat} (htr : tr ∈ L) (ktr : K tr = 15) {ba : Nat} (hba : ba ∈ L) (kba : K ba = 142) {nds : Nat} (hnds : nds ∈ L) (knds : K nds = 111) {ka : Nat} (hka : ka ∈ L) (kka : K ka = 140) {ndn : Nat} (hndn : ndn ∈ L) (kndn : K ndn = 110) {nsv : Nat} (hnsv : nsv ∈ L) (knsv : K nsv = 112) {cmds : Nat} (hcmds : cmds ∈ L) (kcmds : K cmds = 141) {mo : Nat} (hmo : mo ∈ L) (kmo : K mo = 12) {bu : Nat} (hbu : bu ∈ L) (kbu : K bu = 150) {sr : Nat} (hsr : sr ∈ L) (ksr : K sr = 151) {sd : Nat} (hsd : sd ∈ L) (ksd : K sd = 152) {as : Nat} (has : as ∈ L) (kas : K as = 153) {aw : Nat} (haw : aw ∈ L) (kaw : K aw = 154) {pa : Nat} (hpa : pa ∈ L) (kpa : K pa = 155) {nm : Nat} (hnm : nm ∈ L) (knm : K nm = 156) {snm : Nat} (hsnm : snm ∈ L) (ksnm : K snm = 157) {anm : Nat} (hanm : anm ∈ L) (kanm : K anm = 158) {hp : Nat} (hhp : hp ∈ L) (khp : K hp = 159) {dy : Nat} (hdy : dy ∈ L) (kdy : K dy = 160) {cs : Nat} (hcs : cs ∈ L) (kcs : K cs = 161) {c1 : Nat} (hc1 : c1 ∈ L) (kc1 : K c1 = 162) {c2 : Nat} (hc2 : c2 ∈ L) (kc2 : K c2 = 163) {c3 : Nat} (hc3 : c3 ∈ L) (kc3 : K c3 = 164) {bg : Nat} (hbg : bg ∈ L) (kbg : K bg = 165) {lp : Nat} (hlp : lp ∈ L) (klp : K lp = 166) {rp : Nat} (hrp : rp ∈ L) (krp : K rp = 167) {out : Nat} (hout : out ∈ L) (kout : K out = 168) {outD : Nat} (houtD : outD ∈ L) (koutD : K outD = 169) (hr0 : q_ir (q_r f0 x 0) so) (hr1 : q_ir (q_r f0 x 1) rd) (hr2 : q_ir (q_r f0 x 2) scr) (hr3 : q_ir (q_r f0 x 3) fc) (hr4 : q_ir (q_r f0 x 4) hist) (hr5 : q_ir (q_r f0 x 5) rep) (hr6 : q_ir (q_r f0 x 6) now) (hr7 : q_ir (q_r f0 x 7) dr) (hr8 : q_ir (q_r f0 x 8) sv) (hr9 : q_ir (q_r f0 fc 0) tr) (hr10 : q_ir (q_r f0 so 0) ba) (hr11 : q_ir (q_r f0 dr 0) nds) (hr12 : q_ir (q_r f0 hist 0) ka) (hr13 : q_ir (q_r f0 now 0) ndn) (hr14 : q_ir (q_r f0 sv 0) nsv) (hr15 : q_ir (q_r f0 scr 0) cmds) (hr16 : q_ir (q_r f0 mo 1) bu) (hr17 : q_ir (q_r f0 mo 13) sr) (hr18 : q_ir (q_r f0 mo 14) sd) (hr19 : q_ir (q_r f0 mo 15) as) (hr20 : q_ir (q_r f0 mo 16) aw) (hr21 : q_ir (q_r f0 mo 17) pa) (hr22 : q_ir (q_r f0 mo 18) nm) (hr23 : q_ir (q_r f0 mo 19) snm) (hr24 : q_ir (q_r f0 mo 20) anm) (hr25 : q_ir (q_r f0 mo 24) hp) (hr26 : q_ir (q_r f0 mo 25) dy) (hr27 : q_ir (q_r f0 mo 29) cs) (hr28 : q_ir (q_r f0 mo 30) c1) (hr29 : q_ir (q_r f0 mo 31) c2) (hr30 : q_ir (q_r f0 mo 32) c3) (hr31 : q_ir (q_r f0 mo 33) bg) (hr32 : q_ir (q_r f0 mo 34) lp) (hr33 : q_ir (q_r f0 mo 38) rp) (hij : tk_ij K L f0 nds) (hcj : tk_c3 K L f0 cmds) {f : Nat → va_E} {H : Heap} {locs : List Loc} {ls : Array Slot} {cells slots : Nat} {ii tn : Int} {nl9 ls9 : List (List Int)} {xc : Int} (hB : q_B g K L (fun q => s.heap.size ≤ q) [(0, 0, 6), (2, 1, 2), (3, 0, 4), (4, 0, 7), (5, 0, 9), (6, 1, 1), (7, 1, 4), (8, 1, 9), (9, 0, 2), (10, 3, 15), (11, 9, 9), (12, 0, 0), (12, 2, 12), (12, 21, 23), (12, 26, 28), (12, 35, 37), (12, 39, 40), (13, 3, 15), (14, 3, 15), (15, 3, 15), (16, 3, 15), (17, 0, 9), (18, 0, 9), (19, 0, 9), (20, 0, 9), (21, 0, 4), (22, 0, 4), (23, 0, 4), (24, 0, 4), (25, 0, 7), (26, 0, 7), (27, 0, 7), (28, 0, 7), (142, 0, 599), (143, 0, 599), (150, 0, 599), (151, 0, 657), (152, 0, 657), (153, 0, 657), (154, 0, 657), (155, 0, 3947), (156, 0, 9), (157, 0, 9), (158, 0, 9), (159, 0, 9), (160, 0, 9), (161, 0, 59), (162, 0, 58), (163, 0, 58), (164, 0, 58), (165, 0, 1), (166, 0, 1), (167, 0, 479), (168, 0, 0), (169, 0, 0)] f0 f s H locs) (hI : q_Iv6 K L f x so mo sr pa sd bu ba now ndn hist ka sv nsv nm snm tn nl9 ls9 xc) (hl : lv_has ls 10 [(5, .int (q_i ii)), (4, .ref outD), (3, .ref out), (2, .ref mo), (1, .ref x), (0, .ref b)]) (hi0 : 0 ≤ ii) (hi6 : ii + 6 ≤ N9) (hce : cells + 6 ≤ 10000) (hse : slots + 36 ≤ 100000) (kk : ∀ (f1 : Nat → va_E) (H1 : Heap) (locs1 : List Loc) (ls1 : Array Slot) (tn1 : Int) (nl1 ls1_ : List (List Int)) (xc1 : Int), q_B g K L (fun q => s.heap.size ≤ q) [(0, 0, 6), (2, 1, 2), (3, 0, 4), (4, 0, 7), (5, 0, 9), (6, 1, 1), (7, 1, 4), (8, 1, 9), (9, 0, 2), (10, 3, 15), (11, 9, 9), (12, 0, 0), (12, 2, 12), (12, 21, 23), (12, 26, 28), (12, 35, 37), (12, 39, 40), (13, 3, 15), (14, 3, 15), (15, 3, 15), (16, 3, 15), (17, 0, 9), (18, 0, 9), (19, 0, 9), (20, 0, 9), (21, 0, 4), (22, 0, 4), (23, 0, 4), (24, 0, 4), (25, 0, 7), (26, 0, 7), (27, 0, 7), (28, 0, 7), (142, 0, 599), (143, 0, 599), (150, 0, 599), (151, 0, 657), (152, 0, 657), (153, 0, 657), (154, 0, 657), (155, 0, 3947), (156, 0, 9), (157, 0, 9), (158, 0, 9), (159, 0, 9), (160, 0, 9), (161, 0, 59), (162, 0, 58), (163, 0, 58), (164, 0, 58), (165, 0, 1), (166, 0, 1), (167, 0, 479), (168, 0, 0), (169, 0, 0)] f0 f1 s H1 locs1 → q_Iv6 K L f1 x so mo sr pa sd bu ba now ndn hist ka sv nsv nm snm tn1 nl1 ls1_ xc1 → lv_has ls1 10 [(5, .int (q_i ii)), (4, .ref outD), (3, .ref out), (2, .ref mo), (1, .ref x), (0, .ref b)] → W p l e room_1 s m #[Value.ref b] below meth c H1 locs1 (cells + 6) (slots + 36) (lw_Z below #[Value.ref b] s) (F0 m 1493 ls1 [])) : W p l e room_1 s m #[Value.ref b] below meth c H locs (cells) (slots) (lw_Z below #[Value.ref b] s) (F0 m 530 ls []) := by
  have hXs := C0.2.2.2.2.2.2.1
  have hbl := C0.2.2.2.2.2.2.2.1
  have hbA := q_bA hbl
  obtain ⟨⟨hn0, hn1, ltn, utn⟩, hgr, hpk, hsd9, ht3, ht4, hbb, hsr0, hxc, hvn, hvk, hvs, hrn9, hrs9, hpc, hs22, he2, he3⟩ := hI
  have lxc : 0 ≤ xc := by omega
  have uxc : xc ≤ 10 := by have h7 := hvn.2.1.2; omega
  have hr0 : q_ir (q_r f x 0) so := Eq.trans (hB.2.2.r hx (by rw [kx]; rfl)) hr0
  have hr1 : q_ir (q_r f x 1) rd := Eq.trans (hB.2.2.r hx (by rw [kx]; rfl)) hr1
  have hr2 : q_ir (q_r f x 2) scr := Eq.trans (hB.2.2.r hx (by rw [kx]; rfl)) hr2
  have hr3 : q_ir (q_r f x 3) fc := Eq.trans (hB.2.2.r hx (by rw [kx]; rfl)) hr3
  have hr4 : q_ir (q_r f x 4) hist := Eq.trans (hB.2.2.r hx (by rw [kx]; rfl)) hr4
  have hr5 : q_ir (q_r f x 5) rep := Eq.trans (hB.2.2.r hx (by rw [kx]; rfl)) hr5
  have hr6 : q_ir (q_r f x 6) now := Eq.trans (hB.2.2.r hx (by rw [kx]; rfl)) hr6
  have hr7 : q_ir (q_r f x 7) dr := Eq.trans (hB.2.2.r hx (by rw [kx]; rfl)) hr7
  have hr8 : q_ir (q_r f x 8) sv := Eq.trans (hB.2.2.r hx (by rw [kx]; rfl)) hr8
  have hr9 : q_ir (q_r f fc 0) tr := Eq.trans (hB.2.2.r hfc (by rw [kfc]; rfl)) hr9
  have hr10 : q_ir (q_r f so 0) ba := Eq.trans (hB.2.2.r hso (by rw [kso]; rfl)) hr10
  have hr11 : q_ir (q_r f dr 0) nds := Eq.trans (hB.2.2.r hdr (by rw [kdr]; rfl)) hr11
  have hr12 : q_ir (q_r f hist 0) ka := Eq.trans (hB.2.2.r hhist (by rw [khist]; rfl)) hr12
  have hr13 : q_ir (q_r f now 0) ndn := Eq.trans (hB.2.2.r hnow (by rw [know]; rfl)) hr13
  have hr14 : q_ir (q_r f sv 0) nsv := Eq.trans (hB.2.2.r hsv (by rw [ksv]; rfl)) hr14
  have hr15 : q_ir (q_r f scr 0) cmds := Eq.trans (hB.2.2.r hscr (by rw [kscr]; rfl)) hr15
  have hr16 : q_ir (q_r f mo 1) bu := Eq.trans (hB.2.2.r hmo (by rw [kmo]; rfl)) hr16
  have hr17 : q_ir (q_r f mo 13) sr := Eq.trans (hB.2.2.r hmo (by rw [kmo]; rfl)) hr17
  have hr18 : q_ir (q_r f mo 14) sd := Eq.trans (hB.2.2.r hmo (by rw [kmo]; rfl)) hr18
  have hr19 : q_ir (q_r f mo 15) as := Eq.trans (hB.2.2.r hmo (by rw [kmo]; rfl)) hr19
  have hr20 : q_ir (q_r f mo 16) aw := Eq.trans (hB.2.2.r hmo (by rw [kmo]; rfl)) hr20
  have hr21 : q_ir (q_r f mo 17) pa := Eq.trans (hB.2.2.r hmo (by rw [kmo]; rfl)) hr21
  have hr22 : q_ir (q_r f mo 18) nm := Eq.trans (hB.2.2.r hmo (by rw [kmo]; rfl)) hr22
  have hr23 : q_ir (q_r f mo 19) snm := Eq.trans (hB.2.2.r hmo (by rw [kmo]; rfl)) hr23
  have hr24 : q_ir (q_r f mo 20) anm := Eq.trans (hB.2.2.r hmo (by rw [kmo]; rfl)) hr24
  have hr25 : q_ir (q_r f mo 24) hp := Eq.trans (hB.2.2.r hmo (by rw [kmo]; rfl)) hr25
  have hr26 : q_ir (q_r f mo 25) dy := Eq.trans (hB.2.2.r hmo (by rw [kmo]; rfl)) hr26
  have hr27 : q_ir (q_r f mo 29) cs := Eq.trans (hB.2.2.r hmo (by rw [kmo]; rfl)) hr27
  have hr28 : q_ir (q_r f mo 30) c1 := Eq.trans (hB.2.2.r hmo (by rw [kmo]; rfl)) hr28
  have hr29 : q_ir (q_r f mo 31) c2 := Eq.trans (hB.2.2.r hmo (by rw [kmo]; rfl)) hr29
  have hr30 : q_ir (q_r f mo 32) c3 := Eq.trans (hB.2.2.r hmo (by rw [kmo]; rfl)) hr30
  have hr31 : q_ir (q_r f mo 33) bg := Eq.trans (hB.2.2.r hmo (by rw [kmo]; rfl)) hr31
  have hr32 : q_ir (q_r f mo 34) lp := Eq.trans (hB.2.2.r hmo (by rw [kmo]; rfl)) hr32
  have hr33 : q_ir (q_r f mo 38) rp := Eq.trans (hB.2.2.r hmo (by rw [kmo]; rfl)) hr33
  have hij : tk_ij K L f nds := tk_ij_tr hij (fun i9 => hB.2.2.r hnds (by rw [knds]; rfl))
  have hcj : tk_c3 K L f cmds := tk_c3_tr hcj (fun i9 => hB.2.2.r hcmds (by rw [kcmds]; rfl))
  obtain ⟨x1, ex1⟩ : ∃ zz, q_is (q_z f sr 3) zz := ⟨_, q_isr _⟩
  obtain ⟨lx1, ux1⟩ : 0 ≤ x1 ∧ x1 ≤ 9999 := q_isb ex1 ⟨(hgr 3 (by decide)).1, ht3⟩
  obtain ⟨x2, ex2⟩ : ∃ zz, q_is (q_z f sr 4) zz := ⟨_, q_isr _⟩
  obtain ⟨lx2, ux2⟩ : 0 ≤ x2 ∧ x2 ≤ 60 := q_isb ex2 ⟨(hgr 4 (by decide)).1, ht4⟩
  refine q_ald_n cx dL_law_530 rfl (lv_at hl 4 rfl) ?_
  refine q_ald_n cx dL_law_531 rfl (lv_at hl 5 rfl) ?_
  refine lv_iload cx.1 cx.2.1 dL_law_532 (lv_at hl 0 rfl) ?_
  refine q_iconst cx dL_law_534 ?_
  refine q_iadd cx dL_law_535 ?_
  refine va_sld cx.1 cx.2.1 hXs hbl hbA hB.1.2.2.2 (q_in (by omega) (by omega) (by omega)) dL_law_536 ?_
  obtain ⟨a3, ra3, ea3⟩ : ∃ z : Int, q_R z ∧ xs (q_i (ii + 1)).toNatClampNeg = q_i z := ⟨_, q_rng _, (q_of _).symm⟩
  rw [ea3]
  refine q_ald_n cx dL_law_537 rfl (lv_at hl 5 rfl) ?_
  refine lv_iload cx.1 cx.2.1 dL_law_538 (lv_at hl 0 rfl) ?_
  refine q_iconst cx dL_law_540 ?_
  refine q_iadd cx dL_law_541 ?_
  refine va_sld cx.1 cx.2.1 hXs hbl hbA hB.1.2.2.2 (q_in (by omega) (by omega) (by omega)) dL_law_542 ?_
  obtain ⟨a4, ra4, ea4⟩ : ∃ z : Int, q_R z ∧ xs (q_i (ii + 2)).toNatClampNeg = q_i z := ⟨_, q_rng _, (q_of _).symm⟩
  rw [ea4]
  refine q_ald_n cx dL_law_543 rfl (lv_at hl 2 rfl) ?_
  obtain ⟨x5, ex5⟩ : ∃ zz, q_is (q_z f now 3) zz := ⟨_, q_isr _⟩
  obtain ⟨lx5, ux5⟩ := q_isb ex5 (q_fib hB.2.1 hnow know (by decide) rfl)
  refine q_cWS (As := [.ref x, .int (q_i a3), .int (q_i a4), .ref out]) (rest := []) cx hX hB (fun q h => hLA q h) (fun q h1 h2 => absurd h1 (Nat.not_le_of_lt h2)) hN (f_wletter l g ad hN hB.2.1 hfl nl9 x hx kx a3 (by omega) (by omega) a4 (by omega) (by omega) out hout kout so hso kso rd hrd krd scr hscr kscr fc hfc kfc hist hhist khist rep hrep krep now hnow know dr hdr kdr sv hsv ksv tr htr ktr ba hba kba nds hnds knds ka hka kka ndn hndn kndn nsv hnsv knsv x5 (by omega) (by omega) ex5 hr0 hr1 hr2 hr3 hr4 hr5 hr6 hr7 hr8 hr9 hr10 hr11 hr12 hr13 hr14 hvn) q_cL_156 q_dL_letter ⟨by decide, by show cells + 1 ≤ 601024; omega, by show slots + 6 ≤ 7293034; omega⟩ rfl rfl hl.1 rfl (Nat.le_of_ble_eq_true rfl) dL_law_544 (fun v9 H locs f6 h8 hF hB => ?_)
  obtain ⟨y7, rfl, ry7, h8⟩ := h8
  refine W.eq (g2 := F0 m 547 ls [.int (q_i y7)]) rfl ?_
  rcases h8 with h9 | h10
  · obtain ⟨qy7, t11, t12, t13⟩ := h9
    have z14 : q_is (q_z f6 so 1) tn := Eq.trans (hF.z hso (by rw [kso]; rfl)) hn0
    have z15 : q_is (q_z f6 mo 2) tn := Eq.trans (hF.z hmo (by rw [kmo]; rfl)) hn1
    have z16 : q_is (q_z f6 sr 0) xc := Eq.trans (hF.z hsr (by rw [ksr]; rfl)) hsr0
    have z17 : q_is (q_z f6 sr 3) x1 := Eq.trans (hF.z hsr (by rw [ksr]; rfl)) ex1
    have z18 : q_is (q_z f6 sr 4) x2 := Eq.trans (hF.z hsr (by rw [ksr]; rfl)) ex2
    have z19 : q_is (q_z f6 now 3) x5 := Eq.trans (hF.z hnow (by rw [know]; rfl)) ex5
    have z20 : q_ir (q_r f6 x 0) so := Eq.trans (hF.r hx (by rw [kx]; rfl)) hr0
    have z21 : q_ir (q_r f6 x 1) rd := Eq.trans (hF.r hx (by rw [kx]; rfl)) hr1
    have z22 : q_ir (q_r f6 x 2) scr := Eq.trans (hF.r hx (by rw [kx]; rfl)) hr2
    have z23 : q_ir (q_r f6 x 3) fc := Eq.trans (hF.r hx (by rw [kx]; rfl)) hr3
    have z24 : q_ir (q_r f6 x 4) hist := Eq.trans (hF.r hx (by rw [kx]; rfl)) hr4
    have z25 : q_ir (q_r f6 x 5) rep := Eq.trans (hF.r hx (by rw [kx]; rfl)) hr5
    have z26 : q_ir (q_r f6 x 6) now := Eq.trans (hF.r hx (by rw [kx]; rfl)) hr6
    have z27 : q_ir (q_r f6 x 7) dr := Eq.trans (hF.r hx (by rw [kx]; rfl)) hr7
    have z28 : q_ir (q_r f6 x 8) sv := Eq.trans (hF.r hx (by rw [kx]; rfl)) hr8
    have z29 : q_ir (q_r f6 fc 0) tr := Eq.trans (hF.r hfc (by rw [kfc]; rfl)) hr9
    have z30 : q_ir (q_r f6 so 0) ba := Eq.trans (hF.r hso (by rw [kso]; rfl)) hr10
    have z31 : q_ir (q_r f6 dr 0) nds := Eq.trans (hF.r hdr (by rw [kdr]; rfl)) hr11
    have z32 : q_ir (q_r f6 hist 0) ka := Eq.trans (hF.r hhist (by rw [khist]; rfl)) hr12
    have z33 : q_ir (q_r f6 now 0) ndn := Eq.trans (hF.r hnow (by rw [know]; rfl)) hr13
    have z34 : q_ir (q_r f6 sv 0) nsv := Eq.trans (hF.r hsv (by rw [ksv]; rfl)) hr14
    have z35 : q_ir (q_r f6 scr 0) cmds := Eq.trans (hF.r hscr (by rw [kscr]; rfl)) hr15
    have z36 : q_ir (q_r f6 mo 1) bu := Eq.trans (hF.r hmo (by rw [kmo]; rfl)) hr16
    have z37 : q_ir (q_r f6 mo 13) sr := Eq.trans (hF.r hmo (by rw [kmo]; rfl)) hr17
    have z38 : q_ir (q_r f6 mo 14) sd := Eq.trans (hF.r hmo (by rw [kmo]; rfl)) hr18
    have z39 : q_ir (q_r f6 mo 15) as := Eq.trans (hF.r hmo (by rw [kmo]; rfl)) hr19
    have z40 : q_ir (q_r f6 mo 16) aw := Eq.trans (hF.r hmo (by rw [kmo]; rfl)) hr20
    have z41 : q_ir (q_r f6 mo 17) pa := Eq.trans (hF.r hmo (by rw [kmo]; rfl)) hr21
    have z42 : q_ir (q_r f6 mo 18) nm := Eq.trans (hF.r hmo (by rw [kmo]; rfl)) hr22
    have z43 : q_ir (q_r f6 mo 19) snm := Eq.trans (hF.r hmo (by rw [kmo]; rfl)) hr23
    have z44 : q_ir (q_r f6 mo 20) anm := Eq.trans (hF.r hmo (by rw [kmo]; rfl)) hr24
    have z45 : q_ir (q_r f6 mo 24) hp := Eq.trans (hF.r hmo (by rw [kmo]; rfl)) hr25
    have z46 : q_ir (q_r f6 mo 25) dy := Eq.trans (hF.r hmo (by rw [kmo]; rfl)) hr26
    have z47 : q_ir (q_r f6 mo 29) cs := Eq.trans (hF.r hmo (by rw [kmo]; rfl)) hr27
    have z48 : q_ir (q_r f6 mo 30) c1 := Eq.trans (hF.r hmo (by rw [kmo]; rfl)) hr28
    have z49 : q_ir (q_r f6 mo 31) c2 := Eq.trans (hF.r hmo (by rw [kmo]; rfl)) hr29
    have z50 : q_ir (q_r f6 mo 32) c3 := Eq.trans (hF.r hmo (by rw [kmo]; rfl)) hr30
    have z51 : q_ir (q_r f6 mo 33) bg := Eq.trans (hF.r hmo (by rw [kmo]; rfl)) hr31
    have z52 : q_ir (q_r f6 mo 34) lp := Eq.trans (hF.r hmo (by rw [kmo]; rfl)) hr32
    have z53 : q_ir (q_r f6 mo 38) rp := Eq.trans (hF.r hmo (by rw [kmo]; rfl)) hr33
    have g54 : q_gr f6 sr := q_gr_fr hgr (fun i9 _ => hF.z hsr (by rw [ksr]; rfl))
    have g55 : q_z f6 x 9 = q_z f6 mo 22 := tk_s2_tr hs22 (hF.z hx (by rw [kx]; rfl)) (hF.z hmo (by rw [kmo]; rfl))
    have g56 : q_pk f6 mo pa := q_pk_tr hpk (hF.z hmo (by rw [kmo]; rfl)) (fun i9 => hF.z hpa (by rw [kpa]; rfl))
    have g57 : q_sv f6 mo sd := q_sv_tr hsd9 (hF.z hmo (by rw [kmo]; rfl)) (fun i9 => hF.z hsd (by rw [ksd]; rfl))
    have g58 : tk_bb f6 bu ba tn := tk_bb_tr hbb (fun i9 => hF.z hbu (by rw [kbu]; rfl)) (fun i9 => hF.z hba (by rw [kba]; rfl))
    have g59 : tk_ij K L f6 nds := tk_ij_tr hij (fun i9 => hF.r hnds (by rw [knds]; rfl))
    have g60 : tk_c3 K L f6 cmds := tk_c3_tr hcj (fun i9 => hF.r hcmds (by rw [kcmds]; rfl))
    have g61 : q_z f6 so 2 = q_z f6 mo 10 := tk_e2_tr he2 (hF.z hso (by rw [kso]; rfl)) (hF.z hmo (by rw [kmo]; rfl))
    have g62 : q_z f6 so 3 = q_z f6 mo 11 := tk_e2_tr he3 (hF.z hso (by rw [kso]; rfl)) (hF.z hmo (by rw [kmo]; rfl))
    have g63 : tk_vn K L 5 f6 now ndn nl9 := tk_vn_tr hvn (hF.z hnow (by rw [know]; rfl)) (fun a9 h9 k9 => hF.j h9 (by rw [k9]; rfl)) (fun i9 => hF.r hndn (by rw [kndn]; rfl))
    have g64 : tk_vk K L f6 hist ka now ndn := tk_vk_tr hvk (hF.z hhist (by rw [khist]; rfl)) (hF.z hhist (by rw [khist]; rfl)) (hF.z hnow (by rw [know]; rfl)) (fun a9 h9 k9 => hF.j h9 (by rw [k9]; rfl)) (fun i9 => hF.r hndn (by rw [kndn]; rfl)) (fun a9 h9 k9 => hF.z h9 (by rw [k9]; rfl)) (fun a9 h9 k9 => hF.j h9 (by rw [k9]; rfl)) (fun i9 => hF.r hka (by rw [kka]; rfl)) (fun a9 h9 k9 => hF.r h9 (by rw [k9]; rfl)) (fun a9 h9 k9 i9 => hF.r h9 (by rw [k9]; rfl))
    have g65 : tk_vs K L f6 x sv nsv ls9 := tk_vs_tr hvs (hF.z hx (by rw [kx]; rfl)) (hF.z hsv (by rw [ksv]; rfl)) (fun a9 h9 k9 => hF.j h9 (by rw [k9]; rfl)) (fun i9 => hF.r hnsv (by rw [knsv]; rfl))
    have g66 : tk_nq f6 nm nl9 := tk_nq_tr hrn9 (fun i9 => hF.j hnm (by rw [knm]; rfl))
    have g67 : tk_rs f6 mo sd snm ls9 := tk_rs_tr hrs9 (hF.z hmo (by rw [kmo]; rfl)) (fun i9 h9 k9 => hF.z hsd (by rw [ksd]; exact q_inWr rfl h9 k9)) (fun i9 => hF.j hsnm (by rw [ksnm]; rfl))
    have g68 : q_pc f6 mo pa xc := q_pc_tr hpc (hF.z hmo (by rw [kmo]; rfl)) (fun i9 => hF.z hpa (by rw [kpa]; rfl))
    subst qy7
    have hbd9 := tk_le_bd t13 a4
    obtain ⟨nL, enL⟩ : ∃ zz : Int, tk_le (nl9.getD (Int.toNat a3) []) a4 = zz := ⟨_, rfl⟩
    have hj9 := t12
    rw [enL] at hj9 hbd9
    have lnL : 0 ≤ nL := hbd9.1
    have unL : nL ≤ 122 := hbd9.2
    refine lv_istore (lv' := [(6, .int (q_i 0)), (5, .int (q_i ii)), (4, .ref outD), (3, .ref out), (2, .ref mo), (1, .ref x), (0, .ref b)]) cx.1 cx.2.1 dL_law_547 hl (by decide) rfl (fun ls hl => ?_)
    refine q_ald_n cx dL_law_549 rfl (lv_at hl 4 rfl) ?_
    refine q_ald_n cx dL_law_550 rfl (lv_at hl 6 rfl) ?_
    refine lv_iload cx.1 cx.2.1 dL_law_551 (lv_at hl 1 rfl) ?_
    refine q_iconst cx dL_law_553 ?_
    refine q_iadd cx dL_law_554 ?_
    refine va_sld cx.1 cx.2.1 hXs hbl hbA hB.1.2.2.2 (q_in (by omega) (by omega) (by omega)) dL_law_555 ?_
    rw [ea3]
    refine q_ald_n cx dL_law_556 rfl (lv_at hl 6 rfl) ?_
    refine lv_iload cx.1 cx.2.1 dL_law_557 (lv_at hl 1 rfl) ?_
    refine q_iconst cx dL_law_559 ?_
    refine q_iadd cx dL_law_560 ?_
    refine va_sld cx.1 cx.2.1 hXs hbl hbA hB.1.2.2.2 (q_in (by omega) (by omega) (by omega)) dL_law_561 ?_
    rw [ea4]
    refine q_cVi (As := [.int (q_i a3), .int (q_i a4)]) (rest := []) cx hB (fun q h => hLA q h) hN hmo kmo (by decide) rfl (f_mletter l g hN hB.2.1 nl9 mo hmo kmo a3 (by omega) (by omega) a4 (by omega) (by omega) sr hsr ksr nm hnm knm xc (by omega) (by omega) z16 z37 z42 hxc g54 g66) q_cL_158 q_dX12_letter ⟨by decide, by show cells + 1 ≤ 601024; omega, by show slots + 6 ≤ 7293034; omega⟩ rfl rfl hl.1 rfl (Nat.le_of_ble_eq_true rfl) dL_law_562 (fun y70 H locs f69 ry70 h71 hF hB => ?_)
    rcases h71 with h72 | h73
    · obtain ⟨z74, t75, t76⟩ := h72
      have z77 : q_j f69 out 0 = (q_l nL) := (hF.j hout (by rw [kout]; rfl)).trans hj9
      have z78 : q_is (q_z f69 so 1) tn := Eq.trans (hF.z hso (by rw [kso]; rfl)) z14
      have z79 : q_is (q_z f69 mo 2) tn := Eq.trans (hF.z hmo (by rw [kmo]; rfl)) z15
      have z80 : q_is (q_z f69 sr 0) xc := Eq.trans (hF.z hsr (by rw [ksr]; rfl)) z16
      have z81 : q_is (q_z f69 sr 3) x1 := Eq.trans (hF.z hsr (by rw [ksr]; rfl)) z17
      have z82 : q_is (q_z f69 sr 4) x2 := Eq.trans (hF.z hsr (by rw [ksr]; rfl)) z18
      have z83 : q_is (q_z f69 now 3) x5 := Eq.trans (hF.z hnow (by rw [know]; rfl)) z19
      have z84 : q_ir (q_r f69 x 0) so := Eq.trans (hF.r hx (by rw [kx]; rfl)) z20
      have z85 : q_ir (q_r f69 x 1) rd := Eq.trans (hF.r hx (by rw [kx]; rfl)) z21
      have z86 : q_ir (q_r f69 x 2) scr := Eq.trans (hF.r hx (by rw [kx]; rfl)) z22
      have z87 : q_ir (q_r f69 x 3) fc := Eq.trans (hF.r hx (by rw [kx]; rfl)) z23
      have z88 : q_ir (q_r f69 x 4) hist := Eq.trans (hF.r hx (by rw [kx]; rfl)) z24
      have z89 : q_ir (q_r f69 x 5) rep := Eq.trans (hF.r hx (by rw [kx]; rfl)) z25
      have z90 : q_ir (q_r f69 x 6) now := Eq.trans (hF.r hx (by rw [kx]; rfl)) z26
      have z91 : q_ir (q_r f69 x 7) dr := Eq.trans (hF.r hx (by rw [kx]; rfl)) z27
      have z92 : q_ir (q_r f69 x 8) sv := Eq.trans (hF.r hx (by rw [kx]; rfl)) z28
      have z93 : q_ir (q_r f69 fc 0) tr := Eq.trans (hF.r hfc (by rw [kfc]; rfl)) z29
      have z94 : q_ir (q_r f69 so 0) ba := Eq.trans (hF.r hso (by rw [kso]; rfl)) z30
      have z95 : q_ir (q_r f69 dr 0) nds := Eq.trans (hF.r hdr (by rw [kdr]; rfl)) z31
      have z96 : q_ir (q_r f69 hist 0) ka := Eq.trans (hF.r hhist (by rw [khist]; rfl)) z32
      have z97 : q_ir (q_r f69 now 0) ndn := Eq.trans (hF.r hnow (by rw [know]; rfl)) z33
      have z98 : q_ir (q_r f69 sv 0) nsv := Eq.trans (hF.r hsv (by rw [ksv]; rfl)) z34
      have z99 : q_ir (q_r f69 scr 0) cmds := Eq.trans (hF.r hscr (by rw [kscr]; rfl)) z35
      have z100 : q_ir (q_r f69 mo 1) bu := Eq.trans (hF.r hmo (by rw [kmo]; rfl)) z36
      have z101 : q_ir (q_r f69 mo 13) sr := Eq.trans (hF.r hmo (by rw [kmo]; rfl)) z37
      have z102 : q_ir (q_r f69 mo 14) sd := Eq.trans (hF.r hmo (by rw [kmo]; rfl)) z38
      have z103 : q_ir (q_r f69 mo 15) as := Eq.trans (hF.r hmo (by rw [kmo]; rfl)) z39
      have z104 : q_ir (q_r f69 mo 16) aw := Eq.trans (hF.r hmo (by rw [kmo]; rfl)) z40
      have z105 : q_ir (q_r f69 mo 17) pa := Eq.trans (hF.r hmo (by rw [kmo]; rfl)) z41
      have z106 : q_ir (q_r f69 mo 18) nm := Eq.trans (hF.r hmo (by rw [kmo]; rfl)) z42
      have z107 : q_ir (q_r f69 mo 19) snm := Eq.trans (hF.r hmo (by rw [kmo]; rfl)) z43
      have z108 : q_ir (q_r f69 mo 20) anm := Eq.trans (hF.r hmo (by rw [kmo]; rfl)) z44
      have z109 : q_ir (q_r f69 mo 24) hp := Eq.trans (hF.r hmo (by rw [kmo]; rfl)) z45
      have z110 : q_ir (q_r f69 mo 25) dy := Eq.trans (hF.r hmo (by rw [kmo]; rfl)) z46
      have z111 : q_ir (q_r f69 mo 29) cs := Eq.trans (hF.r hmo (by rw [kmo]; rfl)) z47
      have z112 : q_ir (q_r f69 mo 30) c1 := Eq.trans (hF.r hmo (by rw [kmo]; rfl)) z48
      have z113 : q_ir (q_r f69 mo 31) c2 := Eq.trans (hF.r hmo (by rw [kmo]; rfl)) z49
      have z114 : q_ir (q_r f69 mo 32) c3 := Eq.trans (hF.r hmo (by rw [kmo]; rfl)) z50
      have z115 : q_ir (q_r f69 mo 33) bg := Eq.trans (hF.r hmo (by rw [kmo]; rfl)) z51
      have z116 : q_ir (q_r f69 mo 34) lp := Eq.trans (hF.r hmo (by rw [kmo]; rfl)) z52
      have z117 : q_ir (q_r f69 mo 38) rp := Eq.trans (hF.r hmo (by rw [kmo]; rfl)) z53
      have g118 : q_gr f69 sr := q_gr_fr g54 (fun i9 _ => hF.z hsr (by rw [ksr]; rfl))
      have g119 : q_z f69 x 9 = q_z f69 mo 22 := tk_s2_tr g55 (hF.z hx (by rw [kx]; rfl)) (hF.z hmo (by rw [kmo]; rfl))
      have g120 : q_pk f69 mo pa := q_pk_tr g56 (hF.z hmo (by rw [kmo]; rfl)) (fun i9 => hF.z hpa (by rw [kpa]; rfl))
      have g121 : q_sv f69 mo sd := q_sv_tr g57 (hF.z hmo (by rw [kmo]; rfl)) (fun i9 => hF.z hsd (by rw [ksd]; rfl))
      have g122 : tk_bb f69 bu ba tn := tk_bb_tr g58 (fun i9 => hF.z hbu (by rw [kbu]; rfl)) (fun i9 => hF.z hba (by rw [kba]; rfl))
      have g123 : tk_ij K L f69 nds := tk_ij_tr g59 (fun i9 => hF.r hnds (by rw [knds]; rfl))
      have g124 : tk_c3 K L f69 cmds := tk_c3_tr g60 (fun i9 => hF.r hcmds (by rw [kcmds]; rfl))
      have g125 : q_z f69 so 2 = q_z f69 mo 10 := tk_e2_tr g61 (hF.z hso (by rw [kso]; rfl)) (hF.z hmo (by rw [kmo]; rfl))
      have g126 : q_z f69 so 3 = q_z f69 mo 11 := tk_e2_tr g62 (hF.z hso (by rw [kso]; rfl)) (hF.z hmo (by rw [kmo]; rfl))
      have g127 : tk_vn K L 5 f69 now ndn nl9 := tk_vn_tr g63 (hF.z hnow (by rw [know]; rfl)) (fun a9 h9 k9 => hF.j h9 (by rw [k9]; rfl)) (fun i9 => hF.r hndn (by rw [kndn]; rfl))
      have g128 : tk_vk K L f69 hist ka now ndn := tk_vk_tr g64 (hF.z hhist (by rw [khist]; rfl)) (hF.z hhist (by rw [khist]; rfl)) (hF.z hnow (by rw [know]; rfl)) (fun a9 h9 k9 => hF.j h9 (by rw [k9]; rfl)) (fun i9 => hF.r hndn (by rw [kndn]; rfl)) (fun a9 h9 k9 => hF.z h9 (by rw [k9]; rfl)) (fun a9 h9 k9 => hF.j h9 (by rw [k9]; rfl)) (fun i9 => hF.r hka (by rw [kka]; rfl)) (fun a9 h9 k9 => hF.r h9 (by rw [k9]; rfl)) (fun a9 h9 k9 i9 => hF.r h9 (by rw [k9]; rfl))
      have g129 : tk_vs K L f69 x sv nsv ls9 := tk_vs_tr g65 (hF.z hx (by rw [kx]; rfl)) (hF.z hsv (by rw [ksv]; rfl)) (fun a9 h9 k9 => hF.j h9 (by rw [k9]; rfl)) (fun i9 => hF.r hnsv (by rw [knsv]; rfl))
      have g130 : tk_nq f69 nm nl9 := tk_nq_tr g66 (fun i9 => hF.j hnm (by rw [knm]; rfl))
      have g131 : tk_rs f69 mo sd snm ls9 := tk_rs_tr g67 (hF.z hmo (by rw [kmo]; rfl)) (fun i9 h9 k9 => hF.z hsd (by rw [ksd]; exact q_inWr rfl h9 k9)) (fun i9 => hF.j hsnm (by rw [ksnm]; rfl))
      have g132 : q_pc f69 mo pa xc := q_pc_tr g68 (hF.z hmo (by rw [kmo]; rfl)) (fun i9 => hF.z hpa (by rw [kpa]; rfl))
      have hz9 : y70 = nL := t76.trans enL
      refine lv_istore (lv' := [(7, .int (q_i y70)), (6, .int (q_i 0)), (5, .int (q_i ii)), (4, .ref outD), (3, .ref out), (2, .ref mo), (1, .ref x), (0, .ref b)]) cx.1 cx.2.1 dL_law_565 hl (by decide) rfl (fun ls hl => ?_)
      refine lv_goto (tgt := 1493) cx.1 cx.2.1 dL_law_567 (by decide) ?_
      refine W.widen (k := cells + 6) (n := slots + 36) (by omega) (by omega) ?_
      exact kk f69 H locs ls tn nl9 ls9 xc hB ⟨⟨z78, (Eq.trans z79 (by omega)), by omega, by omega⟩, g118, g120, g121, q_isu z81 (by omega), q_isu z82 (by omega), tk_bb_le g122 (by omega), z80, by omega, g127, g128, g129, g130, g131, g132, g119, g125, g126⟩ (lv_sub hl [2, 3, 4, 5, 6, 7] rfl)
    · obtain ⟨qy70, z133, t134⟩ := h73
      have z135 : q_j f69 out 0 = (q_l nL) := (hF.j hout (by rw [kout]; rfl)).trans hj9
      have z136 : q_is (q_z f69 so 1) tn := Eq.trans (hF.z hso (by rw [kso]; rfl)) z14
      have z137 : q_is (q_z f69 mo 2) tn := Eq.trans (hF.z hmo (by rw [kmo]; rfl)) z15
      have z138 : q_is (q_z f69 sr 0) xc := Eq.trans (hF.z hsr (by rw [ksr]; rfl)) z16
      have z139 : q_is (q_z f69 sr 3) x1 := Eq.trans (hF.z hsr (by rw [ksr]; rfl)) z17
      have z140 : q_is (q_z f69 sr 4) x2 := Eq.trans (hF.z hsr (by rw [ksr]; rfl)) z18
      have z141 : q_is (q_z f69 now 3) x5 := Eq.trans (hF.z hnow (by rw [know]; rfl)) z19
      have z142 : q_ir (q_r f69 x 0) so := Eq.trans (hF.r hx (by rw [kx]; rfl)) z20
      have z143 : q_ir (q_r f69 x 1) rd := Eq.trans (hF.r hx (by rw [kx]; rfl)) z21
      have z144 : q_ir (q_r f69 x 2) scr := Eq.trans (hF.r hx (by rw [kx]; rfl)) z22
      have z145 : q_ir (q_r f69 x 3) fc := Eq.trans (hF.r hx (by rw [kx]; rfl)) z23
      have z146 : q_ir (q_r f69 x 4) hist := Eq.trans (hF.r hx (by rw [kx]; rfl)) z24
      have z147 : q_ir (q_r f69 x 5) rep := Eq.trans (hF.r hx (by rw [kx]; rfl)) z25
      have z148 : q_ir (q_r f69 x 6) now := Eq.trans (hF.r hx (by rw [kx]; rfl)) z26
      have z149 : q_ir (q_r f69 x 7) dr := Eq.trans (hF.r hx (by rw [kx]; rfl)) z27
      have z150 : q_ir (q_r f69 x 8) sv := Eq.trans (hF.r hx (by rw [kx]; rfl)) z28
      have z151 : q_ir (q_r f69 fc 0) tr := Eq.trans (hF.r hfc (by rw [kfc]; rfl)) z29
      have z152 : q_ir (q_r f69 so 0) ba := Eq.trans (hF.r hso (by rw [kso]; rfl)) z30
      have z153 : q_ir (q_r f69 dr 0) nds := Eq.trans (hF.r hdr (by rw [kdr]; rfl)) z31
      have z154 : q_ir (q_r f69 hist 0) ka := Eq.trans (hF.r hhist (by rw [khist]; rfl)) z32
      have z155 : q_ir (q_r f69 now 0) ndn := Eq.trans (hF.r hnow (by rw [know]; rfl)) z33
      have z156 : q_ir (q_r f69 sv 0) nsv := Eq.trans (hF.r hsv (by rw [ksv]; rfl)) z34
      have z157 : q_ir (q_r f69 scr 0) cmds := Eq.trans (hF.r hscr (by rw [kscr]; rfl)) z35
      have z158 : q_ir (q_r f69 mo 1) bu := Eq.trans (hF.r hmo (by rw [kmo]; rfl)) z36
      have z159 : q_ir (q_r f69 mo 13) sr := Eq.trans (hF.r hmo (by rw [kmo]; rfl)) z37
      have z160 : q_ir (q_r f69 mo 14) sd := Eq.trans (hF.r hmo (by rw [kmo]; rfl)) z38
      have z161 : q_ir (q_r f69 mo 15) as := Eq.trans (hF.r hmo (by rw [kmo]; rfl)) z39
      have z162 : q_ir (q_r f69 mo 16) aw := Eq.trans (hF.r hmo (by rw [kmo]; rfl)) z40
      have z163 : q_ir (q_r f69 mo 17) pa := Eq.trans (hF.r hmo (by rw [kmo]; rfl)) z41
      have z164 : q_ir (q_r f69 mo 18) nm := Eq.trans (hF.r hmo (by rw [kmo]; rfl)) z42
      have z165 : q_ir (q_r f69 mo 19) snm := Eq.trans (hF.r hmo (by rw [kmo]; rfl)) z43
      have z166 : q_ir (q_r f69 mo 20) anm := Eq.trans (hF.r hmo (by rw [kmo]; rfl)) z44
      have z167 : q_ir (q_r f69 mo 24) hp := Eq.trans (hF.r hmo (by rw [kmo]; rfl)) z45
      have z168 : q_ir (q_r f69 mo 25) dy := Eq.trans (hF.r hmo (by rw [kmo]; rfl)) z46
      have z169 : q_ir (q_r f69 mo 29) cs := Eq.trans (hF.r hmo (by rw [kmo]; rfl)) z47
      have z170 : q_ir (q_r f69 mo 30) c1 := Eq.trans (hF.r hmo (by rw [kmo]; rfl)) z48
      have z171 : q_ir (q_r f69 mo 31) c2 := Eq.trans (hF.r hmo (by rw [kmo]; rfl)) z49
      have z172 : q_ir (q_r f69 mo 32) c3 := Eq.trans (hF.r hmo (by rw [kmo]; rfl)) z50
      have z173 : q_ir (q_r f69 mo 33) bg := Eq.trans (hF.r hmo (by rw [kmo]; rfl)) z51
      have z174 : q_ir (q_r f69 mo 34) lp := Eq.trans (hF.r hmo (by rw [kmo]; rfl)) z52
      have z175 : q_ir (q_r f69 mo 38) rp := Eq.trans (hF.r hmo (by rw [kmo]; rfl)) z53
      have g176 : q_gr f69 sr := q_gr_fr g54 (fun i9 _ => hF.z hsr (by rw [ksr]; rfl))
      have g177 : q_z f69 x 9 = q_z f69 mo 22 := tk_s2_tr g55 (hF.z hx (by rw [kx]; rfl)) (hF.z hmo (by rw [kmo]; rfl))
      have g178 : q_pk f69 mo pa := q_pk_tr g56 (hF.z hmo (by rw [kmo]; rfl)) (fun i9 => hF.z hpa (by rw [kpa]; rfl))
      have g179 : q_sv f69 mo sd := q_sv_tr g57 (hF.z hmo (by rw [kmo]; rfl)) (fun i9 => hF.z hsd (by rw [ksd]; rfl))
      have g180 : tk_bb f69 bu ba tn := tk_bb_tr g58 (fun i9 => hF.z hbu (by rw [kbu]; rfl)) (fun i9 => hF.z hba (by rw [kba]; rfl))
      have g181 : tk_ij K L f69 nds := tk_ij_tr g59 (fun i9 => hF.r hnds (by rw [knds]; rfl))
      have g182 : tk_c3 K L f69 cmds := tk_c3_tr g60 (fun i9 => hF.r hcmds (by rw [kcmds]; rfl))
      have g183 : q_z f69 so 2 = q_z f69 mo 10 := tk_e2_tr g61 (hF.z hso (by rw [kso]; rfl)) (hF.z hmo (by rw [kmo]; rfl))
      have g184 : q_z f69 so 3 = q_z f69 mo 11 := tk_e2_tr g62 (hF.z hso (by rw [kso]; rfl)) (hF.z hmo (by rw [kmo]; rfl))
      have g185 : tk_vn K L 5 f69 now ndn nl9 := tk_vn_tr g63 (hF.z hnow (by rw [know]; rfl)) (fun a9 h9 k9 => hF.j h9 (by rw [k9]; rfl)) (fun i9 => hF.r hndn (by rw [kndn]; rfl))
      have g186 : tk_vk K L f69 hist ka now ndn := tk_vk_tr g64 (hF.z hhist (by rw [khist]; rfl)) (hF.z hhist (by rw [khist]; rfl)) (hF.z hnow (by rw [know]; rfl)) (fun a9 h9 k9 => hF.j h9 (by rw [k9]; rfl)) (fun i9 => hF.r hndn (by rw [kndn]; rfl)) (fun a9 h9 k9 => hF.z h9 (by rw [k9]; rfl)) (fun a9 h9 k9 => hF.j h9 (by rw [k9]; rfl)) (fun i9 => hF.r hka (by rw [kka]; rfl)) (fun a9 h9 k9 => hF.r h9 (by rw [k9]; rfl)) (fun a9 h9 k9 i9 => hF.r h9 (by rw [k9]; rfl))
      have g187 : tk_vs K L f69 x sv nsv ls9 := tk_vs_tr g65 (hF.z hx (by rw [kx]; rfl)) (hF.z hsv (by rw [ksv]; rfl)) (fun a9 h9 k9 => hF.j h9 (by rw [k9]; rfl)) (fun i9 => hF.r hnsv (by rw [knsv]; rfl))
      have g188 : tk_nq f69 nm nl9 := tk_nq_tr g66 (fun i9 => hF.j hnm (by rw [knm]; rfl))
      have g189 : tk_rs f69 mo sd snm ls9 := tk_rs_tr g67 (hF.z hmo (by rw [kmo]; rfl)) (fun i9 h9 k9 => hF.z hsd (by rw [ksd]; exact q_inWr rfl h9 k9)) (fun i9 => hF.j hsnm (by rw [ksnm]; rfl))
      have g190 : q_pc f69 mo pa xc := q_pc_tr g68 (hF.z hmo (by rw [kmo]; rfl)) (fun i9 => hF.z hpa (by rw [kpa]; rfl))
      subst qy70
      exact False.elim (by omega)
  · obtain ⟨qy7, t191⟩ := h10
    have z192 : q_is (q_z f6 so 1) tn := Eq.trans (hF.z hso (by rw [kso]; rfl)) hn0
    have z193 : q_is (q_z f6 mo 2) tn := Eq.trans (hF.z hmo (by rw [kmo]; rfl)) hn1
    have z194 : q_is (q_z f6 sr 0) xc := Eq.trans (hF.z hsr (by rw [ksr]; rfl)) hsr0
    have z195 : q_is (q_z f6 sr 3) x1 := Eq.trans (hF.z hsr (by rw [ksr]; rfl)) ex1
    have z196 : q_is (q_z f6 sr 4) x2 := Eq.trans (hF.z hsr (by rw [ksr]; rfl)) ex2
    have z197 : q_is (q_z f6 now 3) x5 := Eq.trans (hF.z hnow (by rw [know]; rfl)) ex5
    have z198 : q_ir (q_r f6 x 0) so := Eq.trans (hF.r hx (by rw [kx]; rfl)) hr0
    have z199 : q_ir (q_r f6 x 1) rd := Eq.trans (hF.r hx (by rw [kx]; rfl)) hr1
    have z200 : q_ir (q_r f6 x 2) scr := Eq.trans (hF.r hx (by rw [kx]; rfl)) hr2
    have z201 : q_ir (q_r f6 x 3) fc := Eq.trans (hF.r hx (by rw [kx]; rfl)) hr3
    have z202 : q_ir (q_r f6 x 4) hist := Eq.trans (hF.r hx (by rw [kx]; rfl)) hr4
    have z203 : q_ir (q_r f6 x 5) rep := Eq.trans (hF.r hx (by rw [kx]; rfl)) hr5
    have z204 : q_ir (q_r f6 x 6) now := Eq.trans (hF.r hx (by rw [kx]; rfl)) hr6
    have z205 : q_ir (q_r f6 x 7) dr := Eq.trans (hF.r hx (by rw [kx]; rfl)) hr7
    have z206 : q_ir (q_r f6 x 8) sv := Eq.trans (hF.r hx (by rw [kx]; rfl)) hr8
    have z207 : q_ir (q_r f6 fc 0) tr := Eq.trans (hF.r hfc (by rw [kfc]; rfl)) hr9
    have z208 : q_ir (q_r f6 so 0) ba := Eq.trans (hF.r hso (by rw [kso]; rfl)) hr10
    have z209 : q_ir (q_r f6 dr 0) nds := Eq.trans (hF.r hdr (by rw [kdr]; rfl)) hr11
    have z210 : q_ir (q_r f6 hist 0) ka := Eq.trans (hF.r hhist (by rw [khist]; rfl)) hr12
    have z211 : q_ir (q_r f6 now 0) ndn := Eq.trans (hF.r hnow (by rw [know]; rfl)) hr13
    have z212 : q_ir (q_r f6 sv 0) nsv := Eq.trans (hF.r hsv (by rw [ksv]; rfl)) hr14
    have z213 : q_ir (q_r f6 scr 0) cmds := Eq.trans (hF.r hscr (by rw [kscr]; rfl)) hr15
    have z214 : q_ir (q_r f6 mo 1) bu := Eq.trans (hF.r hmo (by rw [kmo]; rfl)) hr16
    have z215 : q_ir (q_r f6 mo 13) sr := Eq.trans (hF.r hmo (by rw [kmo]; rfl)) hr17
    have z216 : q_ir (q_r f6 mo 14) sd := Eq.trans (hF.r hmo (by rw [kmo]; rfl)) hr18
    have z217 : q_ir (q_r f6 mo 15) as := Eq.trans (hF.r hmo (by rw [kmo]; rfl)) hr19
    have z218 : q_ir (q_r f6 mo 16) aw := Eq.trans (hF.r hmo (by rw [kmo]; rfl)) hr20
    have z219 : q_ir (q_r f6 mo 17) pa := Eq.trans (hF.r hmo (by rw [kmo]; rfl)) hr21
    have z220 : q_ir (q_r f6 mo 18) nm := Eq.trans (hF.r hmo (by rw [kmo]; rfl)) hr22
    have z221 : q_ir (q_r f6 mo 19) snm := Eq.trans (hF.r hmo (by rw [kmo]; rfl)) hr23
    have z222 : q_ir (q_r f6 mo 20) anm := Eq.trans (hF.r hmo (by rw [kmo]; rfl)) hr24
    have z223 : q_ir (q_r f6 mo 24) hp := Eq.trans (hF.r hmo (by rw [kmo]; rfl)) hr25
    have z224 : q_ir (q_r f6 mo 25) dy := Eq.trans (hF.r hmo (by rw [kmo]; rfl)) hr26
    have z225 : q_ir (q_r f6 mo 29) cs := Eq.trans (hF.r hmo (by rw [kmo]; rfl)) hr27
    have z226 : q_ir (q_r f6 mo 30) c1 := Eq.trans (hF.r hmo (by rw [kmo]; rfl)) hr28
    have z227 : q_ir (q_r f6 mo 31) c2 := Eq.trans (hF.r hmo (by rw [kmo]; rfl)) hr29
    have z228 : q_ir (q_r f6 mo 32) c3 := Eq.trans (hF.r hmo (by rw [kmo]; rfl)) hr30
    have z229 : q_ir (q_r f6 mo 33) bg := Eq.trans (hF.r hmo (by rw [kmo]; rfl)) hr31
    have z230 : q_ir (q_r f6 mo 34) lp := Eq.trans (hF.r hmo (by rw [kmo]; rfl)) hr32
    have z231 : q_ir (q_r f6 mo 38) rp := Eq.trans (hF.r hmo (by rw [kmo]; rfl)) hr33
    have g232 : q_gr f6 sr := q_gr_fr hgr (fun i9 _ => hF.z hsr (by rw [ksr]; rfl))
    have g233 : q_z f6 x 9 = q_z f6 mo 22 := tk_s2_tr hs22 (hF.z hx (by rw [kx]; rfl)) (hF.z hmo (by rw [kmo]; rfl))
    have g234 : q_pk f6 mo pa := q_pk_tr hpk (hF.z hmo (by rw [kmo]; rfl)) (fun i9 => hF.z hpa (by rw [kpa]; rfl))
    have g235 : q_sv f6 mo sd := q_sv_tr hsd9 (hF.z hmo (by rw [kmo]; rfl)) (fun i9 => hF.z hsd (by rw [ksd]; rfl))
    have g236 : tk_bb f6 bu ba tn := tk_bb_tr hbb (fun i9 => hF.z hbu (by rw [kbu]; rfl)) (fun i9 => hF.z hba (by rw [kba]; rfl))
    have g237 : tk_ij K L f6 nds := tk_ij_tr hij (fun i9 => hF.r hnds (by rw [knds]; rfl))
    have g238 : tk_c3 K L f6 cmds := tk_c3_tr hcj (fun i9 => hF.r hcmds (by rw [kcmds]; rfl))
    have g239 : q_z f6 so 2 = q_z f6 mo 10 := tk_e2_tr he2 (hF.z hso (by rw [kso]; rfl)) (hF.z hmo (by rw [kmo]; rfl))
    have g240 : q_z f6 so 3 = q_z f6 mo 11 := tk_e2_tr he3 (hF.z hso (by rw [kso]; rfl)) (hF.z hmo (by rw [kmo]; rfl))
    have g241 : tk_vn K L 5 f6 now ndn nl9 := tk_vn_tr hvn (hF.z hnow (by rw [know]; rfl)) (fun a9 h9 k9 => hF.j h9 (by rw [k9]; rfl)) (fun i9 => hF.r hndn (by rw [kndn]; rfl))
    have g242 : tk_vk K L f6 hist ka now ndn := tk_vk_tr hvk (hF.z hhist (by rw [khist]; rfl)) (hF.z hhist (by rw [khist]; rfl)) (hF.z hnow (by rw [know]; rfl)) (fun a9 h9 k9 => hF.j h9 (by rw [k9]; rfl)) (fun i9 => hF.r hndn (by rw [kndn]; rfl)) (fun a9 h9 k9 => hF.z h9 (by rw [k9]; rfl)) (fun a9 h9 k9 => hF.j h9 (by rw [k9]; rfl)) (fun i9 => hF.r hka (by rw [kka]; rfl)) (fun a9 h9 k9 => hF.r h9 (by rw [k9]; rfl)) (fun a9 h9 k9 i9 => hF.r h9 (by rw [k9]; rfl))
    have g243 : tk_vs K L f6 x sv nsv ls9 := tk_vs_tr hvs (hF.z hx (by rw [kx]; rfl)) (hF.z hsv (by rw [ksv]; rfl)) (fun a9 h9 k9 => hF.j h9 (by rw [k9]; rfl)) (fun i9 => hF.r hnsv (by rw [knsv]; rfl))
    have g244 : tk_nq f6 nm nl9 := tk_nq_tr hrn9 (fun i9 => hF.j hnm (by rw [knm]; rfl))
    have g245 : tk_rs f6 mo sd snm ls9 := tk_rs_tr hrs9 (hF.z hmo (by rw [kmo]; rfl)) (fun i9 h9 k9 => hF.z hsd (by rw [ksd]; exact q_inWr rfl h9 k9)) (fun i9 => hF.j hsnm (by rw [ksnm]; rfl))
    have g246 : q_pc f6 mo pa xc := q_pc_tr hpc (hF.z hmo (by rw [kmo]; rfl)) (fun i9 => hF.z hpa (by rw [kpa]; rfl))
    subst qy7
    refine lv_istore (lv' := [(6, .int (q_i 1)), (5, .int (q_i ii)), (4, .ref outD), (3, .ref out), (2, .ref mo), (1, .ref x), (0, .ref b)]) cx.1 cx.2.1 dL_law_547 hl (by decide) rfl (fun ls hl => ?_)
    refine q_ald_n cx dL_law_549 rfl (lv_at hl 4 rfl) ?_
    refine q_ald_n cx dL_law_550 rfl (lv_at hl 6 rfl) ?_
    refine lv_iload cx.1 cx.2.1 dL_law_551 (lv_at hl 1 rfl) ?_
    refine q_iconst cx dL_law_553 ?_
    refine q_iadd cx dL_law_554 ?_
    refine va_sld cx.1 cx.2.1 hXs hbl hbA hB.1.2.2.2 (q_in (by omega) (by omega) (by omega)) dL_law_555 ?_
    rw [ea3]
    refine q_ald_n cx dL_law_556 rfl (lv_at hl 6 rfl) ?_
    refine lv_iload cx.1 cx.2.1 dL_law_557 (lv_at hl 1 rfl) ?_
    refine q_iconst cx dL_law_559 ?_
    refine q_iadd cx dL_law_560 ?_
    refine va_sld cx.1 cx.2.1 hXs hbl hbA hB.1.2.2.2 (q_in (by omega) (by omega) (by omega)) dL_law_561 ?_
    rw [ea4]
    refine q_cVi (As := [.int (q_i a3), .int (q_i a4)]) (rest := []) cx hB (fun q h => hLA q h) hN hmo kmo (by decide) rfl (f_mletter l g hN hB.2.1 nl9 mo hmo kmo a3 (by omega) (by omega) a4 (by omega) (by omega) sr hsr ksr nm hnm knm xc (by omega) (by omega) z194 z215 z220 hxc g232 g244) q_cL_158 q_dX12_letter ⟨by decide, by show cells + 1 ≤ 601024; omega, by show slots + 6 ≤ 7293034; omega⟩ rfl rfl hl.1 rfl (Nat.le_of_ble_eq_true rfl) dL_law_562 (fun y248 H locs f247 ry248 h249 hF hB => ?_)
    rcases h249 with h250 | h251
    · obtain ⟨z252, t253, t254⟩ := h250
      have z255 : q_is (q_z f247 so 1) tn := Eq.trans (hF.z hso (by rw [kso]; rfl)) z192
      have z256 : q_is (q_z f247 mo 2) tn := Eq.trans (hF.z hmo (by rw [kmo]; rfl)) z193
      have z257 : q_is (q_z f247 sr 0) xc := Eq.trans (hF.z hsr (by rw [ksr]; rfl)) z194
      have z258 : q_is (q_z f247 sr 3) x1 := Eq.trans (hF.z hsr (by rw [ksr]; rfl)) z195
      have z259 : q_is (q_z f247 sr 4) x2 := Eq.trans (hF.z hsr (by rw [ksr]; rfl)) z196
      have z260 : q_is (q_z f247 now 3) x5 := Eq.trans (hF.z hnow (by rw [know]; rfl)) z197
      have z261 : q_ir (q_r f247 x 0) so := Eq.trans (hF.r hx (by rw [kx]; rfl)) z198
      have z262 : q_ir (q_r f247 x 1) rd := Eq.trans (hF.r hx (by rw [kx]; rfl)) z199
      have z263 : q_ir (q_r f247 x 2) scr := Eq.trans (hF.r hx (by rw [kx]; rfl)) z200
      have z264 : q_ir (q_r f247 x 3) fc := Eq.trans (hF.r hx (by rw [kx]; rfl)) z201
      have z265 : q_ir (q_r f247 x 4) hist := Eq.trans (hF.r hx (by rw [kx]; rfl)) z202
      have z266 : q_ir (q_r f247 x 5) rep := Eq.trans (hF.r hx (by rw [kx]; rfl)) z203
      have z267 : q_ir (q_r f247 x 6) now := Eq.trans (hF.r hx (by rw [kx]; rfl)) z204
      have z268 : q_ir (q_r f247 x 7) dr := Eq.trans (hF.r hx (by rw [kx]; rfl)) z205
      have z269 : q_ir (q_r f247 x 8) sv := Eq.trans (hF.r hx (by rw [kx]; rfl)) z206
      have z270 : q_ir (q_r f247 fc 0) tr := Eq.trans (hF.r hfc (by rw [kfc]; rfl)) z207
      have z271 : q_ir (q_r f247 so 0) ba := Eq.trans (hF.r hso (by rw [kso]; rfl)) z208
      have z272 : q_ir (q_r f247 dr 0) nds := Eq.trans (hF.r hdr (by rw [kdr]; rfl)) z209
      have z273 : q_ir (q_r f247 hist 0) ka := Eq.trans (hF.r hhist (by rw [khist]; rfl)) z210
      have z274 : q_ir (q_r f247 now 0) ndn := Eq.trans (hF.r hnow (by rw [know]; rfl)) z211
      have z275 : q_ir (q_r f247 sv 0) nsv := Eq.trans (hF.r hsv (by rw [ksv]; rfl)) z212
      have z276 : q_ir (q_r f247 scr 0) cmds := Eq.trans (hF.r hscr (by rw [kscr]; rfl)) z213
      have z277 : q_ir (q_r f247 mo 1) bu := Eq.trans (hF.r hmo (by rw [kmo]; rfl)) z214
      have z278 : q_ir (q_r f247 mo 13) sr := Eq.trans (hF.r hmo (by rw [kmo]; rfl)) z215
      have z279 : q_ir (q_r f247 mo 14) sd := Eq.trans (hF.r hmo (by rw [kmo]; rfl)) z216
      have z280 : q_ir (q_r f247 mo 15) as := Eq.trans (hF.r hmo (by rw [kmo]; rfl)) z217
      have z281 : q_ir (q_r f247 mo 16) aw := Eq.trans (hF.r hmo (by rw [kmo]; rfl)) z218
      have z282 : q_ir (q_r f247 mo 17) pa := Eq.trans (hF.r hmo (by rw [kmo]; rfl)) z219
      have z283 : q_ir (q_r f247 mo 18) nm := Eq.trans (hF.r hmo (by rw [kmo]; rfl)) z220
      have z284 : q_ir (q_r f247 mo 19) snm := Eq.trans (hF.r hmo (by rw [kmo]; rfl)) z221
      have z285 : q_ir (q_r f247 mo 20) anm := Eq.trans (hF.r hmo (by rw [kmo]; rfl)) z222
      have z286 : q_ir (q_r f247 mo 24) hp := Eq.trans (hF.r hmo (by rw [kmo]; rfl)) z223
      have z287 : q_ir (q_r f247 mo 25) dy := Eq.trans (hF.r hmo (by rw [kmo]; rfl)) z224
      have z288 : q_ir (q_r f247 mo 29) cs := Eq.trans (hF.r hmo (by rw [kmo]; rfl)) z225
      have z289 : q_ir (q_r f247 mo 30) c1 := Eq.trans (hF.r hmo (by rw [kmo]; rfl)) z226
      have z290 : q_ir (q_r f247 mo 31) c2 := Eq.trans (hF.r hmo (by rw [kmo]; rfl)) z227
      have z291 : q_ir (q_r f247 mo 32) c3 := Eq.trans (hF.r hmo (by rw [kmo]; rfl)) z228
      have z292 : q_ir (q_r f247 mo 33) bg := Eq.trans (hF.r hmo (by rw [kmo]; rfl)) z229
      have z293 : q_ir (q_r f247 mo 34) lp := Eq.trans (hF.r hmo (by rw [kmo]; rfl)) z230
      have z294 : q_ir (q_r f247 mo 38) rp := Eq.trans (hF.r hmo (by rw [kmo]; rfl)) z231
      have g295 : q_gr f247 sr := q_gr_fr g232 (fun i9 _ => hF.z hsr (by rw [ksr]; rfl))
      have g296 : q_z f247 x 9 = q_z f247 mo 22 := tk_s2_tr g233 (hF.z hx (by rw [kx]; rfl)) (hF.z hmo (by rw [kmo]; rfl))
      have g297 : q_pk f247 mo pa := q_pk_tr g234 (hF.z hmo (by rw [kmo]; rfl)) (fun i9 => hF.z hpa (by rw [kpa]; rfl))
      have g298 : q_sv f247 mo sd := q_sv_tr g235 (hF.z hmo (by rw [kmo]; rfl)) (fun i9 => hF.z hsd (by rw [ksd]; rfl))
      have g299 : tk_bb f247 bu ba tn := tk_bb_tr g236 (fun i9 => hF.z hbu (by rw [kbu]; rfl)) (fun i9 => hF.z hba (by rw [kba]; rfl))
      have g300 : tk_ij K L f247 nds := tk_ij_tr g237 (fun i9 => hF.r hnds (by rw [knds]; rfl))
      have g301 : tk_c3 K L f247 cmds := tk_c3_tr g238 (fun i9 => hF.r hcmds (by rw [kcmds]; rfl))
      have g302 : q_z f247 so 2 = q_z f247 mo 10 := tk_e2_tr g239 (hF.z hso (by rw [kso]; rfl)) (hF.z hmo (by rw [kmo]; rfl))
      have g303 : q_z f247 so 3 = q_z f247 mo 11 := tk_e2_tr g240 (hF.z hso (by rw [kso]; rfl)) (hF.z hmo (by rw [kmo]; rfl))
      have g304 : tk_vn K L 5 f247 now ndn nl9 := tk_vn_tr g241 (hF.z hnow (by rw [know]; rfl)) (fun a9 h9 k9 => hF.j h9 (by rw [k9]; rfl)) (fun i9 => hF.r hndn (by rw [kndn]; rfl))
      have g305 : tk_vk K L f247 hist ka now ndn := tk_vk_tr g242 (hF.z hhist (by rw [khist]; rfl)) (hF.z hhist (by rw [khist]; rfl)) (hF.z hnow (by rw [know]; rfl)) (fun a9 h9 k9 => hF.j h9 (by rw [k9]; rfl)) (fun i9 => hF.r hndn (by rw [kndn]; rfl)) (fun a9 h9 k9 => hF.z h9 (by rw [k9]; rfl)) (fun a9 h9 k9 => hF.j h9 (by rw [k9]; rfl)) (fun i9 => hF.r hka (by rw [kka]; rfl)) (fun a9 h9 k9 => hF.r h9 (by rw [k9]; rfl)) (fun a9 h9 k9 i9 => hF.r h9 (by rw [k9]; rfl))
      have g306 : tk_vs K L f247 x sv nsv ls9 := tk_vs_tr g243 (hF.z hx (by rw [kx]; rfl)) (hF.z hsv (by rw [ksv]; rfl)) (fun a9 h9 k9 => hF.j h9 (by rw [k9]; rfl)) (fun i9 => hF.r hnsv (by rw [knsv]; rfl))
      have g307 : tk_nq f247 nm nl9 := tk_nq_tr g244 (fun i9 => hF.j hnm (by rw [knm]; rfl))
      have g308 : tk_rs f247 mo sd snm ls9 := tk_rs_tr g245 (hF.z hmo (by rw [kmo]; rfl)) (fun i9 h9 k9 => hF.z hsd (by rw [ksd]; exact q_inWr rfl h9 k9)) (fun i9 => hF.j hsnm (by rw [ksnm]; rfl))
      have g309 : q_pc f247 mo pa xc := q_pc_tr g246 (hF.z hmo (by rw [kmo]; rfl)) (fun i9 => hF.z hpa (by rw [kpa]; rfl))
      exact False.elim (by omega)
    · obtain ⟨qy248, z310, t311⟩ := h251
      have z312 : q_is (q_z f247 so 1) tn := Eq.trans (hF.z hso (by rw [kso]; rfl)) z192
      have z313 : q_is (q_z f247 mo 2) tn := Eq.trans (hF.z hmo (by rw [kmo]; rfl)) z193
      have z314 : q_is (q_z f247 sr 0) xc := Eq.trans (hF.z hsr (by rw [ksr]; rfl)) z194
      have z315 : q_is (q_z f247 sr 3) x1 := Eq.trans (hF.z hsr (by rw [ksr]; rfl)) z195
      have z316 : q_is (q_z f247 sr 4) x2 := Eq.trans (hF.z hsr (by rw [ksr]; rfl)) z196
      have z317 : q_is (q_z f247 now 3) x5 := Eq.trans (hF.z hnow (by rw [know]; rfl)) z197
      have z318 : q_ir (q_r f247 x 0) so := Eq.trans (hF.r hx (by rw [kx]; rfl)) z198
      have z319 : q_ir (q_r f247 x 1) rd := Eq.trans (hF.r hx (by rw [kx]; rfl)) z199
      have z320 : q_ir (q_r f247 x 2) scr := Eq.trans (hF.r hx (by rw [kx]; rfl)) z200
      have z321 : q_ir (q_r f247 x 3) fc := Eq.trans (hF.r hx (by rw [kx]; rfl)) z201
      have z322 : q_ir (q_r f247 x 4) hist := Eq.trans (hF.r hx (by rw [kx]; rfl)) z202
      have z323 : q_ir (q_r f247 x 5) rep := Eq.trans (hF.r hx (by rw [kx]; rfl)) z203
      have z324 : q_ir (q_r f247 x 6) now := Eq.trans (hF.r hx (by rw [kx]; rfl)) z204
      have z325 : q_ir (q_r f247 x 7) dr := Eq.trans (hF.r hx (by rw [kx]; rfl)) z205
      have z326 : q_ir (q_r f247 x 8) sv := Eq.trans (hF.r hx (by rw [kx]; rfl)) z206
      have z327 : q_ir (q_r f247 fc 0) tr := Eq.trans (hF.r hfc (by rw [kfc]; rfl)) z207
      have z328 : q_ir (q_r f247 so 0) ba := Eq.trans (hF.r hso (by rw [kso]; rfl)) z208
      have z329 : q_ir (q_r f247 dr 0) nds := Eq.trans (hF.r hdr (by rw [kdr]; rfl)) z209
      have z330 : q_ir (q_r f247 hist 0) ka := Eq.trans (hF.r hhist (by rw [khist]; rfl)) z210
      have z331 : q_ir (q_r f247 now 0) ndn := Eq.trans (hF.r hnow (by rw [know]; rfl)) z211
      have z332 : q_ir (q_r f247 sv 0) nsv := Eq.trans (hF.r hsv (by rw [ksv]; rfl)) z212
      have z333 : q_ir (q_r f247 scr 0) cmds := Eq.trans (hF.r hscr (by rw [kscr]; rfl)) z213
      have z334 : q_ir (q_r f247 mo 1) bu := Eq.trans (hF.r hmo (by rw [kmo]; rfl)) z214
      have z335 : q_ir (q_r f247 mo 13) sr := Eq.trans (hF.r hmo (by rw [kmo]; rfl)) z215
      have z336 : q_ir (q_r f247 mo 14) sd := Eq.trans (hF.r hmo (by rw [kmo]; rfl)) z216
      have z337 : q_ir (q_r f247 mo 15) as := Eq.trans (hF.r hmo (by rw [kmo]; rfl)) z217
      have z338 : q_ir (q_r f247 mo 16) aw := Eq.trans (hF.r hmo (by rw [kmo]; rfl)) z218
      have z339 : q_ir (q_r f247 mo 17) pa := Eq.trans (hF.r hmo (by rw [kmo]; rfl)) z219
      have z340 : q_ir (q_r f247 mo 18) nm := Eq.trans (hF.r hmo (by rw [kmo]; rfl)) z220
      have z341 : q_ir (q_r f247 mo 19) snm := Eq.trans (hF.r hmo (by rw [kmo]; rfl)) z221
      have z342 : q_ir (q_r f247 mo 20) anm := Eq.trans (hF.r hmo (by rw [kmo]; rfl)) z222
      have z343 : q_ir (q_r f247 mo 24) hp := Eq.trans (hF.r hmo (by rw [kmo]; rfl)) z223
      have z344 : q_ir (q_r f247 mo 25) dy := Eq.trans (hF.r hmo (by rw [kmo]; rfl)) z224
      have z345 : q_ir (q_r f247 mo 29) cs := Eq.trans (hF.r hmo (by rw [kmo]; rfl)) z225
      have z346 : q_ir (q_r f247 mo 30) c1 := Eq.trans (hF.r hmo (by rw [kmo]; rfl)) z226
      have z347 : q_ir (q_r f247 mo 31) c2 := Eq.trans (hF.r hmo (by rw [kmo]; rfl)) z227
      have z348 : q_ir (q_r f247 mo 32) c3 := Eq.trans (hF.r hmo (by rw [kmo]; rfl)) z228
      have z349 : q_ir (q_r f247 mo 33) bg := Eq.trans (hF.r hmo (by rw [kmo]; rfl)) z229
      have z350 : q_ir (q_r f247 mo 34) lp := Eq.trans (hF.r hmo (by rw [kmo]; rfl)) z230
      have z351 : q_ir (q_r f247 mo 38) rp := Eq.trans (hF.r hmo (by rw [kmo]; rfl)) z231
      have g352 : q_gr f247 sr := q_gr_fr g232 (fun i9 _ => hF.z hsr (by rw [ksr]; rfl))
      have g353 : q_z f247 x 9 = q_z f247 mo 22 := tk_s2_tr g233 (hF.z hx (by rw [kx]; rfl)) (hF.z hmo (by rw [kmo]; rfl))
      have g354 : q_pk f247 mo pa := q_pk_tr g234 (hF.z hmo (by rw [kmo]; rfl)) (fun i9 => hF.z hpa (by rw [kpa]; rfl))
      have g355 : q_sv f247 mo sd := q_sv_tr g235 (hF.z hmo (by rw [kmo]; rfl)) (fun i9 => hF.z hsd (by rw [ksd]; rfl))
      have g356 : tk_bb f247 bu ba tn := tk_bb_tr g236 (fun i9 => hF.z hbu (by rw [kbu]; rfl)) (fun i9 => hF.z hba (by rw [kba]; rfl))
      have g357 : tk_ij K L f247 nds := tk_ij_tr g237 (fun i9 => hF.r hnds (by rw [knds]; rfl))
      have g358 : tk_c3 K L f247 cmds := tk_c3_tr g238 (fun i9 => hF.r hcmds (by rw [kcmds]; rfl))
      have g359 : q_z f247 so 2 = q_z f247 mo 10 := tk_e2_tr g239 (hF.z hso (by rw [kso]; rfl)) (hF.z hmo (by rw [kmo]; rfl))
      have g360 : q_z f247 so 3 = q_z f247 mo 11 := tk_e2_tr g240 (hF.z hso (by rw [kso]; rfl)) (hF.z hmo (by rw [kmo]; rfl))
      have g361 : tk_vn K L 5 f247 now ndn nl9 := tk_vn_tr g241 (hF.z hnow (by rw [know]; rfl)) (fun a9 h9 k9 => hF.j h9 (by rw [k9]; rfl)) (fun i9 => hF.r hndn (by rw [kndn]; rfl))
      have g362 : tk_vk K L f247 hist ka now ndn := tk_vk_tr g242 (hF.z hhist (by rw [khist]; rfl)) (hF.z hhist (by rw [khist]; rfl)) (hF.z hnow (by rw [know]; rfl)) (fun a9 h9 k9 => hF.j h9 (by rw [k9]; rfl)) (fun i9 => hF.r hndn (by rw [kndn]; rfl)) (fun a9 h9 k9 => hF.z h9 (by rw [k9]; rfl)) (fun a9 h9 k9 => hF.j h9 (by rw [k9]; rfl)) (fun i9 => hF.r hka (by rw [kka]; rfl)) (fun a9 h9 k9 => hF.r h9 (by rw [k9]; rfl)) (fun a9 h9 k9 i9 => hF.r h9 (by rw [k9]; rfl))
      have g363 : tk_vs K L f247 x sv nsv ls9 := tk_vs_tr g243 (hF.z hx (by rw [kx]; rfl)) (hF.z hsv (by rw [ksv]; rfl)) (fun a9 h9 k9 => hF.j h9 (by rw [k9]; rfl)) (fun i9 => hF.r hnsv (by rw [knsv]; rfl))
      have g364 : tk_nq f247 nm nl9 := tk_nq_tr g244 (fun i9 => hF.j hnm (by rw [knm]; rfl))
      have g365 : tk_rs f247 mo sd snm ls9 := tk_rs_tr g245 (hF.z hmo (by rw [kmo]; rfl)) (fun i9 h9 k9 => hF.z hsd (by rw [ksd]; exact q_inWr rfl h9 k9)) (fun i9 => hF.j hsnm (by rw [ksnm]; rfl))
      have g366 : q_pc f247 mo pa xc := q_pc_tr g246 (hF.z hmo (by rw [kmo]; rfl)) (fun i9 => hF.z hpa (by rw [kpa]; rfl))
      subst qy248
      refine lv_istore (lv' := [(7, .int (q_i 0)), (6, .int (q_i 1)), (5, .int (q_i ii)), (4, .ref outD), (3, .ref out), (2, .ref mo), (1, .ref x), (0, .ref b)]) cx.1 cx.2.1 dL_law_565 hl (by decide) rfl (fun ls hl => ?_)
      refine lv_goto (tgt := 1493) cx.1 cx.2.1 dL_law_567 (by decide) ?_
      refine W.widen (k := cells + 6) (n := slots + 36) (by omega) (by omega) ?_
      exact kk f247 H locs ls tn nl9 ls9 xc hB ⟨⟨z312, (Eq.trans z313 (by omega)), by omega, by omega⟩, g352, g354, g355, q_isu z315 (by omega), q_isu z316 (by omega), tk_bb_le g356 (by omega), z314, by omega, g361, g362, g363, g364, g365, g366, g353, g359, g360⟩ (lv_sub hl [2, 3, 4, 5, 6, 7] rfl)
