set_option maxHeartbeats 4000000 in
set_option maxRecDepth 100000 in
theorem law_c490 {p : Program} {l : Launch} {e : Env} {s : State} {m : MethodId} {below : List Frame} {meth : Method} {c : Code} {b N9 : Nat} {xs : Nat → Int32} (hfl : l.stackTraces = false) (hN9 : N9 ≤ 3072) (C0 : lw_At p s m meth c b N9 xs) (cx : CallFix p m c cL_law 10 s #[Value.ref b] q_al RL) {g : q_G} {ad : Nat → Nat} {K : Nat → Nat} {L : List Nat} (hN : L.Nodup) (hLA : ∀ q, q ∈ L → s.heap.size ≤ q) (hX : q_X ad (fun q => q ∈ L) s) {f0 : Nat → va_E} {x : Nat} (hx : x ∈ L) (kx : K x = 11) {so : Nat} (hso : so ∈ L) (kso : K so = 8) {rd : Nat} (hrd : rd ∈ L) (krd : K rd = 9) {scr : Nat} (hscr : scr ∈ L) (kscr : K scr = 7) {fc : Nat} (hfc : fc ∈ L) (kfc : K fc = 1) {hist : Nat} (hhist : hist ∈ L) (khist : K hist = 2) {rep : Nat} (hrep : rep ∈ L) (krep : K rep = 6) {now : Nat} (hnow : now ∈ L) (know : K now = 10) {dr : Nat} (hdr : dr ∈ L) (kdr : K dr = 13) {sv : Nat} (hsv : sv ∈ L) (ksv : K sv = 14) {tr : Nat} (htr : tr ∈ L) (ktr : K tr = 15) {ba : Nat} (hba : ba ∈ L) (kba : K ba = 142) {nds : Nat} (hnds : nds ∈ L) (knds : K nds = 111) {ka : Nat} (hka : ka ∈ L) (kka : K ka = 140) {ndn : Nat} (hndn : ndn ∈ L) (kndn : K ndn = 110) {nsv : Nat} (hnsv : nsv ∈ L) (knsv : K nsv = 112) {mo : Nat} (hmo : mo ∈ L) (kmo : K mo = 12) {bu : Nat} (hbu : bu ∈ L) (kbu : K bu = 150) {sr : Nat} (hsr : sr ∈ L) (ksr : K sr = 151) {sd : Nat} (hsd : sd ∈ L) (ksd : K sd = 152) {as : Nat} (has : as ∈ L) (kas : K as = 153) {aw : Nat} (haw : aw ∈ L) (kaw : K aw = 154) {pa : Nat} (hpa : pa ∈ L) (kpa : K pa = 155) {nm : Nat} (hnm : nm ∈ L) (knm : K nm = 156) {snm : Nat} (hsnm : snm ∈ L) (ksnm : K snm = 157) {anm : Nat} (hanm : anm ∈ L) (kanm : K anm = 158) {hp : Nat} (hhp : hp ∈ L) (khp : K hp = 159) {dy : Nat} (hdy : dy ∈ L) (kdy : K dy = 160) {cs : Nat} (hcs : cs ∈ L) (kcs : K cs = 161) {c1 : Nat} (hc1 : c1 ∈ L) (kc1 : K c1 = 162) {c2 : Nat} (hc2 : c2 ∈ L) (kc2 : K c2 = 163) {c3 : Nat} (hc3 : c3 ∈ L) (kc3 : K c3 = 164) {bg : Nat} (hbg : bg ∈ L) (kbg : K bg = 165) {lp : Nat} (hlp : lp ∈ L) (klp : K lp = 166) {rp : Nat} (hrp : rp ∈ L) (krp : K rp = 167) {out : Nat} (hout : out ∈ L) (kout : K out = 168) {outD : Nat} (houtD : outD ∈ L) (koutD : K outD = 169) (hr0 : q_ir (q_r f0 x 0) so) (hr1 : q_ir (q_r f0 x 1) rd) (hr2 : q_ir (q_r f0 x 2) scr) (hr3 : q_ir (q_r f0 x 3) fc) (hr4 : q_ir (q_r f0 x 4) hist) (hr5 : q_ir (q_r f0 x 5) rep) (hr6 : q_ir (q_r f0 x 6) now) (hr7 : q_ir (q_r f0 x 7) dr) (hr8 : q_ir (q_r f0 x 8) sv) (hr9 : q_ir (q_r f0 fc 0) tr) (hr10 : q_ir (q_r f0 so 0) ba) (hr11 : q_ir (q_r f0 dr 0) nds) (hr12 : q_ir (q_r f0 hist 0) ka) (hr13 : q_ir (q_r f0 now 0) ndn) (hr14 : q_ir (q_r f0 sv 0) nsv) (hr15 : q_ir (q_r f0 mo 1) bu) (hr16 : q_ir (q_r f0 mo 13) sr) (hr17 : q_ir (q_r f0 mo 14) sd) (hr18 : q_ir (q_r f0 mo 15) as) (hr19 : q_ir (q_r f0 mo 16) aw) (hr20 : q_ir (q_r f0 mo 17) pa) (hr21 : q_ir (q_r f0 mo 18) nm) (hr22 : q_ir (q_r f0 mo 19) snm) (hr23 : q_ir (q_r f0 mo 20) anm) (hr24 : q_ir (q_r f0 mo 24) hp) (hr25 : q_ir (q_r f0 mo 25) dy) (hr26 : q_ir (q_r f0 mo 29) cs) (hr27 : q_ir (q_r f0 mo 30) c1) (hr28 : q_ir (q_r f0 mo 31) c2) (hr29 : q_ir (q_r f0 mo 32) c3) (hr30 : q_ir (q_r f0 mo 33) bg) (hr31 : q_ir (q_r f0 mo 34) lp) (hr32 : q_ir (q_r f0 mo 38) rp) (hij : tk_ij K L f0 nds) {f : Nat → va_E} {H : Heap} {locs : List Loc} {ls : Array Slot} {cells slots : Nat} {ii tn : Int} {nl9 ls9 : List (List Int)} {xc : Int} (hB : q_B g K L (fun q => s.heap.size ≤ q) [(0, 0, 6), (2, 1, 2), (3, 0, 4), (4, 0, 7), (5, 0, 9), (6, 1, 1), (7, 1, 4), (8, 1, 9), (9, 0, 2), (10, 3, 15), (11, 9, 9), (12, 0, 0), (12, 2, 12), (12, 21, 23), (12, 26, 28), (12, 35, 37), (12, 39, 40), (13, 3, 15), (14, 3, 15), (15, 3, 15), (16, 3, 15), (17, 0, 9), (18, 0, 9), (19, 0, 9), (20, 0, 9), (21, 0, 4), (22, 0, 4), (23, 0, 4), (24, 0, 4), (25, 0, 7), (26, 0, 7), (27, 0, 7), (28, 0, 7), (142, 0, 599), (143, 0, 599), (150, 0, 599), (151, 0, 657), (152, 0, 657), (153, 0, 657), (154, 0, 657), (155, 0, 3947), (156, 0, 9), (157, 0, 9), (158, 0, 9), (159, 0, 9), (160, 0, 9), (161, 0, 59), (162, 0, 58), (163, 0, 58), (164, 0, 58), (165, 0, 1), (166, 0, 1), (167, 0, 479), (168, 0, 0), (169, 0, 0)] f0 f s H locs) (hI : q_Iv5 K L f x so mo sr pa sd bu ba now ndn hist ka sv nsv nm snm tn nl9 ls9 xc) (hl : lv_has ls 10 [(5, .int (q_i ii)), (4, .ref outD), (3, .ref out), (2, .ref mo), (1, .ref x), (0, .ref b)]) (hi0 : 0 ≤ ii) (hi6 : ii + 6 ≤ N9) (hce : cells + 6 ≤ 10000) (hse : slots + 36 ≤ 100000) (kk : ∀ (f1 : Nat → va_E) (H1 : Heap) (locs1 : List Loc) (ls1 : Array Slot) (tn1 : Int) (nl1 ls1_ : List (List Int)) (xc1 : Int), q_B g K L (fun q => s.heap.size ≤ q) [(0, 0, 6), (2, 1, 2), (3, 0, 4), (4, 0, 7), (5, 0, 9), (6, 1, 1), (7, 1, 4), (8, 1, 9), (9, 0, 2), (10, 3, 15), (11, 9, 9), (12, 0, 0), (12, 2, 12), (12, 21, 23), (12, 26, 28), (12, 35, 37), (12, 39, 40), (13, 3, 15), (14, 3, 15), (15, 3, 15), (16, 3, 15), (17, 0, 9), (18, 0, 9), (19, 0, 9), (20, 0, 9), (21, 0, 4), (22, 0, 4), (23, 0, 4), (24, 0, 4), (25, 0, 7), (26, 0, 7), (27, 0, 7), (28, 0, 7), (142, 0, 599), (143, 0, 599), (150, 0, 599), (151, 0, 657), (152, 0, 657), (153, 0, 657), (154, 0, 657), (155, 0, 3947), (156, 0, 9), (157, 0, 9), (158, 0, 9), (159, 0, 9), (160, 0, 9), (161, 0, 59), (162, 0, 58), (163, 0, 58), (164, 0, 58), (165, 0, 1), (166, 0, 1), (167, 0, 479), (168, 0, 0), (169, 0, 0)] f0 f1 s H1 locs1 → q_Iv5 K L f1 x so mo sr pa sd bu ba now ndn hist ka sv nsv nm snm tn1 nl1 ls1_ xc1 → lv_has ls1 10 [(5, .int (q_i ii)), (4, .ref outD), (3, .ref out), (2, .ref mo), (1, .ref x), (0, .ref b)] → W p l e room_1 s m #[Value.ref b] below meth c H1 locs1 (cells + 6) (slots + 36) (lw_Z below #[Value.ref b] s) (F0 m 1521 ls1 [])) : W p l e room_1 s m #[Value.ref b] below meth c H locs (cells) (slots) (lw_Z below #[Value.ref b] s) (F0 m 490 ls []) := by
  have hXs := C0.2.2.2.2.2.2.1
  have hbl := C0.2.2.2.2.2.2.2.1
  have hbA := q_bA hbl
  obtain ⟨⟨hn0, hn1, ltn, utn⟩, hgr, hpk, hsd9, ht3, ht4, hbb, hsr0, hxc, hvn, hvk, hvs, hrn9, hrs9, hpc, hs22⟩ := hI
  have lxc : 0 ≤ xc := by omega
  have uxc : xc ≤ 10 := by have h7 := hvn.2.1.2; omega
  have hr0 : q_ir (q_r f x 0) so := Eq.trans (hB.2.2.r hx (by rw [kx]; rfl)) hr0
  have hr1 : q_ir (q_r f x 1) rd := Eq.trans (hB.2.2.r hx (by rw [kx]; rfl)) hr1
  have hr2 : q_ir (q_r f x 2) scr := Eq.trans (hB.2.2.r hx (by rw [kx]; rfl)) hr2
  have hr3 : q_ir (q_r f x 3) fc := Eq.trans (hB.2.2.r hx (by rw [kx]; rfl)) hr3
  have hr4 : q_ir (q_r f x 4) hist := Eq.trans (hB.2.2.r hx (by rw [kx]; rfl)) hr4
  have hr5 : q_ir (q_r f x 5) rep := Eq.trans (hB.2.2.r hx (by rw [kx]; rfl)) hr5
  have hr6 : q_ir (q_r f x 6) now := Eq.trans (hB.2.2.r hx (by rw [kx]; rfl)) hr6
  have hr7 : q_ir (q_r f x 7) dr := Eq.trans (hB.2.2.r hx (by rw [kx]; rfl)) hr7
  have hr8 : q_ir (q_r f x 8) sv := Eq.trans (hB.2.2.r hx (by rw [kx]; rfl)) hr8
  have hr9 : q_ir (q_r f fc 0) tr := Eq.trans (hB.2.2.r hfc (by rw [kfc]; rfl)) hr9
  have hr10 : q_ir (q_r f so 0) ba := Eq.trans (hB.2.2.r hso (by rw [kso]; rfl)) hr10
  have hr11 : q_ir (q_r f dr 0) nds := Eq.trans (hB.2.2.r hdr (by rw [kdr]; rfl)) hr11
  have hr12 : q_ir (q_r f hist 0) ka := Eq.trans (hB.2.2.r hhist (by rw [khist]; rfl)) hr12
  have hr13 : q_ir (q_r f now 0) ndn := Eq.trans (hB.2.2.r hnow (by rw [know]; rfl)) hr13
  have hr14 : q_ir (q_r f sv 0) nsv := Eq.trans (hB.2.2.r hsv (by rw [ksv]; rfl)) hr14
  have hr15 : q_ir (q_r f mo 1) bu := Eq.trans (hB.2.2.r hmo (by rw [kmo]; rfl)) hr15
  have hr16 : q_ir (q_r f mo 13) sr := Eq.trans (hB.2.2.r hmo (by rw [kmo]; rfl)) hr16
  have hr17 : q_ir (q_r f mo 14) sd := Eq.trans (hB.2.2.r hmo (by rw [kmo]; rfl)) hr17
  have hr18 : q_ir (q_r f mo 15) as := Eq.trans (hB.2.2.r hmo (by rw [kmo]; rfl)) hr18
  have hr19 : q_ir (q_r f mo 16) aw := Eq.trans (hB.2.2.r hmo (by rw [kmo]; rfl)) hr19
  have hr20 : q_ir (q_r f mo 17) pa := Eq.trans (hB.2.2.r hmo (by rw [kmo]; rfl)) hr20
  have hr21 : q_ir (q_r f mo 18) nm := Eq.trans (hB.2.2.r hmo (by rw [kmo]; rfl)) hr21
  have hr22 : q_ir (q_r f mo 19) snm := Eq.trans (hB.2.2.r hmo (by rw [kmo]; rfl)) hr22
  have hr23 : q_ir (q_r f mo 20) anm := Eq.trans (hB.2.2.r hmo (by rw [kmo]; rfl)) hr23
  have hr24 : q_ir (q_r f mo 24) hp := Eq.trans (hB.2.2.r hmo (by rw [kmo]; rfl)) hr24
  have hr25 : q_ir (q_r f mo 25) dy := Eq.trans (hB.2.2.r hmo (by rw [kmo]; rfl)) hr25
  have hr26 : q_ir (q_r f mo 29) cs := Eq.trans (hB.2.2.r hmo (by rw [kmo]; rfl)) hr26
  have hr27 : q_ir (q_r f mo 30) c1 := Eq.trans (hB.2.2.r hmo (by rw [kmo]; rfl)) hr27
  have hr28 : q_ir (q_r f mo 31) c2 := Eq.trans (hB.2.2.r hmo (by rw [kmo]; rfl)) hr28
  have hr29 : q_ir (q_r f mo 32) c3 := Eq.trans (hB.2.2.r hmo (by rw [kmo]; rfl)) hr29
  have hr30 : q_ir (q_r f mo 33) bg := Eq.trans (hB.2.2.r hmo (by rw [kmo]; rfl)) hr30
  have hr31 : q_ir (q_r f mo 34) lp := Eq.trans (hB.2.2.r hmo (by rw [kmo]; rfl)) hr31
  have hr32 : q_ir (q_r f mo 38) rp := Eq.trans (hB.2.2.r hmo (by rw [kmo]; rfl)) hr32
  have hij : tk_ij K L f nds := tk_ij_tr hij (fun i9 => hB.2.2.r hnds (by rw [knds]; rfl))
  obtain ⟨x1, ex1⟩ : ∃ zz, q_is (q_z f sr 3) zz := ⟨_, q_isr _⟩
  obtain ⟨lx1, ux1⟩ : 0 ≤ x1 ∧ x1 ≤ 9999 := q_isb ex1 ⟨(hgr 3 (by decide)).1, ht3⟩
  obtain ⟨x2, ex2⟩ : ∃ zz, q_is (q_z f sr 4) zz := ⟨_, q_isr _⟩
  obtain ⟨lx2, ux2⟩ : 0 ≤ x2 ∧ x2 ≤ 60 := q_isb ex2 ⟨(hgr 4 (by decide)).1, ht4⟩
  refine q_ald_n cx dL_law_490 rfl (lv_at hl 4 rfl) ?_
  refine q_ald_n cx dL_law_491 rfl (lv_at hl 5 rfl) ?_
  refine lv_iload cx.1 cx.2.1 dL_law_492 (lv_at hl 0 rfl) ?_
  refine q_iconst cx dL_law_494 ?_
  refine q_iadd cx dL_law_495 ?_
  refine va_sld cx.1 cx.2.1 hXs hbl hbA hB.1.2.2.2 (q_in (by omega) (by omega) (by omega)) dL_law_496 ?_
  obtain ⟨a3, ra3, ea3⟩ : ∃ z : Int, q_R z ∧ xs (q_i (ii + 1)).toNatClampNeg = q_i z := ⟨_, q_rng _, (q_of _).symm⟩
  rw [ea3]
  refine q_ald_n cx dL_law_497 rfl (lv_at hl 5 rfl) ?_
  refine lv_iload cx.1 cx.2.1 dL_law_498 (lv_at hl 0 rfl) ?_
  refine q_iconst cx dL_law_500 ?_
  refine q_iadd cx dL_law_501 ?_
  refine va_sld cx.1 cx.2.1 hXs hbl hbA hB.1.2.2.2 (q_in (by omega) (by omega) (by omega)) dL_law_502 ?_
  obtain ⟨a4, ra4, ea4⟩ : ∃ z : Int, q_R z ∧ xs (q_i (ii + 2)).toNatClampNeg = q_i z := ⟨_, q_rng _, (q_of _).symm⟩
  rw [ea4]
  refine q_ald_n cx dL_law_503 rfl (lv_at hl 2 rfl) ?_
  refine q_cWS (As := [.ref x, .int (q_i a3), .int (q_i a4), .ref out]) (rest := []) cx hX hB (fun q h => hLA q h) (fun q h1 h2 => absurd h1 (Nat.not_le_of_lt h2)) hN (w_message l g ad hN hB.2.1 hfl x hx kx a3 (by omega) (by omega) a4 (by omega) (by omega) out hout kout so hso kso rd hrd krd scr hscr kscr fc hfc kfc hist hhist khist rep hrep krep now hnow know dr hdr kdr sv hsv ksv tr htr ktr hr0 hr1 hr2 hr3 hr4 hr5 hr6 hr7 hr8 hr9) q_cL_153 q_dL_message ⟨by decide, by show cells + 2 ≤ 601024; omega, by show slots + 12 ≤ 7293034; omega⟩ rfl rfl hl.1 rfl (Nat.le_of_ble_eq_true rfl) dL_law_504 (fun v9 H locs f5 h7 hF hB => ?_)
  obtain ⟨y6, rfl, ry6, h7⟩ := h7
  refine W.eq (g2 := F0 m 507 ls [.int (q_i y6)]) rfl ?_
  obtain ⟨ly6, uy6⟩ := h7
  have z8 : q_is (q_z f5 so 1) tn := Eq.trans (hF.z hso (by rw [kso]; rfl)) hn0
  have z9 : q_is (q_z f5 mo 2) tn := Eq.trans (hF.z hmo (by rw [kmo]; rfl)) hn1
  have z10 : q_is (q_z f5 sr 0) xc := Eq.trans (hF.z hsr (by rw [ksr]; rfl)) hsr0
  have z11 : q_is (q_z f5 sr 3) x1 := Eq.trans (hF.z hsr (by rw [ksr]; rfl)) ex1
  have z12 : q_is (q_z f5 sr 4) x2 := Eq.trans (hF.z hsr (by rw [ksr]; rfl)) ex2
  have z13 : q_ir (q_r f5 x 0) so := Eq.trans (hF.r hx (by rw [kx]; rfl)) hr0
  have z14 : q_ir (q_r f5 x 1) rd := Eq.trans (hF.r hx (by rw [kx]; rfl)) hr1
  have z15 : q_ir (q_r f5 x 2) scr := Eq.trans (hF.r hx (by rw [kx]; rfl)) hr2
  have z16 : q_ir (q_r f5 x 3) fc := Eq.trans (hF.r hx (by rw [kx]; rfl)) hr3
  have z17 : q_ir (q_r f5 x 4) hist := Eq.trans (hF.r hx (by rw [kx]; rfl)) hr4
  have z18 : q_ir (q_r f5 x 5) rep := Eq.trans (hF.r hx (by rw [kx]; rfl)) hr5
  have z19 : q_ir (q_r f5 x 6) now := Eq.trans (hF.r hx (by rw [kx]; rfl)) hr6
  have z20 : q_ir (q_r f5 x 7) dr := Eq.trans (hF.r hx (by rw [kx]; rfl)) hr7
  have z21 : q_ir (q_r f5 x 8) sv := Eq.trans (hF.r hx (by rw [kx]; rfl)) hr8
  have z22 : q_ir (q_r f5 fc 0) tr := Eq.trans (hF.r hfc (by rw [kfc]; rfl)) hr9
  have z23 : q_ir (q_r f5 so 0) ba := Eq.trans (hF.r hso (by rw [kso]; rfl)) hr10
  have z24 : q_ir (q_r f5 dr 0) nds := Eq.trans (hF.r hdr (by rw [kdr]; rfl)) hr11
  have z25 : q_ir (q_r f5 hist 0) ka := Eq.trans (hF.r hhist (by rw [khist]; rfl)) hr12
  have z26 : q_ir (q_r f5 now 0) ndn := Eq.trans (hF.r hnow (by rw [know]; rfl)) hr13
  have z27 : q_ir (q_r f5 sv 0) nsv := Eq.trans (hF.r hsv (by rw [ksv]; rfl)) hr14
  have z28 : q_ir (q_r f5 mo 1) bu := Eq.trans (hF.r hmo (by rw [kmo]; rfl)) hr15
  have z29 : q_ir (q_r f5 mo 13) sr := Eq.trans (hF.r hmo (by rw [kmo]; rfl)) hr16
  have z30 : q_ir (q_r f5 mo 14) sd := Eq.trans (hF.r hmo (by rw [kmo]; rfl)) hr17
  have z31 : q_ir (q_r f5 mo 15) as := Eq.trans (hF.r hmo (by rw [kmo]; rfl)) hr18
  have z32 : q_ir (q_r f5 mo 16) aw := Eq.trans (hF.r hmo (by rw [kmo]; rfl)) hr19
  have z33 : q_ir (q_r f5 mo 17) pa := Eq.trans (hF.r hmo (by rw [kmo]; rfl)) hr20
  have z34 : q_ir (q_r f5 mo 18) nm := Eq.trans (hF.r hmo (by rw [kmo]; rfl)) hr21
  have z35 : q_ir (q_r f5 mo 19) snm := Eq.trans (hF.r hmo (by rw [kmo]; rfl)) hr22
  have z36 : q_ir (q_r f5 mo 20) anm := Eq.trans (hF.r hmo (by rw [kmo]; rfl)) hr23
  have z37 : q_ir (q_r f5 mo 24) hp := Eq.trans (hF.r hmo (by rw [kmo]; rfl)) hr24
  have z38 : q_ir (q_r f5 mo 25) dy := Eq.trans (hF.r hmo (by rw [kmo]; rfl)) hr25
  have z39 : q_ir (q_r f5 mo 29) cs := Eq.trans (hF.r hmo (by rw [kmo]; rfl)) hr26
  have z40 : q_ir (q_r f5 mo 30) c1 := Eq.trans (hF.r hmo (by rw [kmo]; rfl)) hr27
  have z41 : q_ir (q_r f5 mo 31) c2 := Eq.trans (hF.r hmo (by rw [kmo]; rfl)) hr28
  have z42 : q_ir (q_r f5 mo 32) c3 := Eq.trans (hF.r hmo (by rw [kmo]; rfl)) hr29
  have z43 : q_ir (q_r f5 mo 33) bg := Eq.trans (hF.r hmo (by rw [kmo]; rfl)) hr30
  have z44 : q_ir (q_r f5 mo 34) lp := Eq.trans (hF.r hmo (by rw [kmo]; rfl)) hr31
  have z45 : q_ir (q_r f5 mo 38) rp := Eq.trans (hF.r hmo (by rw [kmo]; rfl)) hr32
  have g46 : q_gr f5 sr := q_gr_fr hgr (fun i9 _ => hF.z hsr (by rw [ksr]; rfl))
  have g47 : q_z f5 x 9 = q_z f5 mo 22 := tk_s2_tr hs22 (hF.z hx (by rw [kx]; rfl)) (hF.z hmo (by rw [kmo]; rfl))
  have g48 : q_pk f5 mo pa := q_pk_tr hpk (hF.z hmo (by rw [kmo]; rfl)) (fun i9 => hF.z hpa (by rw [kpa]; rfl))
  have g49 : q_sv f5 mo sd := q_sv_tr hsd9 (hF.z hmo (by rw [kmo]; rfl)) (fun i9 => hF.z hsd (by rw [ksd]; rfl))
  have g50 : tk_bb f5 bu ba tn := tk_bb_tr hbb (fun i9 => hF.z hbu (by rw [kbu]; rfl)) (fun i9 => hF.z hba (by rw [kba]; rfl))
  have g51 : tk_ij K L f5 nds := tk_ij_tr hij (fun i9 => hF.r hnds (by rw [knds]; rfl))
  have g52 : tk_vn K L 5 f5 now ndn nl9 := tk_vn_tr hvn (hF.z hnow (by rw [know]; rfl)) (fun a9 h9 k9 => hF.j h9 (by rw [k9]; rfl)) (fun i9 => hF.r hndn (by rw [kndn]; rfl))
  have g53 : tk_vk K L f5 hist ka now ndn := tk_vk_tr hvk (hF.z hhist (by rw [khist]; rfl)) (hF.z hhist (by rw [khist]; rfl)) (hF.z hnow (by rw [know]; rfl)) (fun a9 h9 k9 => hF.j h9 (by rw [k9]; rfl)) (fun i9 => hF.r hndn (by rw [kndn]; rfl)) (fun a9 h9 k9 => hF.z h9 (by rw [k9]; rfl)) (fun a9 h9 k9 => hF.j h9 (by rw [k9]; rfl)) (fun i9 => hF.r hka (by rw [kka]; rfl)) (fun a9 h9 k9 => hF.r h9 (by rw [k9]; rfl)) (fun a9 h9 k9 i9 => hF.r h9 (by rw [k9]; rfl))
  have g54 : tk_vs K L f5 x sv nsv ls9 := tk_vs_tr hvs (hF.z hx (by rw [kx]; rfl)) (hF.z hsv (by rw [ksv]; rfl)) (fun a9 h9 k9 => hF.j h9 (by rw [k9]; rfl)) (fun i9 => hF.r hnsv (by rw [knsv]; rfl))
  have g55 : tk_nq f5 nm nl9 := tk_nq_tr hrn9 (fun i9 => hF.j hnm (by rw [knm]; rfl))
  have g56 : tk_rs f5 mo sd snm ls9 := tk_rs_tr hrs9 (hF.z hmo (by rw [kmo]; rfl)) (fun i9 h9 k9 => hF.z hsd (by rw [ksd]; exact q_inWr rfl h9 k9)) (fun i9 => hF.j hsnm (by rw [ksnm]; rfl))
  have g57 : q_pc f5 mo pa xc := q_pc_tr hpc (hF.z hmo (by rw [kmo]; rfl)) (fun i9 => hF.z hpa (by rw [kpa]; rfl))
  refine lv_istore (lv' := [(6, .int (q_i y6)), (5, .int (q_i ii)), (4, .ref outD), (3, .ref out), (2, .ref mo), (1, .ref x), (0, .ref b)]) cx.1 cx.2.1 dL_law_507 hl (by decide) rfl (fun ls hl => ?_)
  refine q_ald_n cx dL_law_509 rfl (lv_at hl 4 rfl) ?_
  refine q_ald_n cx dL_law_510 rfl (lv_at hl 6 rfl) ?_
  refine lv_iload cx.1 cx.2.1 dL_law_511 (lv_at hl 1 rfl) ?_
  refine q_iconst cx dL_law_513 ?_
  refine q_iadd cx dL_law_514 ?_
  refine va_sld cx.1 cx.2.1 hXs hbl hbA hB.1.2.2.2 (q_in (by omega) (by omega) (by omega)) dL_law_515 ?_
  rw [ea3]
  refine q_ald_n cx dL_law_516 rfl (lv_at hl 6 rfl) ?_
  refine lv_iload cx.1 cx.2.1 dL_law_517 (lv_at hl 1 rfl) ?_
  refine q_iconst cx dL_law_519 ?_
  refine q_iadd cx dL_law_520 ?_
  refine va_sld cx.1 cx.2.1 hXs hbl hbA hB.1.2.2.2 (q_in (by omega) (by omega) (by omega)) dL_law_521 ?_
  rw [ea4]
  refine q_cVi (As := [.int (q_i a3), .int (q_i a4)]) (rest := []) cx hB (fun q h => hLA q h) hN hmo kmo (by decide) rfl (r_message l g hN hB.2.1 mo hmo kmo a3 (by omega) (by omega) a4 (by omega) (by omega) sr hsr ksr x1 (by omega) (by omega) x2 (by omega) (by omega) xc (by omega) (by omega) z11 z12 z10 z29 g46) q_cL_155 q_dX12_message ⟨by decide, by show cells + 2 ≤ 601024; omega, by show slots + 12 ≤ 7293034; omega⟩ rfl rfl hl.1 rfl (Nat.le_of_ble_eq_true rfl) dL_law_522 (fun y59 H locs f58 ry59 h60 hF hB => ?_)
  have z61 : q_is (q_z f58 so 1) tn := Eq.trans (hF.z hso (by rw [kso]; rfl)) z8
  have z62 : q_is (q_z f58 mo 2) tn := Eq.trans (hF.z hmo (by rw [kmo]; rfl)) z9
  have z63 : q_is (q_z f58 sr 0) xc := Eq.trans (hF.z hsr (by rw [ksr]; rfl)) z10
  have z64 : q_is (q_z f58 sr 3) x1 := Eq.trans (hF.z hsr (by rw [ksr]; rfl)) z11
  have z65 : q_is (q_z f58 sr 4) x2 := Eq.trans (hF.z hsr (by rw [ksr]; rfl)) z12
  have z66 : q_ir (q_r f58 x 0) so := Eq.trans (hF.r hx (by rw [kx]; rfl)) z13
  have z67 : q_ir (q_r f58 x 1) rd := Eq.trans (hF.r hx (by rw [kx]; rfl)) z14
  have z68 : q_ir (q_r f58 x 2) scr := Eq.trans (hF.r hx (by rw [kx]; rfl)) z15
  have z69 : q_ir (q_r f58 x 3) fc := Eq.trans (hF.r hx (by rw [kx]; rfl)) z16
  have z70 : q_ir (q_r f58 x 4) hist := Eq.trans (hF.r hx (by rw [kx]; rfl)) z17
  have z71 : q_ir (q_r f58 x 5) rep := Eq.trans (hF.r hx (by rw [kx]; rfl)) z18
  have z72 : q_ir (q_r f58 x 6) now := Eq.trans (hF.r hx (by rw [kx]; rfl)) z19
  have z73 : q_ir (q_r f58 x 7) dr := Eq.trans (hF.r hx (by rw [kx]; rfl)) z20
  have z74 : q_ir (q_r f58 x 8) sv := Eq.trans (hF.r hx (by rw [kx]; rfl)) z21
  have z75 : q_ir (q_r f58 fc 0) tr := Eq.trans (hF.r hfc (by rw [kfc]; rfl)) z22
  have z76 : q_ir (q_r f58 so 0) ba := Eq.trans (hF.r hso (by rw [kso]; rfl)) z23
  have z77 : q_ir (q_r f58 dr 0) nds := Eq.trans (hF.r hdr (by rw [kdr]; rfl)) z24
  have z78 : q_ir (q_r f58 hist 0) ka := Eq.trans (hF.r hhist (by rw [khist]; rfl)) z25
  have z79 : q_ir (q_r f58 now 0) ndn := Eq.trans (hF.r hnow (by rw [know]; rfl)) z26
  have z80 : q_ir (q_r f58 sv 0) nsv := Eq.trans (hF.r hsv (by rw [ksv]; rfl)) z27
  have z81 : q_ir (q_r f58 mo 1) bu := Eq.trans (hF.r hmo (by rw [kmo]; rfl)) z28
  have z82 : q_ir (q_r f58 mo 13) sr := Eq.trans (hF.r hmo (by rw [kmo]; rfl)) z29
  have z83 : q_ir (q_r f58 mo 14) sd := Eq.trans (hF.r hmo (by rw [kmo]; rfl)) z30
  have z84 : q_ir (q_r f58 mo 15) as := Eq.trans (hF.r hmo (by rw [kmo]; rfl)) z31
  have z85 : q_ir (q_r f58 mo 16) aw := Eq.trans (hF.r hmo (by rw [kmo]; rfl)) z32
  have z86 : q_ir (q_r f58 mo 17) pa := Eq.trans (hF.r hmo (by rw [kmo]; rfl)) z33
  have z87 : q_ir (q_r f58 mo 18) nm := Eq.trans (hF.r hmo (by rw [kmo]; rfl)) z34
  have z88 : q_ir (q_r f58 mo 19) snm := Eq.trans (hF.r hmo (by rw [kmo]; rfl)) z35
  have z89 : q_ir (q_r f58 mo 20) anm := Eq.trans (hF.r hmo (by rw [kmo]; rfl)) z36
  have z90 : q_ir (q_r f58 mo 24) hp := Eq.trans (hF.r hmo (by rw [kmo]; rfl)) z37
  have z91 : q_ir (q_r f58 mo 25) dy := Eq.trans (hF.r hmo (by rw [kmo]; rfl)) z38
  have z92 : q_ir (q_r f58 mo 29) cs := Eq.trans (hF.r hmo (by rw [kmo]; rfl)) z39
  have z93 : q_ir (q_r f58 mo 30) c1 := Eq.trans (hF.r hmo (by rw [kmo]; rfl)) z40
  have z94 : q_ir (q_r f58 mo 31) c2 := Eq.trans (hF.r hmo (by rw [kmo]; rfl)) z41
  have z95 : q_ir (q_r f58 mo 32) c3 := Eq.trans (hF.r hmo (by rw [kmo]; rfl)) z42
  have z96 : q_ir (q_r f58 mo 33) bg := Eq.trans (hF.r hmo (by rw [kmo]; rfl)) z43
  have z97 : q_ir (q_r f58 mo 34) lp := Eq.trans (hF.r hmo (by rw [kmo]; rfl)) z44
  have z98 : q_ir (q_r f58 mo 38) rp := Eq.trans (hF.r hmo (by rw [kmo]; rfl)) z45
  have g99 : q_gr f58 sr := q_gr_fr g46 (fun i9 _ => hF.z hsr (by rw [ksr]; rfl))
  have g100 : q_z f58 x 9 = q_z f58 mo 22 := tk_s2_tr g47 (hF.z hx (by rw [kx]; rfl)) (hF.z hmo (by rw [kmo]; rfl))
  have g101 : q_pk f58 mo pa := q_pk_tr g48 (hF.z hmo (by rw [kmo]; rfl)) (fun i9 => hF.z hpa (by rw [kpa]; rfl))
  have g102 : q_sv f58 mo sd := q_sv_tr g49 (hF.z hmo (by rw [kmo]; rfl)) (fun i9 => hF.z hsd (by rw [ksd]; rfl))
  have g103 : tk_bb f58 bu ba tn := tk_bb_tr g50 (fun i9 => hF.z hbu (by rw [kbu]; rfl)) (fun i9 => hF.z hba (by rw [kba]; rfl))
  have g104 : tk_ij K L f58 nds := tk_ij_tr g51 (fun i9 => hF.r hnds (by rw [knds]; rfl))
  have g105 : tk_vn K L 5 f58 now ndn nl9 := tk_vn_tr g52 (hF.z hnow (by rw [know]; rfl)) (fun a9 h9 k9 => hF.j h9 (by rw [k9]; rfl)) (fun i9 => hF.r hndn (by rw [kndn]; rfl))
  have g106 : tk_vk K L f58 hist ka now ndn := tk_vk_tr g53 (hF.z hhist (by rw [khist]; rfl)) (hF.z hhist (by rw [khist]; rfl)) (hF.z hnow (by rw [know]; rfl)) (fun a9 h9 k9 => hF.j h9 (by rw [k9]; rfl)) (fun i9 => hF.r hndn (by rw [kndn]; rfl)) (fun a9 h9 k9 => hF.z h9 (by rw [k9]; rfl)) (fun a9 h9 k9 => hF.j h9 (by rw [k9]; rfl)) (fun i9 => hF.r hka (by rw [kka]; rfl)) (fun a9 h9 k9 => hF.r h9 (by rw [k9]; rfl)) (fun a9 h9 k9 i9 => hF.r h9 (by rw [k9]; rfl))
  have g107 : tk_vs K L f58 x sv nsv ls9 := tk_vs_tr g54 (hF.z hx (by rw [kx]; rfl)) (hF.z hsv (by rw [ksv]; rfl)) (fun a9 h9 k9 => hF.j h9 (by rw [k9]; rfl)) (fun i9 => hF.r hnsv (by rw [knsv]; rfl))
  have g108 : tk_nq f58 nm nl9 := tk_nq_tr g55 (fun i9 => hF.j hnm (by rw [knm]; rfl))
  have g109 : tk_rs f58 mo sd snm ls9 := tk_rs_tr g56 (hF.z hmo (by rw [kmo]; rfl)) (fun i9 h9 k9 => hF.z hsd (by rw [ksd]; exact q_inWr rfl h9 k9)) (fun i9 => hF.j hsnm (by rw [ksnm]; rfl))
  have g110 : q_pc f58 mo pa xc := q_pc_tr g57 (hF.z hmo (by rw [kmo]; rfl)) (fun i9 => hF.z hpa (by rw [kpa]; rfl))
  refine lv_istore (lv' := [(7, .int (q_i y59)), (6, .int (q_i y6)), (5, .int (q_i ii)), (4, .ref outD), (3, .ref out), (2, .ref mo), (1, .ref x), (0, .ref b)]) cx.1 cx.2.1 dL_law_525 hl (by decide) rfl (fun ls hl => ?_)
  refine lv_goto (tgt := 1521) cx.1 cx.2.1 dL_law_527 (by decide) ?_
  refine W.widen (k := cells + 6) (n := slots + 36) (by omega) (by omega) ?_
  exact kk f58 H locs ls tn nl9 ls9 xc hB ⟨⟨z61, (Eq.trans z62 (by omega)), by omega, by omega⟩, g99, g101, g102, q_isu z64 (by omega), q_isu z65 (by omega), tk_bb_le g103 (by omega), z63, by omega, g105, g106, g107, g108, g109, g110, g100⟩ (lv_sub hl [2, 3, 4, 5, 6, 7] rfl)
set_option maxHeartbeats 4000000 in
set_option maxRecDepth 100000 in
theorem law_c530 {p : Program} {l : Launch} {e : Env} {s : State} {m : MethodId} {below : List Frame} {meth : Method} {c : Code} {b N9 : Nat} {xs : Nat → Int32} (hfl : l.stackTraces = false) (hN9 : N9 ≤ 3072) (C0 : lw_At p s m meth c b N9 xs) (cx : CallFix p m c cL_law 10 s #[Value.ref b] q_al RL) {g : q_G} {ad : Nat → Nat} {K : Nat → Nat} {L : List Nat} (hN : L.Nodup) (hLA : ∀ q, q ∈ L → s.heap.size ≤ q) (hX : q_X ad (fun q => q ∈ L) s) {f0 : Nat → va_E} {x : Nat} (hx : x ∈ L) (kx : K x = 11) {so : Nat} (hso : so ∈ L) (kso : K so = 8) {rd : Nat} (hrd : rd ∈ L) (krd : K rd = 9) {scr : Nat} (hscr : scr ∈ L) (kscr : K scr = 7) {fc : Nat} (hfc : fc ∈ L) (kfc : K fc = 1) {hist : Nat} (hhist : hist ∈ L) (khist : K hist = 2) {rep : Nat} (hrep : rep ∈ L) (krep : K rep = 6) {now : Nat} (hnow : now ∈ L) (know : K now = 10) {dr : Nat} (hdr : dr ∈ L) (kdr : K dr = 13) {sv : Nat} (hsv : sv ∈ L) (ksv : K sv = 14) {tr : Nat} (htr : tr ∈ L) (ktr : K tr = 15) {ba : Nat} (hba : ba ∈ L) (kba : K ba = 142) {nds : Nat} (hnds : nds ∈ L) (knds : K nds = 111) {ka : Nat} (hka : ka ∈ L) (kka : K ka = 140) {ndn : Nat} (hndn : ndn ∈ L) (kndn : K ndn = 110) {nsv : Nat} (hnsv : nsv ∈ L) (knsv : K nsv = 112) {mo : Nat} (hmo : mo ∈ L) (kmo : K mo = 12) {bu : Nat} (hbu : bu ∈ L) (kbu : K bu = 150) {sr : Nat} (hsr : sr ∈ L) (ksr : K sr = 151) {sd : Nat} (hsd : sd ∈ L) (ksd : K sd = 152) {as : Nat} (has : as ∈ L) (kas : K as = 153) {aw : Nat} (haw : aw ∈ L) (kaw : K aw = 154) {pa : Nat} (hpa : pa ∈ L) (kpa : K pa = 155) {nm : Nat} (hnm : nm ∈ L) (knm : K nm = 156) {snm : Nat} (hsnm : snm ∈ L) (ksnm : K snm = 157) {anm : Nat} (hanm : anm ∈ L) (kanm : K anm = 158) {hp : Nat} (hhp : hp ∈ L) (khp : K hp = 159) {dy : Nat} (hdy : dy ∈ L) (kdy : K dy = 160) {cs : Nat} (hcs : cs ∈ L) (kcs : K cs = 161) {c1 : Nat} (hc1 : c1 ∈ L) (kc1 : K c1 = 162) {c2 : Nat} (hc2 : c2 ∈ L) (kc2 : K c2 = 163) {c3 : Nat} (hc3 : c3 ∈ L) (kc3 : K c3 = 164) {bg : Nat} (hbg : bg ∈ L) (kbg : K bg = 165) {lp : Nat} (hlp : lp ∈ L) (klp : K lp = 166) {rp : Nat} (hrp : rp ∈ L) (krp : K rp = 167) {out : Nat} (hout : out ∈ L) (kout : K out = 168) {outD : Nat} (houtD : outD ∈ L) (koutD : K outD = 169) (hr0 : q_ir (q_r f0 x 0) so) (hr1 : q_ir (q_r f0 x 1) rd) (hr2 : q_ir (q_r f0 x 2) scr) (hr3 : q_ir (q_r f0 x 3) fc) (hr4 : q_ir (q_r f0 x 4) hist) (hr5 : q_ir (q_r f0 x 5) rep) (hr6 : q_ir (q_r f0 x 6) now) (hr7 : q_ir (q_r f0 x 7) dr) (hr8 : q_ir (q_r f0 x 8) sv) (hr9 : q_ir (q_r f0 fc 0) tr) (hr10 : q_ir (q_r f0 so 0) ba) (hr11 : q_ir (q_r f0 dr 0) nds) (hr12 : q_ir (q_r f0 hist 0) ka) (hr13 : q_ir (q_r f0 now 0) ndn) (hr14 : q_ir (q_r f0 sv 0) nsv) (hr15 : q_ir (q_r f0 mo 1) bu) (hr16 : q_ir (q_r f0 mo 13) sr) (hr17 : q_ir (q_r f0 mo 14) sd) (hr18 : q_ir (q_r f0 mo 15) as) (hr19 : q_ir (q_r f0 mo 16) aw) (hr20 : q_ir (q_r f0 mo 17) pa) (hr21 : q_ir (q_r f0 mo 18) nm) (hr22 : q_ir (q_r f0 mo 19) snm) (hr23 : q_ir (q_r f0 mo 20) anm) (hr24 : q_ir (q_r f0 mo 24) hp) (hr25 : q_ir (q_r f0 mo 25) dy) (hr26 : q_ir (q_r f0 mo 29) cs) (hr27 : q_ir (q_r f0 mo 30) c1) (hr28 : q_ir (q_r f0 mo 31) c2) (hr29 : q_ir (q_r f0 mo 32) c3) (hr30 : q_ir (q_r f0 mo 33) bg) (hr31 : q_ir (q_r f0 mo 34) lp) (hr32 : q_ir (q_r f0 mo 38) rp) (hij : tk_ij K L f0 nds) {f : Nat → va_E} {H : Heap} {locs : List Loc} {ls : Array Slot} {cells slots : Nat} {ii tn : Int} {nl9 ls9 : List (List Int)} {xc : Int} (hB : q_B g K L (fun q => s.heap.size ≤ q) [(0, 0, 6), (2, 1, 2), (3, 0, 4), (4, 0, 7), (5, 0, 9), (6, 1, 1), (7, 1, 4), (8, 1, 9), (9, 0, 2), (10, 3, 15), (11, 9, 9), (12, 0, 0), (12, 2, 12), (12, 21, 23), (12, 26, 28), (12, 35, 37), (12, 39, 40), (13, 3, 15), (14, 3, 15), (15, 3, 15), (16, 3, 15), (17, 0, 9), (18, 0, 9), (19, 0, 9), (20, 0, 9), (21, 0, 4), (22, 0, 4), (23, 0, 4), (24, 0, 4), (25, 0, 7), (26, 0, 7), (27, 0, 7), (28, 0, 7), (142, 0, 599), (143, 0, 599), (150, 0, 599), (151, 0, 657), (152, 0, 657), (153, 0, 657), (154, 0, 657), (155, 0, 3947), (156, 0, 9), (157, 0, 9), (158, 0, 9), (159, 0, 9), (160, 0, 9), (161, 0, 59), (162, 0, 58), (163, 0, 58), (164, 0, 58), (165, 0, 1), (166, 0, 1), (167, 0, 479), (168, 0, 0), (169, 0, 0)] f0 f s H locs) (hI : q_Iv5 K L f x so mo sr pa sd bu ba now ndn hist ka sv nsv nm snm tn nl9 ls9 xc) (hl : lv_has ls 10 [(5, .int (q_i ii)), (4, .ref outD), (3, .ref out), (2, .ref mo), (1, .ref x), (0, .ref b)]) (hi0 : 0 ≤ ii) (hi6 : ii + 6 ≤ N9) (hce : cells + 6 ≤ 10000) (hse : slots + 36 ≤ 100000) (kk : ∀ (f1 : Nat → va_E) (H1 : Heap) (locs1 : List Loc) (ls1 : Array Slot) (tn1 : Int) (nl1 ls1_ : List (List Int)) (xc1 : Int), q_B g K L (fun q => s.heap.size ≤ q) [(0, 0, 6), (2, 1, 2), (3, 0, 4), (4, 0, 7), (5, 0, 9), (6, 1, 1), (7, 1, 4), (8, 1, 9), (9, 0, 2), (10, 3, 15), (11, 9, 9), (12, 0, 0), (12, 2, 12), (12, 21, 23), (12, 26, 28), (12, 35, 37), (12, 39, 40), (13, 3, 15), (14, 3, 15), (15, 3, 15), (16, 3, 15), (17, 0, 9), (18, 0, 9), (19, 0, 9), (20, 0, 9), (21, 0, 4), (22, 0, 4), (23, 0, 4), (24, 0, 4), (25, 0, 7), (26, 0, 7), (27, 0, 7), (28, 0, 7), (142, 0, 599), (143, 0, 599), (150, 0, 599), (151, 0, 657), (152, 0, 657), (153, 0, 657), (154, 0, 657), (155, 0, 3947), (156, 0, 9), (157, 0, 9), (158, 0, 9), (159, 0, 9), (160, 0, 9), (161, 0, 59), (162, 0, 58), (163, 0, 58), (164, 0, 58), (165, 0, 1), (166, 0, 1), (167, 0, 479), (168, 0, 0), (169, 0, 0)] f0 f1 s H1 locs1 → q_Iv5 K L f1 x so mo sr pa sd bu ba now ndn hist ka sv nsv nm snm tn1 nl1 ls1_ xc1 → lv_has ls1 10 [(5, .int (q_i ii)), (4, .ref outD), (3, .ref out), (2, .ref mo), (1, .ref x), (0, .ref b)] → W p l e room_1 s m #[Value.ref b] below meth c H1 locs1 (cells + 6) (slots + 36) (lw_Z below #[Value.ref b] s) (F0 m 1521 ls1 [])) : W p l e room_1 s m #[Value.ref b] below meth c H locs (cells) (slots) (lw_Z below #[Value.ref b] s) (F0 m 530 ls []) := by
  have hXs := C0.2.2.2.2.2.2.1
  have hbl := C0.2.2.2.2.2.2.2.1
  have hbA := q_bA hbl
  obtain ⟨⟨hn0, hn1, ltn, utn⟩, hgr, hpk, hsd9, ht3, ht4, hbb, hsr0, hxc, hvn, hvk, hvs, hrn9, hrs9, hpc, hs22⟩ := hI
  have lxc : 0 ≤ xc := by omega
  have uxc : xc ≤ 10 := by have h7 := hvn.2.1.2; omega
  have hr0 : q_ir (q_r f x 0) so := Eq.trans (hB.2.2.r hx (by rw [kx]; rfl)) hr0
  have hr1 : q_ir (q_r f x 1) rd := Eq.trans (hB.2.2.r hx (by rw [kx]; rfl)) hr1
  have hr2 : q_ir (q_r f x 2) scr := Eq.trans (hB.2.2.r hx (by rw [kx]; rfl)) hr2
  have hr3 : q_ir (q_r f x 3) fc := Eq.trans (hB.2.2.r hx (by rw [kx]; rfl)) hr3
  have hr4 : q_ir (q_r f x 4) hist := Eq.trans (hB.2.2.r hx (by rw [kx]; rfl)) hr4
  have hr5 : q_ir (q_r f x 5) rep := Eq.trans (hB.2.2.r hx (by rw [kx]; rfl)) hr5
  have hr6 : q_ir (q_r f x 6) now := Eq.trans (hB.2.2.r hx (by rw [kx]; rfl)) hr6
  have hr7 : q_ir (q_r f x 7) dr := Eq.trans (hB.2.2.r hx (by rw [kx]; rfl)) hr7
  have hr8 : q_ir (q_r f x 8) sv := Eq.trans (hB.2.2.r hx (by rw [kx]; rfl)) hr8
  have hr9 : q_ir (q_r f fc 0) tr := Eq.trans (hB.2.2.r hfc (by rw [kfc]; rfl)) hr9
  have hr10 : q_ir (q_r f so 0) ba := Eq.trans (hB.2.2.r hso (by rw [kso]; rfl)) hr10
  have hr11 : q_ir (q_r f dr 0) nds := Eq.trans (hB.2.2.r hdr (by rw [kdr]; rfl)) hr11
  have hr12 : q_ir (q_r f hist 0) ka := Eq.trans (hB.2.2.r hhist (by rw [khist]; rfl)) hr12
  have hr13 : q_ir (q_r f now 0) ndn := Eq.trans (hB.2.2.r hnow (by rw [know]; rfl)) hr13
  have hr14 : q_ir (q_r f sv 0) nsv := Eq.trans (hB.2.2.r hsv (by rw [ksv]; rfl)) hr14
  have hr15 : q_ir (q_r f mo 1) bu := Eq.trans (hB.2.2.r hmo (by rw [kmo]; rfl)) hr15
  have hr16 : q_ir (q_r f mo 13) sr := Eq.trans (hB.2.2.r hmo (by rw [kmo]; rfl)) hr16
  have hr17 : q_ir (q_r f mo 14) sd := Eq.trans (hB.2.2.r hmo (by rw [kmo]; rfl)) hr17
  have hr18 : q_ir (q_r f mo 15) as := Eq.trans (hB.2.2.r hmo (by rw [kmo]; rfl)) hr18
  have hr19 : q_ir (q_r f mo 16) aw := Eq.trans (hB.2.2.r hmo (by rw [kmo]; rfl)) hr19
  have hr20 : q_ir (q_r f mo 17) pa := Eq.trans (hB.2.2.r hmo (by rw [kmo]; rfl)) hr20
  have hr21 : q_ir (q_r f mo 18) nm := Eq.trans (hB.2.2.r hmo (by rw [kmo]; rfl)) hr21
  have hr22 : q_ir (q_r f mo 19) snm := Eq.trans (hB.2.2.r hmo (by rw [kmo]; rfl)) hr22
  have hr23 : q_ir (q_r f mo 20) anm := Eq.trans (hB.2.2.r hmo (by rw [kmo]; rfl)) hr23
  have hr24 : q_ir (q_r f mo 24) hp := Eq.trans (hB.2.2.r hmo (by rw [kmo]; rfl)) hr24
  have hr25 : q_ir (q_r f mo 25) dy := Eq.trans (hB.2.2.r hmo (by rw [kmo]; rfl)) hr25
  have hr26 : q_ir (q_r f mo 29) cs := Eq.trans (hB.2.2.r hmo (by rw [kmo]; rfl)) hr26
  have hr27 : q_ir (q_r f mo 30) c1 := Eq.trans (hB.2.2.r hmo (by rw [kmo]; rfl)) hr27
  have hr28 : q_ir (q_r f mo 31) c2 := Eq.trans (hB.2.2.r hmo (by rw [kmo]; rfl)) hr28
  have hr29 : q_ir (q_r f mo 32) c3 := Eq.trans (hB.2.2.r hmo (by rw [kmo]; rfl)) hr29
  have hr30 : q_ir (q_r f mo 33) bg := Eq.trans (hB.2.2.r hmo (by rw [kmo]; rfl)) hr30
  have hr31 : q_ir (q_r f mo 34) lp := Eq.trans (hB.2.2.r hmo (by rw [kmo]; rfl)) hr31
  have hr32 : q_ir (q_r f mo 38) rp := Eq.trans (hB.2.2.r hmo (by rw [kmo]; rfl)) hr32
  have hij : tk_ij K L f nds := tk_ij_tr hij (fun i9 => hB.2.2.r hnds (by rw [knds]; rfl))
  obtain ⟨x1, ex1⟩ : ∃ zz, q_is (q_z f sr 3) zz := ⟨_, q_isr _⟩
  obtain ⟨lx1, ux1⟩ : 0 ≤ x1 ∧ x1 ≤ 9999 := q_isb ex1 ⟨(hgr 3 (by decide)).1, ht3⟩
  obtain ⟨x2, ex2⟩ : ∃ zz, q_is (q_z f sr 4) zz := ⟨_, q_isr _⟩
  obtain ⟨lx2, ux2⟩ : 0 ≤ x2 ∧ x2 ≤ 60 := q_isb ex2 ⟨(hgr 4 (by decide)).1, ht4⟩
  refine q_ald_n cx dL_law_530 rfl (lv_at hl 4 rfl) ?_
  refine q_ald_n cx dL_law_531 rfl (lv_at hl 5 rfl) ?_
  refine lv_iload cx.1 cx.2.1 dL_law_532 (lv_at hl 0 rfl) ?_
  refine q_iconst cx dL_law_534 ?_
  refine q_iadd cx dL_law_535 ?_
  refine va_sld cx.1 cx.2.1 hXs hbl hbA hB.1.2.2.2 (q_in (by omega) (by omega) (by omega)) dL_law_536 ?_
  obtain ⟨a3, ra3, ea3⟩ : ∃ z : Int, q_R z ∧ xs (q_i (ii + 1)).toNatClampNeg = q_i z := ⟨_, q_rng _, (q_of _).symm⟩
  rw [ea3]
  refine q_ald_n cx dL_law_537 rfl (lv_at hl 5 rfl) ?_
  refine lv_iload cx.1 cx.2.1 dL_law_538 (lv_at hl 0 rfl) ?_
  refine q_iconst cx dL_law_540 ?_
  refine q_iadd cx dL_law_541 ?_
  refine va_sld cx.1 cx.2.1 hXs hbl hbA hB.1.2.2.2 (q_in (by omega) (by omega) (by omega)) dL_law_542 ?_
  obtain ⟨a4, ra4, ea4⟩ : ∃ z : Int, q_R z ∧ xs (q_i (ii + 2)).toNatClampNeg = q_i z := ⟨_, q_rng _, (q_of _).symm⟩
  rw [ea4]
  refine q_ald_n cx dL_law_543 rfl (lv_at hl 2 rfl) ?_
  obtain ⟨x5, ex5⟩ : ∃ zz, q_is (q_z f now 3) zz := ⟨_, q_isr _⟩
  obtain ⟨lx5, ux5⟩ := q_isb ex5 (q_fib hB.2.1 hnow know (by decide) rfl)
  refine q_cWS (As := [.ref x, .int (q_i a3), .int (q_i a4), .ref out]) (rest := []) cx hX hB (fun q h => hLA q h) (fun q h1 h2 => absurd h1 (Nat.not_le_of_lt h2)) hN (f_wletter l g ad hN hB.2.1 hfl nl9 x hx kx a3 (by omega) (by omega) a4 (by omega) (by omega) out hout kout so hso kso rd hrd krd scr hscr kscr fc hfc kfc hist hhist khist rep hrep krep now hnow know dr hdr kdr sv hsv ksv tr htr ktr ba hba kba nds hnds knds ka hka kka ndn hndn kndn nsv hnsv knsv x5 (by omega) (by omega) ex5 hr0 hr1 hr2 hr3 hr4 hr5 hr6 hr7 hr8 hr9 hr10 hr11 hr12 hr13 hr14 hvn) q_cL_156 q_dL_letter ⟨by decide, by show cells + 1 ≤ 601024; omega, by show slots + 6 ≤ 7293034; omega⟩ rfl rfl hl.1 rfl (Nat.le_of_ble_eq_true rfl) dL_law_544 (fun v9 H locs f6 h8 hF hB => ?_)
  obtain ⟨y7, rfl, ry7, h8⟩ := h8
  refine W.eq (g2 := F0 m 547 ls [.int (q_i y7)]) rfl ?_
  rcases h8 with h9 | h10
  · obtain ⟨qy7, t11, t12, t13⟩ := h9
    have z14 : q_is (q_z f6 so 1) tn := Eq.trans (hF.z hso (by rw [kso]; rfl)) hn0
    have z15 : q_is (q_z f6 mo 2) tn := Eq.trans (hF.z hmo (by rw [kmo]; rfl)) hn1
    have z16 : q_is (q_z f6 sr 0) xc := Eq.trans (hF.z hsr (by rw [ksr]; rfl)) hsr0
    have z17 : q_is (q_z f6 sr 3) x1 := Eq.trans (hF.z hsr (by rw [ksr]; rfl)) ex1
    have z18 : q_is (q_z f6 sr 4) x2 := Eq.trans (hF.z hsr (by rw [ksr]; rfl)) ex2
    have z19 : q_is (q_z f6 now 3) x5 := Eq.trans (hF.z hnow (by rw [know]; rfl)) ex5
    have z20 : q_ir (q_r f6 x 0) so := Eq.trans (hF.r hx (by rw [kx]; rfl)) hr0
    have z21 : q_ir (q_r f6 x 1) rd := Eq.trans (hF.r hx (by rw [kx]; rfl)) hr1
    have z22 : q_ir (q_r f6 x 2) scr := Eq.trans (hF.r hx (by rw [kx]; rfl)) hr2
    have z23 : q_ir (q_r f6 x 3) fc := Eq.trans (hF.r hx (by rw [kx]; rfl)) hr3
    have z24 : q_ir (q_r f6 x 4) hist := Eq.trans (hF.r hx (by rw [kx]; rfl)) hr4
    have z25 : q_ir (q_r f6 x 5) rep := Eq.trans (hF.r hx (by rw [kx]; rfl)) hr5
    have z26 : q_ir (q_r f6 x 6) now := Eq.trans (hF.r hx (by rw [kx]; rfl)) hr6
    have z27 : q_ir (q_r f6 x 7) dr := Eq.trans (hF.r hx (by rw [kx]; rfl)) hr7
    have z28 : q_ir (q_r f6 x 8) sv := Eq.trans (hF.r hx (by rw [kx]; rfl)) hr8
    have z29 : q_ir (q_r f6 fc 0) tr := Eq.trans (hF.r hfc (by rw [kfc]; rfl)) hr9
    have z30 : q_ir (q_r f6 so 0) ba := Eq.trans (hF.r hso (by rw [kso]; rfl)) hr10
    have z31 : q_ir (q_r f6 dr 0) nds := Eq.trans (hF.r hdr (by rw [kdr]; rfl)) hr11
    have z32 : q_ir (q_r f6 hist 0) ka := Eq.trans (hF.r hhist (by rw [khist]; rfl)) hr12
    have z33 : q_ir (q_r f6 now 0) ndn := Eq.trans (hF.r hnow (by rw [know]; rfl)) hr13
    have z34 : q_ir (q_r f6 sv 0) nsv := Eq.trans (hF.r hsv (by rw [ksv]; rfl)) hr14
    have z35 : q_ir (q_r f6 mo 1) bu := Eq.trans (hF.r hmo (by rw [kmo]; rfl)) hr15
    have z36 : q_ir (q_r f6 mo 13) sr := Eq.trans (hF.r hmo (by rw [kmo]; rfl)) hr16
    have z37 : q_ir (q_r f6 mo 14) sd := Eq.trans (hF.r hmo (by rw [kmo]; rfl)) hr17
    have z38 : q_ir (q_r f6 mo 15) as := Eq.trans (hF.r hmo (by rw [kmo]; rfl)) hr18
    have z39 : q_ir (q_r f6 mo 16) aw := Eq.trans (hF.r hmo (by rw [kmo]; rfl)) hr19
    have z40 : q_ir (q_r f6 mo 17) pa := Eq.trans (hF.r hmo (by rw [kmo]; rfl)) hr20
    have z41 : q_ir (q_r f6 mo 18) nm := Eq.trans (hF.r hmo (by rw [kmo]; rfl)) hr21
    have z42 : q_ir (q_r f6 mo 19) snm := Eq.trans (hF.r hmo (by rw [kmo]; rfl)) hr22
    have z43 : q_ir (q_r f6 mo 20) anm := Eq.trans (hF.r hmo (by rw [kmo]; rfl)) hr23
    have z44 : q_ir (q_r f6 mo 24) hp := Eq.trans (hF.r hmo (by rw [kmo]; rfl)) hr24
    have z45 : q_ir (q_r f6 mo 25) dy := Eq.trans (hF.r hmo (by rw [kmo]; rfl)) hr25
    have z46 : q_ir (q_r f6 mo 29) cs := Eq.trans (hF.r hmo (by rw [kmo]; rfl)) hr26
    have z47 : q_ir (q_r f6 mo 30) c1 := Eq.trans (hF.r hmo (by rw [kmo]; rfl)) hr27
    have z48 : q_ir (q_r f6 mo 31) c2 := Eq.trans (hF.r hmo (by rw [kmo]; rfl)) hr28
    have z49 : q_ir (q_r f6 mo 32) c3 := Eq.trans (hF.r hmo (by rw [kmo]; rfl)) hr29
    have z50 : q_ir (q_r f6 mo 33) bg := Eq.trans (hF.r hmo (by rw [kmo]; rfl)) hr30
    have z51 : q_ir (q_r f6 mo 34) lp := Eq.trans (hF.r hmo (by rw [kmo]; rfl)) hr31
    have z52 : q_ir (q_r f6 mo 38) rp := Eq.trans (hF.r hmo (by rw [kmo]; rfl)) hr32
    have g53 : q_gr f6 sr := q_gr_fr hgr (fun i9 _ => hF.z hsr (by rw [ksr]; rfl))
    have g54 : q_z f6 x 9 = q_z f6 mo 22 := tk_s2_tr hs22 (hF.z hx (by rw [kx]; rfl)) (hF.z hmo (by rw [kmo]; rfl))
    have g55 : q_pk f6 mo pa := q_pk_tr hpk (hF.z hmo (by rw [kmo]; rfl)) (fun i9 => hF.z hpa (by rw [kpa]; rfl))
    have g56 : q_sv f6 mo sd := q_sv_tr hsd9 (hF.z hmo (by rw [kmo]; rfl)) (fun i9 => hF.z hsd (by rw [ksd]; rfl))
    have g57 : tk_bb f6 bu ba tn := tk_bb_tr hbb (fun i9 => hF.z hbu (by rw [kbu]; rfl)) (fun i9 => hF.z hba (by rw [kba]; rfl))
    have g58 : tk_ij K L f6 nds := tk_ij_tr hij (fun i9 => hF.r hnds (by rw [knds]; rfl))
    have g59 : tk_vn K L 5 f6 now ndn nl9 := tk_vn_tr hvn (hF.z hnow (by rw [know]; rfl)) (fun a9 h9 k9 => hF.j h9 (by rw [k9]; rfl)) (fun i9 => hF.r hndn (by rw [kndn]; rfl))
    have g60 : tk_vk K L f6 hist ka now ndn := tk_vk_tr hvk (hF.z hhist (by rw [khist]; rfl)) (hF.z hhist (by rw [khist]; rfl)) (hF.z hnow (by rw [know]; rfl)) (fun a9 h9 k9 => hF.j h9 (by rw [k9]; rfl)) (fun i9 => hF.r hndn (by rw [kndn]; rfl)) (fun a9 h9 k9 => hF.z h9 (by rw [k9]; rfl)) (fun a9 h9 k9 => hF.j h9 (by rw [k9]; rfl)) (fun i9 => hF.r hka (by rw [kka]; rfl)) (fun a9 h9 k9 => hF.r h9 (by rw [k9]; rfl)) (fun a9 h9 k9 i9 => hF.r h9 (by rw [k9]; rfl))
    have g61 : tk_vs K L f6 x sv nsv ls9 := tk_vs_tr hvs (hF.z hx (by rw [kx]; rfl)) (hF.z hsv (by rw [ksv]; rfl)) (fun a9 h9 k9 => hF.j h9 (by rw [k9]; rfl)) (fun i9 => hF.r hnsv (by rw [knsv]; rfl))
    have g62 : tk_nq f6 nm nl9 := tk_nq_tr hrn9 (fun i9 => hF.j hnm (by rw [knm]; rfl))
    have g63 : tk_rs f6 mo sd snm ls9 := tk_rs_tr hrs9 (hF.z hmo (by rw [kmo]; rfl)) (fun i9 h9 k9 => hF.z hsd (by rw [ksd]; exact q_inWr rfl h9 k9)) (fun i9 => hF.j hsnm (by rw [ksnm]; rfl))
    have g64 : q_pc f6 mo pa xc := q_pc_tr hpc (hF.z hmo (by rw [kmo]; rfl)) (fun i9 => hF.z hpa (by rw [kpa]; rfl))
    subst qy7
    have hbd9 := tk_le_bd t13 a4
    obtain ⟨nL, enL⟩ : ∃ zz : Int, tk_le (nl9.getD (Int.toNat a3) []) a4 = zz := ⟨_, rfl⟩
    have hj9 := t12
    rw [enL] at hj9 hbd9
    have lnL : 0 ≤ nL := hbd9.1
    have unL : nL ≤ 122 := hbd9.2
    refine lv_istore (lv' := [(6, .int (q_i 0)), (5, .int (q_i ii)), (4, .ref outD), (3, .ref out), (2, .ref mo), (1, .ref x), (0, .ref b)]) cx.1 cx.2.1 dL_law_547 hl (by decide) rfl (fun ls hl => ?_)
    refine q_ald_n cx dL_law_549 rfl (lv_at hl 4 rfl) ?_
    refine q_ald_n cx dL_law_550 rfl (lv_at hl 6 rfl) ?_
    refine lv_iload cx.1 cx.2.1 dL_law_551 (lv_at hl 1 rfl) ?_
    refine q_iconst cx dL_law_553 ?_
    refine q_iadd cx dL_law_554 ?_
    refine va_sld cx.1 cx.2.1 hXs hbl hbA hB.1.2.2.2 (q_in (by omega) (by omega) (by omega)) dL_law_555 ?_
    rw [ea3]
    refine q_ald_n cx dL_law_556 rfl (lv_at hl 6 rfl) ?_
    refine lv_iload cx.1 cx.2.1 dL_law_557 (lv_at hl 1 rfl) ?_
    refine q_iconst cx dL_law_559 ?_
    refine q_iadd cx dL_law_560 ?_
    refine va_sld cx.1 cx.2.1 hXs hbl hbA hB.1.2.2.2 (q_in (by omega) (by omega) (by omega)) dL_law_561 ?_
    rw [ea4]
    refine q_cVi (As := [.int (q_i a3), .int (q_i a4)]) (rest := []) cx hB (fun q h => hLA q h) hN hmo kmo (by decide) rfl (f_mletter l g hN hB.2.1 nl9 mo hmo kmo a3 (by omega) (by omega) a4 (by omega) (by omega) sr hsr ksr nm hnm knm xc (by omega) (by omega) z16 z36 z41 hxc g53 g62) q_cL_158 q_dX12_letter ⟨by decide, by show cells + 1 ≤ 601024; omega, by show slots + 6 ≤ 7293034; omega⟩ rfl rfl hl.1 rfl (Nat.le_of_ble_eq_true rfl) dL_law_562 (fun y66 H locs f65 ry66 h67 hF hB => ?_)
    rcases h67 with h68 | h69
    · obtain ⟨z70, t71, t72⟩ := h68
      have z73 : q_j f65 out 0 = (q_l nL) := (hF.j hout (by rw [kout]; rfl)).trans hj9
      have z74 : q_is (q_z f65 so 1) tn := Eq.trans (hF.z hso (by rw [kso]; rfl)) z14
      have z75 : q_is (q_z f65 mo 2) tn := Eq.trans (hF.z hmo (by rw [kmo]; rfl)) z15
      have z76 : q_is (q_z f65 sr 0) xc := Eq.trans (hF.z hsr (by rw [ksr]; rfl)) z16
      have z77 : q_is (q_z f65 sr 3) x1 := Eq.trans (hF.z hsr (by rw [ksr]; rfl)) z17
      have z78 : q_is (q_z f65 sr 4) x2 := Eq.trans (hF.z hsr (by rw [ksr]; rfl)) z18
      have z79 : q_is (q_z f65 now 3) x5 := Eq.trans (hF.z hnow (by rw [know]; rfl)) z19
      have z80 : q_ir (q_r f65 x 0) so := Eq.trans (hF.r hx (by rw [kx]; rfl)) z20
      have z81 : q_ir (q_r f65 x 1) rd := Eq.trans (hF.r hx (by rw [kx]; rfl)) z21
      have z82 : q_ir (q_r f65 x 2) scr := Eq.trans (hF.r hx (by rw [kx]; rfl)) z22
      have z83 : q_ir (q_r f65 x 3) fc := Eq.trans (hF.r hx (by rw [kx]; rfl)) z23
      have z84 : q_ir (q_r f65 x 4) hist := Eq.trans (hF.r hx (by rw [kx]; rfl)) z24
      have z85 : q_ir (q_r f65 x 5) rep := Eq.trans (hF.r hx (by rw [kx]; rfl)) z25
      have z86 : q_ir (q_r f65 x 6) now := Eq.trans (hF.r hx (by rw [kx]; rfl)) z26
      have z87 : q_ir (q_r f65 x 7) dr := Eq.trans (hF.r hx (by rw [kx]; rfl)) z27
      have z88 : q_ir (q_r f65 x 8) sv := Eq.trans (hF.r hx (by rw [kx]; rfl)) z28
      have z89 : q_ir (q_r f65 fc 0) tr := Eq.trans (hF.r hfc (by rw [kfc]; rfl)) z29
      have z90 : q_ir (q_r f65 so 0) ba := Eq.trans (hF.r hso (by rw [kso]; rfl)) z30
      have z91 : q_ir (q_r f65 dr 0) nds := Eq.trans (hF.r hdr (by rw [kdr]; rfl)) z31
      have z92 : q_ir (q_r f65 hist 0) ka := Eq.trans (hF.r hhist (by rw [khist]; rfl)) z32
      have z93 : q_ir (q_r f65 now 0) ndn := Eq.trans (hF.r hnow (by rw [know]; rfl)) z33
      have z94 : q_ir (q_r f65 sv 0) nsv := Eq.trans (hF.r hsv (by rw [ksv]; rfl)) z34
      have z95 : q_ir (q_r f65 mo 1) bu := Eq.trans (hF.r hmo (by rw [kmo]; rfl)) z35
      have z96 : q_ir (q_r f65 mo 13) sr := Eq.trans (hF.r hmo (by rw [kmo]; rfl)) z36
      have z97 : q_ir (q_r f65 mo 14) sd := Eq.trans (hF.r hmo (by rw [kmo]; rfl)) z37
      have z98 : q_ir (q_r f65 mo 15) as := Eq.trans (hF.r hmo (by rw [kmo]; rfl)) z38
      have z99 : q_ir (q_r f65 mo 16) aw := Eq.trans (hF.r hmo (by rw [kmo]; rfl)) z39
      have z100 : q_ir (q_r f65 mo 17) pa := Eq.trans (hF.r hmo (by rw [kmo]; rfl)) z40
      have z101 : q_ir (q_r f65 mo 18) nm := Eq.trans (hF.r hmo (by rw [kmo]; rfl)) z41
      have z102 : q_ir (q_r f65 mo 19) snm := Eq.trans (hF.r hmo (by rw [kmo]; rfl)) z42
      have z103 : q_ir (q_r f65 mo 20) anm := Eq.trans (hF.r hmo (by rw [kmo]; rfl)) z43
      have z104 : q_ir (q_r f65 mo 24) hp := Eq.trans (hF.r hmo (by rw [kmo]; rfl)) z44
      have z105 : q_ir (q_r f65 mo 25) dy := Eq.trans (hF.r hmo (by rw [kmo]; rfl)) z45
      have z106 : q_ir (q_r f65 mo 29) cs := Eq.trans (hF.r hmo (by rw [kmo]; rfl)) z46
      have z107 : q_ir (q_r f65 mo 30) c1 := Eq.trans (hF.r hmo (by rw [kmo]; rfl)) z47
      have z108 : q_ir (q_r f65 mo 31) c2 := Eq.trans (hF.r hmo (by rw [kmo]; rfl)) z48
      have z109 : q_ir (q_r f65 mo 32) c3 := Eq.trans (hF.r hmo (by rw [kmo]; rfl)) z49
      have z110 : q_ir (q_r f65 mo 33) bg := Eq.trans (hF.r hmo (by rw [kmo]; rfl)) z50
      have z111 : q_ir (q_r f65 mo 34) lp := Eq.trans (hF.r hmo (by rw [kmo]; rfl)) z51
      have z112 : q_ir (q_r f65 mo 38) rp := Eq.trans (hF.r hmo (by rw [kmo]; rfl)) z52
      have g113 : q_gr f65 sr := q_gr_fr g53 (fun i9 _ => hF.z hsr (by rw [ksr]; rfl))
      have g114 : q_z f65 x 9 = q_z f65 mo 22 := tk_s2_tr g54 (hF.z hx (by rw [kx]; rfl)) (hF.z hmo (by rw [kmo]; rfl))
      have g115 : q_pk f65 mo pa := q_pk_tr g55 (hF.z hmo (by rw [kmo]; rfl)) (fun i9 => hF.z hpa (by rw [kpa]; rfl))
      have g116 : q_sv f65 mo sd := q_sv_tr g56 (hF.z hmo (by rw [kmo]; rfl)) (fun i9 => hF.z hsd (by rw [ksd]; rfl))
      have g117 : tk_bb f65 bu ba tn := tk_bb_tr g57 (fun i9 => hF.z hbu (by rw [kbu]; rfl)) (fun i9 => hF.z hba (by rw [kba]; rfl))
      have g118 : tk_ij K L f65 nds := tk_ij_tr g58 (fun i9 => hF.r hnds (by rw [knds]; rfl))
      have g119 : tk_vn K L 5 f65 now ndn nl9 := tk_vn_tr g59 (hF.z hnow (by rw [know]; rfl)) (fun a9 h9 k9 => hF.j h9 (by rw [k9]; rfl)) (fun i9 => hF.r hndn (by rw [kndn]; rfl))
      have g120 : tk_vk K L f65 hist ka now ndn := tk_vk_tr g60 (hF.z hhist (by rw [khist]; rfl)) (hF.z hhist (by rw [khist]; rfl)) (hF.z hnow (by rw [know]; rfl)) (fun a9 h9 k9 => hF.j h9 (by rw [k9]; rfl)) (fun i9 => hF.r hndn (by rw [kndn]; rfl)) (fun a9 h9 k9 => hF.z h9 (by rw [k9]; rfl)) (fun a9 h9 k9 => hF.j h9 (by rw [k9]; rfl)) (fun i9 => hF.r hka (by rw [kka]; rfl)) (fun a9 h9 k9 => hF.r h9 (by rw [k9]; rfl)) (fun a9 h9 k9 i9 => hF.r h9 (by rw [k9]; rfl))
      have g121 : tk_vs K L f65 x sv nsv ls9 := tk_vs_tr g61 (hF.z hx (by rw [kx]; rfl)) (hF.z hsv (by rw [ksv]; rfl)) (fun a9 h9 k9 => hF.j h9 (by rw [k9]; rfl)) (fun i9 => hF.r hnsv (by rw [knsv]; rfl))
      have g122 : tk_nq f65 nm nl9 := tk_nq_tr g62 (fun i9 => hF.j hnm (by rw [knm]; rfl))
      have g123 : tk_rs f65 mo sd snm ls9 := tk_rs_tr g63 (hF.z hmo (by rw [kmo]; rfl)) (fun i9 h9 k9 => hF.z hsd (by rw [ksd]; exact q_inWr rfl h9 k9)) (fun i9 => hF.j hsnm (by rw [ksnm]; rfl))
      have g124 : q_pc f65 mo pa xc := q_pc_tr g64 (hF.z hmo (by rw [kmo]; rfl)) (fun i9 => hF.z hpa (by rw [kpa]; rfl))
      have hz9 : y66 = nL := t72.trans enL
      refine lv_istore (lv' := [(7, .int (q_i y66)), (6, .int (q_i 0)), (5, .int (q_i ii)), (4, .ref outD), (3, .ref out), (2, .ref mo), (1, .ref x), (0, .ref b)]) cx.1 cx.2.1 dL_law_565 hl (by decide) rfl (fun ls hl => ?_)
      refine q_ald_n cx dL_law_567 rfl (lv_at hl 5 rfl) ?_
      refine q_cVi (As := []) (rest := []) cx hB (fun q h => hLA q h) hN hmo kmo (by decide) rfl (r_thrown l g hN hB.2.1 mo hmo kmo 0 (by decide) (by decide) z70) q_cL_159 q_dX12_thrown ⟨by decide, by show cells + 1 ≤ 601024; omega, by show slots + 6 ≤ 7293034; omega⟩ rfl rfl hl.1 rfl (Nat.le_of_ble_eq_true rfl) dL_law_568 (fun y126 H locs f125 ry126 h127 hF hB => ?_)
      obtain ⟨rfl, qy126⟩ := h127
      subst qy126
      refine lv_iload cx.1 cx.2.1 dL_law_571 (lv_at hl 1 rfl) ?_
      refine q_iceq (tgt := 578) cx ⟨by decide, by decide⟩ ⟨by decide, by decide⟩ dL_law_573 (by decide) (fun c128 => ?_) (fun c128 => ?_)
      · refine lv_iload cx.1 cx.2.1 dL_law_578 (lv_at hl 1 rfl) ?_
        refine q_ifne (tgt := 595) cx ⟨by decide, by decide⟩ dL_law_580 (by decide) (fun c129 => ?_) (fun c129 => ?_)
        · exact absurd c129 (by omega)
        · refine q_ald_n cx dL_law_583 rfl (lv_at hl 4 rfl) ?_
          refine q_iconst cx dL_law_584 ?_
          refine q_lald (n := 1) cx hB hout kout (by decide) rfl rfl (by decide) (by decide) (by decide) rfl z73 dL_law_585 ?_
          refine lv_iload cx.1 cx.2.1 dL_law_586 (lv_at hl 0 rfl) ?_
          refine q_i2l cx ⟨by omega, by omega⟩ dL_law_588 ?_
          refine q_lcmp cx dL_law_589 (fun y130 ly130 uy130 ey130 gy130 hy130 => ?_)
          rw [q_lInt ⟨by omega, by omega⟩, q_lInt ⟨by omega, by omega⟩] at ey130 hy130
          refine q_ifeq (tgt := 595) cx ⟨by omega, by omega⟩ dL_law_590 (by decide) (fun c131 => ?_) (fun c131 => ?_)
          · refine lv_goto (tgt := 1521) cx.1 cx.2.1 dL_law_595 (by decide) ?_
            refine W.widen (k := cells + 6) (n := slots + 36) (by omega) (by omega) ?_
            exact kk f65 H locs ls tn nl9 ls9 xc hB ⟨⟨z74, (Eq.trans z75 (by omega)), by omega, by omega⟩, g113, g115, g116, q_isu z77 (by omega), q_isu z78 (by omega), tk_bb_le g117 (by omega), z76, by omega, g119, g120, g121, g122, g123, g124, g114⟩ (lv_sub hl [2, 3, 4, 5, 6, 7] rfl)
          · exact absurd c131 (by omega)
      · exact absurd c128 (by omega)
    · obtain ⟨qy66, z132, t133⟩ := h69
      have z134 : q_j f65 out 0 = (q_l nL) := (hF.j hout (by rw [kout]; rfl)).trans hj9
      have z135 : q_is (q_z f65 so 1) tn := Eq.trans (hF.z hso (by rw [kso]; rfl)) z14
      have z136 : q_is (q_z f65 mo 2) tn := Eq.trans (hF.z hmo (by rw [kmo]; rfl)) z15
      have z137 : q_is (q_z f65 sr 0) xc := Eq.trans (hF.z hsr (by rw [ksr]; rfl)) z16
      have z138 : q_is (q_z f65 sr 3) x1 := Eq.trans (hF.z hsr (by rw [ksr]; rfl)) z17
      have z139 : q_is (q_z f65 sr 4) x2 := Eq.trans (hF.z hsr (by rw [ksr]; rfl)) z18
      have z140 : q_is (q_z f65 now 3) x5 := Eq.trans (hF.z hnow (by rw [know]; rfl)) z19
      have z141 : q_ir (q_r f65 x 0) so := Eq.trans (hF.r hx (by rw [kx]; rfl)) z20
      have z142 : q_ir (q_r f65 x 1) rd := Eq.trans (hF.r hx (by rw [kx]; rfl)) z21
      have z143 : q_ir (q_r f65 x 2) scr := Eq.trans (hF.r hx (by rw [kx]; rfl)) z22
      have z144 : q_ir (q_r f65 x 3) fc := Eq.trans (hF.r hx (by rw [kx]; rfl)) z23
      have z145 : q_ir (q_r f65 x 4) hist := Eq.trans (hF.r hx (by rw [kx]; rfl)) z24
      have z146 : q_ir (q_r f65 x 5) rep := Eq.trans (hF.r hx (by rw [kx]; rfl)) z25
      have z147 : q_ir (q_r f65 x 6) now := Eq.trans (hF.r hx (by rw [kx]; rfl)) z26
      have z148 : q_ir (q_r f65 x 7) dr := Eq.trans (hF.r hx (by rw [kx]; rfl)) z27
      have z149 : q_ir (q_r f65 x 8) sv := Eq.trans (hF.r hx (by rw [kx]; rfl)) z28
      have z150 : q_ir (q_r f65 fc 0) tr := Eq.trans (hF.r hfc (by rw [kfc]; rfl)) z29
      have z151 : q_ir (q_r f65 so 0) ba := Eq.trans (hF.r hso (by rw [kso]; rfl)) z30
      have z152 : q_ir (q_r f65 dr 0) nds := Eq.trans (hF.r hdr (by rw [kdr]; rfl)) z31
      have z153 : q_ir (q_r f65 hist 0) ka := Eq.trans (hF.r hhist (by rw [khist]; rfl)) z32
      have z154 : q_ir (q_r f65 now 0) ndn := Eq.trans (hF.r hnow (by rw [know]; rfl)) z33
      have z155 : q_ir (q_r f65 sv 0) nsv := Eq.trans (hF.r hsv (by rw [ksv]; rfl)) z34
      have z156 : q_ir (q_r f65 mo 1) bu := Eq.trans (hF.r hmo (by rw [kmo]; rfl)) z35
      have z157 : q_ir (q_r f65 mo 13) sr := Eq.trans (hF.r hmo (by rw [kmo]; rfl)) z36
      have z158 : q_ir (q_r f65 mo 14) sd := Eq.trans (hF.r hmo (by rw [kmo]; rfl)) z37
      have z159 : q_ir (q_r f65 mo 15) as := Eq.trans (hF.r hmo (by rw [kmo]; rfl)) z38
      have z160 : q_ir (q_r f65 mo 16) aw := Eq.trans (hF.r hmo (by rw [kmo]; rfl)) z39
      have z161 : q_ir (q_r f65 mo 17) pa := Eq.trans (hF.r hmo (by rw [kmo]; rfl)) z40
      have z162 : q_ir (q_r f65 mo 18) nm := Eq.trans (hF.r hmo (by rw [kmo]; rfl)) z41
      have z163 : q_ir (q_r f65 mo 19) snm := Eq.trans (hF.r hmo (by rw [kmo]; rfl)) z42
      have z164 : q_ir (q_r f65 mo 20) anm := Eq.trans (hF.r hmo (by rw [kmo]; rfl)) z43
      have z165 : q_ir (q_r f65 mo 24) hp := Eq.trans (hF.r hmo (by rw [kmo]; rfl)) z44
      have z166 : q_ir (q_r f65 mo 25) dy := Eq.trans (hF.r hmo (by rw [kmo]; rfl)) z45
      have z167 : q_ir (q_r f65 mo 29) cs := Eq.trans (hF.r hmo (by rw [kmo]; rfl)) z46
      have z168 : q_ir (q_r f65 mo 30) c1 := Eq.trans (hF.r hmo (by rw [kmo]; rfl)) z47
      have z169 : q_ir (q_r f65 mo 31) c2 := Eq.trans (hF.r hmo (by rw [kmo]; rfl)) z48
      have z170 : q_ir (q_r f65 mo 32) c3 := Eq.trans (hF.r hmo (by rw [kmo]; rfl)) z49
      have z171 : q_ir (q_r f65 mo 33) bg := Eq.trans (hF.r hmo (by rw [kmo]; rfl)) z50
      have z172 : q_ir (q_r f65 mo 34) lp := Eq.trans (hF.r hmo (by rw [kmo]; rfl)) z51
      have z173 : q_ir (q_r f65 mo 38) rp := Eq.trans (hF.r hmo (by rw [kmo]; rfl)) z52
      have g174 : q_gr f65 sr := q_gr_fr g53 (fun i9 _ => hF.z hsr (by rw [ksr]; rfl))
      have g175 : q_z f65 x 9 = q_z f65 mo 22 := tk_s2_tr g54 (hF.z hx (by rw [kx]; rfl)) (hF.z hmo (by rw [kmo]; rfl))
      have g176 : q_pk f65 mo pa := q_pk_tr g55 (hF.z hmo (by rw [kmo]; rfl)) (fun i9 => hF.z hpa (by rw [kpa]; rfl))
      have g177 : q_sv f65 mo sd := q_sv_tr g56 (hF.z hmo (by rw [kmo]; rfl)) (fun i9 => hF.z hsd (by rw [ksd]; rfl))
      have g178 : tk_bb f65 bu ba tn := tk_bb_tr g57 (fun i9 => hF.z hbu (by rw [kbu]; rfl)) (fun i9 => hF.z hba (by rw [kba]; rfl))
      have g179 : tk_ij K L f65 nds := tk_ij_tr g58 (fun i9 => hF.r hnds (by rw [knds]; rfl))
      have g180 : tk_vn K L 5 f65 now ndn nl9 := tk_vn_tr g59 (hF.z hnow (by rw [know]; rfl)) (fun a9 h9 k9 => hF.j h9 (by rw [k9]; rfl)) (fun i9 => hF.r hndn (by rw [kndn]; rfl))
      have g181 : tk_vk K L f65 hist ka now ndn := tk_vk_tr g60 (hF.z hhist (by rw [khist]; rfl)) (hF.z hhist (by rw [khist]; rfl)) (hF.z hnow (by rw [know]; rfl)) (fun a9 h9 k9 => hF.j h9 (by rw [k9]; rfl)) (fun i9 => hF.r hndn (by rw [kndn]; rfl)) (fun a9 h9 k9 => hF.z h9 (by rw [k9]; rfl)) (fun a9 h9 k9 => hF.j h9 (by rw [k9]; rfl)) (fun i9 => hF.r hka (by rw [kka]; rfl)) (fun a9 h9 k9 => hF.r h9 (by rw [k9]; rfl)) (fun a9 h9 k9 i9 => hF.r h9 (by rw [k9]; rfl))
      have g182 : tk_vs K L f65 x sv nsv ls9 := tk_vs_tr g61 (hF.z hx (by rw [kx]; rfl)) (hF.z hsv (by rw [ksv]; rfl)) (fun a9 h9 k9 => hF.j h9 (by rw [k9]; rfl)) (fun i9 => hF.r hnsv (by rw [knsv]; rfl))
      have g183 : tk_nq f65 nm nl9 := tk_nq_tr g62 (fun i9 => hF.j hnm (by rw [knm]; rfl))
      have g184 : tk_rs f65 mo sd snm ls9 := tk_rs_tr g63 (hF.z hmo (by rw [kmo]; rfl)) (fun i9 h9 k9 => hF.z hsd (by rw [ksd]; exact q_inWr rfl h9 k9)) (fun i9 => hF.j hsnm (by rw [ksnm]; rfl))
      have g185 : q_pc f65 mo pa xc := q_pc_tr g64 (hF.z hmo (by rw [kmo]; rfl)) (fun i9 => hF.z hpa (by rw [kpa]; rfl))
      subst qy66
      exact False.elim (by omega)
  · obtain ⟨qy7, t186⟩ := h10
    have z187 : q_is (q_z f6 so 1) tn := Eq.trans (hF.z hso (by rw [kso]; rfl)) hn0
    have z188 : q_is (q_z f6 mo 2) tn := Eq.trans (hF.z hmo (by rw [kmo]; rfl)) hn1
    have z189 : q_is (q_z f6 sr 0) xc := Eq.trans (hF.z hsr (by rw [ksr]; rfl)) hsr0
    have z190 : q_is (q_z f6 sr 3) x1 := Eq.trans (hF.z hsr (by rw [ksr]; rfl)) ex1
    have z191 : q_is (q_z f6 sr 4) x2 := Eq.trans (hF.z hsr (by rw [ksr]; rfl)) ex2
    have z192 : q_is (q_z f6 now 3) x5 := Eq.trans (hF.z hnow (by rw [know]; rfl)) ex5
    have z193 : q_ir (q_r f6 x 0) so := Eq.trans (hF.r hx (by rw [kx]; rfl)) hr0
    have z194 : q_ir (q_r f6 x 1) rd := Eq.trans (hF.r hx (by rw [kx]; rfl)) hr1
    have z195 : q_ir (q_r f6 x 2) scr := Eq.trans (hF.r hx (by rw [kx]; rfl)) hr2
    have z196 : q_ir (q_r f6 x 3) fc := Eq.trans (hF.r hx (by rw [kx]; rfl)) hr3
    have z197 : q_ir (q_r f6 x 4) hist := Eq.trans (hF.r hx (by rw [kx]; rfl)) hr4
    have z198 : q_ir (q_r f6 x 5) rep := Eq.trans (hF.r hx (by rw [kx]; rfl)) hr5
    have z199 : q_ir (q_r f6 x 6) now := Eq.trans (hF.r hx (by rw [kx]; rfl)) hr6
    have z200 : q_ir (q_r f6 x 7) dr := Eq.trans (hF.r hx (by rw [kx]; rfl)) hr7
    have z201 : q_ir (q_r f6 x 8) sv := Eq.trans (hF.r hx (by rw [kx]; rfl)) hr8
    have z202 : q_ir (q_r f6 fc 0) tr := Eq.trans (hF.r hfc (by rw [kfc]; rfl)) hr9
    have z203 : q_ir (q_r f6 so 0) ba := Eq.trans (hF.r hso (by rw [kso]; rfl)) hr10
    have z204 : q_ir (q_r f6 dr 0) nds := Eq.trans (hF.r hdr (by rw [kdr]; rfl)) hr11
    have z205 : q_ir (q_r f6 hist 0) ka := Eq.trans (hF.r hhist (by rw [khist]; rfl)) hr12
    have z206 : q_ir (q_r f6 now 0) ndn := Eq.trans (hF.r hnow (by rw [know]; rfl)) hr13
    have z207 : q_ir (q_r f6 sv 0) nsv := Eq.trans (hF.r hsv (by rw [ksv]; rfl)) hr14
    have z208 : q_ir (q_r f6 mo 1) bu := Eq.trans (hF.r hmo (by rw [kmo]; rfl)) hr15
    have z209 : q_ir (q_r f6 mo 13) sr := Eq.trans (hF.r hmo (by rw [kmo]; rfl)) hr16
    have z210 : q_ir (q_r f6 mo 14) sd := Eq.trans (hF.r hmo (by rw [kmo]; rfl)) hr17
    have z211 : q_ir (q_r f6 mo 15) as := Eq.trans (hF.r hmo (by rw [kmo]; rfl)) hr18
    have z212 : q_ir (q_r f6 mo 16) aw := Eq.trans (hF.r hmo (by rw [kmo]; rfl)) hr19
    have z213 : q_ir (q_r f6 mo 17) pa := Eq.trans (hF.r hmo (by rw [kmo]; rfl)) hr20
    have z214 : q_ir (q_r f6 mo 18) nm := Eq.trans (hF.r hmo (by rw [kmo]; rfl)) hr21
    have z215 : q_ir (q_r f6 mo 19) snm := Eq.trans (hF.r hmo (by rw [kmo]; rfl)) hr22
    have z216 : q_ir (q_r f6 mo 20) anm := Eq.trans (hF.r hmo (by rw [kmo]; rfl)) hr23
    have z217 : q_ir (q_r f6 mo 24) hp := Eq.trans (hF.r hmo (by rw [kmo]; rfl)) hr24
    have z218 : q_ir (q_r f6 mo 25) dy := Eq.trans (hF.r hmo (by rw [kmo]; rfl)) hr25
    have z219 : q_ir (q_r f6 mo 29) cs := Eq.trans (hF.r hmo (by rw [kmo]; rfl)) hr26
    have z220 : q_ir (q_r f6 mo 30) c1 := Eq.trans (hF.r hmo (by rw [kmo]; rfl)) hr27
    have z221 : q_ir (q_r f6 mo 31) c2 := Eq.trans (hF.r hmo (by rw [kmo]; rfl)) hr28
    have z222 : q_ir (q_r f6 mo 32) c3 := Eq.trans (hF.r hmo (by rw [kmo]; rfl)) hr29
    have z223 : q_ir (q_r f6 mo 33) bg := Eq.trans (hF.r hmo (by rw [kmo]; rfl)) hr30
    have z224 : q_ir (q_r f6 mo 34) lp := Eq.trans (hF.r hmo (by rw [kmo]; rfl)) hr31
    have z225 : q_ir (q_r f6 mo 38) rp := Eq.trans (hF.r hmo (by rw [kmo]; rfl)) hr32
    have g226 : q_gr f6 sr := q_gr_fr hgr (fun i9 _ => hF.z hsr (by rw [ksr]; rfl))
    have g227 : q_z f6 x 9 = q_z f6 mo 22 := tk_s2_tr hs22 (hF.z hx (by rw [kx]; rfl)) (hF.z hmo (by rw [kmo]; rfl))
    have g228 : q_pk f6 mo pa := q_pk_tr hpk (hF.z hmo (by rw [kmo]; rfl)) (fun i9 => hF.z hpa (by rw [kpa]; rfl))
    have g229 : q_sv f6 mo sd := q_sv_tr hsd9 (hF.z hmo (by rw [kmo]; rfl)) (fun i9 => hF.z hsd (by rw [ksd]; rfl))
    have g230 : tk_bb f6 bu ba tn := tk_bb_tr hbb (fun i9 => hF.z hbu (by rw [kbu]; rfl)) (fun i9 => hF.z hba (by rw [kba]; rfl))
    have g231 : tk_ij K L f6 nds := tk_ij_tr hij (fun i9 => hF.r hnds (by rw [knds]; rfl))
    have g232 : tk_vn K L 5 f6 now ndn nl9 := tk_vn_tr hvn (hF.z hnow (by rw [know]; rfl)) (fun a9 h9 k9 => hF.j h9 (by rw [k9]; rfl)) (fun i9 => hF.r hndn (by rw [kndn]; rfl))
    have g233 : tk_vk K L f6 hist ka now ndn := tk_vk_tr hvk (hF.z hhist (by rw [khist]; rfl)) (hF.z hhist (by rw [khist]; rfl)) (hF.z hnow (by rw [know]; rfl)) (fun a9 h9 k9 => hF.j h9 (by rw [k9]; rfl)) (fun i9 => hF.r hndn (by rw [kndn]; rfl)) (fun a9 h9 k9 => hF.z h9 (by rw [k9]; rfl)) (fun a9 h9 k9 => hF.j h9 (by rw [k9]; rfl)) (fun i9 => hF.r hka (by rw [kka]; rfl)) (fun a9 h9 k9 => hF.r h9 (by rw [k9]; rfl)) (fun a9 h9 k9 i9 => hF.r h9 (by rw [k9]; rfl))
    have g234 : tk_vs K L f6 x sv nsv ls9 := tk_vs_tr hvs (hF.z hx (by rw [kx]; rfl)) (hF.z hsv (by rw [ksv]; rfl)) (fun a9 h9 k9 => hF.j h9 (by rw [k9]; rfl)) (fun i9 => hF.r hnsv (by rw [knsv]; rfl))
    have g235 : tk_nq f6 nm nl9 := tk_nq_tr hrn9 (fun i9 => hF.j hnm (by rw [knm]; rfl))
    have g236 : tk_rs f6 mo sd snm ls9 := tk_rs_tr hrs9 (hF.z hmo (by rw [kmo]; rfl)) (fun i9 h9 k9 => hF.z hsd (by rw [ksd]; exact q_inWr rfl h9 k9)) (fun i9 => hF.j hsnm (by rw [ksnm]; rfl))
    have g237 : q_pc f6 mo pa xc := q_pc_tr hpc (hF.z hmo (by rw [kmo]; rfl)) (fun i9 => hF.z hpa (by rw [kpa]; rfl))
    subst qy7
    refine lv_istore (lv' := [(6, .int (q_i 1)), (5, .int (q_i ii)), (4, .ref outD), (3, .ref out), (2, .ref mo), (1, .ref x), (0, .ref b)]) cx.1 cx.2.1 dL_law_547 hl (by decide) rfl (fun ls hl => ?_)
    refine q_ald_n cx dL_law_549 rfl (lv_at hl 4 rfl) ?_
    refine q_ald_n cx dL_law_550 rfl (lv_at hl 6 rfl) ?_
    refine lv_iload cx.1 cx.2.1 dL_law_551 (lv_at hl 1 rfl) ?_
    refine q_iconst cx dL_law_553 ?_
    refine q_iadd cx dL_law_554 ?_
    refine va_sld cx.1 cx.2.1 hXs hbl hbA hB.1.2.2.2 (q_in (by omega) (by omega) (by omega)) dL_law_555 ?_
    rw [ea3]
    refine q_ald_n cx dL_law_556 rfl (lv_at hl 6 rfl) ?_
    refine lv_iload cx.1 cx.2.1 dL_law_557 (lv_at hl 1 rfl) ?_
    refine q_iconst cx dL_law_559 ?_
    refine q_iadd cx dL_law_560 ?_
    refine va_sld cx.1 cx.2.1 hXs hbl hbA hB.1.2.2.2 (q_in (by omega) (by omega) (by omega)) dL_law_561 ?_
    rw [ea4]
    refine q_cVi (As := [.int (q_i a3), .int (q_i a4)]) (rest := []) cx hB (fun q h => hLA q h) hN hmo kmo (by decide) rfl (f_mletter l g hN hB.2.1 nl9 mo hmo kmo a3 (by omega) (by omega) a4 (by omega) (by omega) sr hsr ksr nm hnm knm xc (by omega) (by omega) z189 z209 z214 hxc g226 g235) q_cL_158 q_dX12_letter ⟨by decide, by show cells + 1 ≤ 601024; omega, by show slots + 6 ≤ 7293034; omega⟩ rfl rfl hl.1 rfl (Nat.le_of_ble_eq_true rfl) dL_law_562 (fun y239 H locs f238 ry239 h240 hF hB => ?_)
    rcases h240 with h241 | h242
    · obtain ⟨z243, t244, t245⟩ := h241
      have z246 : q_is (q_z f238 so 1) tn := Eq.trans (hF.z hso (by rw [kso]; rfl)) z187
      have z247 : q_is (q_z f238 mo 2) tn := Eq.trans (hF.z hmo (by rw [kmo]; rfl)) z188
      have z248 : q_is (q_z f238 sr 0) xc := Eq.trans (hF.z hsr (by rw [ksr]; rfl)) z189
      have z249 : q_is (q_z f238 sr 3) x1 := Eq.trans (hF.z hsr (by rw [ksr]; rfl)) z190
      have z250 : q_is (q_z f238 sr 4) x2 := Eq.trans (hF.z hsr (by rw [ksr]; rfl)) z191
      have z251 : q_is (q_z f238 now 3) x5 := Eq.trans (hF.z hnow (by rw [know]; rfl)) z192
      have z252 : q_ir (q_r f238 x 0) so := Eq.trans (hF.r hx (by rw [kx]; rfl)) z193
      have z253 : q_ir (q_r f238 x 1) rd := Eq.trans (hF.r hx (by rw [kx]; rfl)) z194
      have z254 : q_ir (q_r f238 x 2) scr := Eq.trans (hF.r hx (by rw [kx]; rfl)) z195
      have z255 : q_ir (q_r f238 x 3) fc := Eq.trans (hF.r hx (by rw [kx]; rfl)) z196
      have z256 : q_ir (q_r f238 x 4) hist := Eq.trans (hF.r hx (by rw [kx]; rfl)) z197
      have z257 : q_ir (q_r f238 x 5) rep := Eq.trans (hF.r hx (by rw [kx]; rfl)) z198
      have z258 : q_ir (q_r f238 x 6) now := Eq.trans (hF.r hx (by rw [kx]; rfl)) z199
      have z259 : q_ir (q_r f238 x 7) dr := Eq.trans (hF.r hx (by rw [kx]; rfl)) z200
      have z260 : q_ir (q_r f238 x 8) sv := Eq.trans (hF.r hx (by rw [kx]; rfl)) z201
      have z261 : q_ir (q_r f238 fc 0) tr := Eq.trans (hF.r hfc (by rw [kfc]; rfl)) z202
      have z262 : q_ir (q_r f238 so 0) ba := Eq.trans (hF.r hso (by rw [kso]; rfl)) z203
      have z263 : q_ir (q_r f238 dr 0) nds := Eq.trans (hF.r hdr (by rw [kdr]; rfl)) z204
      have z264 : q_ir (q_r f238 hist 0) ka := Eq.trans (hF.r hhist (by rw [khist]; rfl)) z205
      have z265 : q_ir (q_r f238 now 0) ndn := Eq.trans (hF.r hnow (by rw [know]; rfl)) z206
      have z266 : q_ir (q_r f238 sv 0) nsv := Eq.trans (hF.r hsv (by rw [ksv]; rfl)) z207
      have z267 : q_ir (q_r f238 mo 1) bu := Eq.trans (hF.r hmo (by rw [kmo]; rfl)) z208
      have z268 : q_ir (q_r f238 mo 13) sr := Eq.trans (hF.r hmo (by rw [kmo]; rfl)) z209
      have z269 : q_ir (q_r f238 mo 14) sd := Eq.trans (hF.r hmo (by rw [kmo]; rfl)) z210
      have z270 : q_ir (q_r f238 mo 15) as := Eq.trans (hF.r hmo (by rw [kmo]; rfl)) z211
      have z271 : q_ir (q_r f238 mo 16) aw := Eq.trans (hF.r hmo (by rw [kmo]; rfl)) z212
      have z272 : q_ir (q_r f238 mo 17) pa := Eq.trans (hF.r hmo (by rw [kmo]; rfl)) z213
      have z273 : q_ir (q_r f238 mo 18) nm := Eq.trans (hF.r hmo (by rw [kmo]; rfl)) z214
      have z274 : q_ir (q_r f238 mo 19) snm := Eq.trans (hF.r hmo (by rw [kmo]; rfl)) z215
      have z275 : q_ir (q_r f238 mo 20) anm := Eq.trans (hF.r hmo (by rw [kmo]; rfl)) z216
      have z276 : q_ir (q_r f238 mo 24) hp := Eq.trans (hF.r hmo (by rw [kmo]; rfl)) z217
      have z277 : q_ir (q_r f238 mo 25) dy := Eq.trans (hF.r hmo (by rw [kmo]; rfl)) z218
      have z278 : q_ir (q_r f238 mo 29) cs := Eq.trans (hF.r hmo (by rw [kmo]; rfl)) z219
      have z279 : q_ir (q_r f238 mo 30) c1 := Eq.trans (hF.r hmo (by rw [kmo]; rfl)) z220
      have z280 : q_ir (q_r f238 mo 31) c2 := Eq.trans (hF.r hmo (by rw [kmo]; rfl)) z221
      have z281 : q_ir (q_r f238 mo 32) c3 := Eq.trans (hF.r hmo (by rw [kmo]; rfl)) z222
      have z282 : q_ir (q_r f238 mo 33) bg := Eq.trans (hF.r hmo (by rw [kmo]; rfl)) z223
      have z283 : q_ir (q_r f238 mo 34) lp := Eq.trans (hF.r hmo (by rw [kmo]; rfl)) z224
      have z284 : q_ir (q_r f238 mo 38) rp := Eq.trans (hF.r hmo (by rw [kmo]; rfl)) z225
      have g285 : q_gr f238 sr := q_gr_fr g226 (fun i9 _ => hF.z hsr (by rw [ksr]; rfl))
      have g286 : q_z f238 x 9 = q_z f238 mo 22 := tk_s2_tr g227 (hF.z hx (by rw [kx]; rfl)) (hF.z hmo (by rw [kmo]; rfl))
      have g287 : q_pk f238 mo pa := q_pk_tr g228 (hF.z hmo (by rw [kmo]; rfl)) (fun i9 => hF.z hpa (by rw [kpa]; rfl))
      have g288 : q_sv f238 mo sd := q_sv_tr g229 (hF.z hmo (by rw [kmo]; rfl)) (fun i9 => hF.z hsd (by rw [ksd]; rfl))
      have g289 : tk_bb f238 bu ba tn := tk_bb_tr g230 (fun i9 => hF.z hbu (by rw [kbu]; rfl)) (fun i9 => hF.z hba (by rw [kba]; rfl))
      have g290 : tk_ij K L f238 nds := tk_ij_tr g231 (fun i9 => hF.r hnds (by rw [knds]; rfl))
      have g291 : tk_vn K L 5 f238 now ndn nl9 := tk_vn_tr g232 (hF.z hnow (by rw [know]; rfl)) (fun a9 h9 k9 => hF.j h9 (by rw [k9]; rfl)) (fun i9 => hF.r hndn (by rw [kndn]; rfl))
      have g292 : tk_vk K L f238 hist ka now ndn := tk_vk_tr g233 (hF.z hhist (by rw [khist]; rfl)) (hF.z hhist (by rw [khist]; rfl)) (hF.z hnow (by rw [know]; rfl)) (fun a9 h9 k9 => hF.j h9 (by rw [k9]; rfl)) (fun i9 => hF.r hndn (by rw [kndn]; rfl)) (fun a9 h9 k9 => hF.z h9 (by rw [k9]; rfl)) (fun a9 h9 k9 => hF.j h9 (by rw [k9]; rfl)) (fun i9 => hF.r hka (by rw [kka]; rfl)) (fun a9 h9 k9 => hF.r h9 (by rw [k9]; rfl)) (fun a9 h9 k9 i9 => hF.r h9 (by rw [k9]; rfl))
      have g293 : tk_vs K L f238 x sv nsv ls9 := tk_vs_tr g234 (hF.z hx (by rw [kx]; rfl)) (hF.z hsv (by rw [ksv]; rfl)) (fun a9 h9 k9 => hF.j h9 (by rw [k9]; rfl)) (fun i9 => hF.r hnsv (by rw [knsv]; rfl))
      have g294 : tk_nq f238 nm nl9 := tk_nq_tr g235 (fun i9 => hF.j hnm (by rw [knm]; rfl))
      have g295 : tk_rs f238 mo sd snm ls9 := tk_rs_tr g236 (hF.z hmo (by rw [kmo]; rfl)) (fun i9 h9 k9 => hF.z hsd (by rw [ksd]; exact q_inWr rfl h9 k9)) (fun i9 => hF.j hsnm (by rw [ksnm]; rfl))
      have g296 : q_pc f238 mo pa xc := q_pc_tr g237 (hF.z hmo (by rw [kmo]; rfl)) (fun i9 => hF.z hpa (by rw [kpa]; rfl))
      exact False.elim (by omega)
    · obtain ⟨qy239, z297, t298⟩ := h242
      have z299 : q_is (q_z f238 so 1) tn := Eq.trans (hF.z hso (by rw [kso]; rfl)) z187
      have z300 : q_is (q_z f238 mo 2) tn := Eq.trans (hF.z hmo (by rw [kmo]; rfl)) z188
      have z301 : q_is (q_z f238 sr 0) xc := Eq.trans (hF.z hsr (by rw [ksr]; rfl)) z189
      have z302 : q_is (q_z f238 sr 3) x1 := Eq.trans (hF.z hsr (by rw [ksr]; rfl)) z190
      have z303 : q_is (q_z f238 sr 4) x2 := Eq.trans (hF.z hsr (by rw [ksr]; rfl)) z191
      have z304 : q_is (q_z f238 now 3) x5 := Eq.trans (hF.z hnow (by rw [know]; rfl)) z192
      have z305 : q_ir (q_r f238 x 0) so := Eq.trans (hF.r hx (by rw [kx]; rfl)) z193
      have z306 : q_ir (q_r f238 x 1) rd := Eq.trans (hF.r hx (by rw [kx]; rfl)) z194
      have z307 : q_ir (q_r f238 x 2) scr := Eq.trans (hF.r hx (by rw [kx]; rfl)) z195
      have z308 : q_ir (q_r f238 x 3) fc := Eq.trans (hF.r hx (by rw [kx]; rfl)) z196
      have z309 : q_ir (q_r f238 x 4) hist := Eq.trans (hF.r hx (by rw [kx]; rfl)) z197
      have z310 : q_ir (q_r f238 x 5) rep := Eq.trans (hF.r hx (by rw [kx]; rfl)) z198
      have z311 : q_ir (q_r f238 x 6) now := Eq.trans (hF.r hx (by rw [kx]; rfl)) z199
      have z312 : q_ir (q_r f238 x 7) dr := Eq.trans (hF.r hx (by rw [kx]; rfl)) z200
      have z313 : q_ir (q_r f238 x 8) sv := Eq.trans (hF.r hx (by rw [kx]; rfl)) z201
      have z314 : q_ir (q_r f238 fc 0) tr := Eq.trans (hF.r hfc (by rw [kfc]; rfl)) z202
      have z315 : q_ir (q_r f238 so 0) ba := Eq.trans (hF.r hso (by rw [kso]; rfl)) z203
      have z316 : q_ir (q_r f238 dr 0) nds := Eq.trans (hF.r hdr (by rw [kdr]; rfl)) z204
      have z317 : q_ir (q_r f238 hist 0) ka := Eq.trans (hF.r hhist (by rw [khist]; rfl)) z205
      have z318 : q_ir (q_r f238 now 0) ndn := Eq.trans (hF.r hnow (by rw [know]; rfl)) z206
      have z319 : q_ir (q_r f238 sv 0) nsv := Eq.trans (hF.r hsv (by rw [ksv]; rfl)) z207
      have z320 : q_ir (q_r f238 mo 1) bu := Eq.trans (hF.r hmo (by rw [kmo]; rfl)) z208
      have z321 : q_ir (q_r f238 mo 13) sr := Eq.trans (hF.r hmo (by rw [kmo]; rfl)) z209
      have z322 : q_ir (q_r f238 mo 14) sd := Eq.trans (hF.r hmo (by rw [kmo]; rfl)) z210
      have z323 : q_ir (q_r f238 mo 15) as := Eq.trans (hF.r hmo (by rw [kmo]; rfl)) z211
      have z324 : q_ir (q_r f238 mo 16) aw := Eq.trans (hF.r hmo (by rw [kmo]; rfl)) z212
      have z325 : q_ir (q_r f238 mo 17) pa := Eq.trans (hF.r hmo (by rw [kmo]; rfl)) z213
      have z326 : q_ir (q_r f238 mo 18) nm := Eq.trans (hF.r hmo (by rw [kmo]; rfl)) z214
      have z327 : q_ir (q_r f238 mo 19) snm := Eq.trans (hF.r hmo (by rw [kmo]; rfl)) z215
      have z328 : q_ir (q_r f238 mo 20) anm := Eq.trans (hF.r hmo (by rw [kmo]; rfl)) z216
      have z329 : q_ir (q_r f238 mo 24) hp := Eq.trans (hF.r hmo (by rw [kmo]; rfl)) z217
      have z330 : q_ir (q_r f238 mo 25) dy := Eq.trans (hF.r hmo (by rw [kmo]; rfl)) z218
      have z331 : q_ir (q_r f238 mo 29) cs := Eq.trans (hF.r hmo (by rw [kmo]; rfl)) z219
      have z332 : q_ir (q_r f238 mo 30) c1 := Eq.trans (hF.r hmo (by rw [kmo]; rfl)) z220
      have z333 : q_ir (q_r f238 mo 31) c2 := Eq.trans (hF.r hmo (by rw [kmo]; rfl)) z221
      have z334 : q_ir (q_r f238 mo 32) c3 := Eq.trans (hF.r hmo (by rw [kmo]; rfl)) z222
      have z335 : q_ir (q_r f238 mo 33) bg := Eq.trans (hF.r hmo (by rw [kmo]; rfl)) z223
      have z336 : q_ir (q_r f238 mo 34) lp := Eq.trans (hF.r hmo (by rw [kmo]; rfl)) z224
      have z337 : q_ir (q_r f238 mo 38) rp := Eq.trans (hF.r hmo (by rw [kmo]; rfl)) z225
      have g338 : q_gr f238 sr := q_gr_fr g226 (fun i9 _ => hF.z hsr (by rw [ksr]; rfl))
      have g339 : q_z f238 x 9 = q_z f238 mo 22 := tk_s2_tr g227 (hF.z hx (by rw [kx]; rfl)) (hF.z hmo (by rw [kmo]; rfl))
      have g340 : q_pk f238 mo pa := q_pk_tr g228 (hF.z hmo (by rw [kmo]; rfl)) (fun i9 => hF.z hpa (by rw [kpa]; rfl))
      have g341 : q_sv f238 mo sd := q_sv_tr g229 (hF.z hmo (by rw [kmo]; rfl)) (fun i9 => hF.z hsd (by rw [ksd]; rfl))
      have g342 : tk_bb f238 bu ba tn := tk_bb_tr g230 (fun i9 => hF.z hbu (by rw [kbu]; rfl)) (fun i9 => hF.z hba (by rw [kba]; rfl))
      have g343 : tk_ij K L f238 nds := tk_ij_tr g231 (fun i9 => hF.r hnds (by rw [knds]; rfl))
      have g344 : tk_vn K L 5 f238 now ndn nl9 := tk_vn_tr g232 (hF.z hnow (by rw [know]; rfl)) (fun a9 h9 k9 => hF.j h9 (by rw [k9]; rfl)) (fun i9 => hF.r hndn (by rw [kndn]; rfl))
      have g345 : tk_vk K L f238 hist ka now ndn := tk_vk_tr g233 (hF.z hhist (by rw [khist]; rfl)) (hF.z hhist (by rw [khist]; rfl)) (hF.z hnow (by rw [know]; rfl)) (fun a9 h9 k9 => hF.j h9 (by rw [k9]; rfl)) (fun i9 => hF.r hndn (by rw [kndn]; rfl)) (fun a9 h9 k9 => hF.z h9 (by rw [k9]; rfl)) (fun a9 h9 k9 => hF.j h9 (by rw [k9]; rfl)) (fun i9 => hF.r hka (by rw [kka]; rfl)) (fun a9 h9 k9 => hF.r h9 (by rw [k9]; rfl)) (fun a9 h9 k9 i9 => hF.r h9 (by rw [k9]; rfl))
      have g346 : tk_vs K L f238 x sv nsv ls9 := tk_vs_tr g234 (hF.z hx (by rw [kx]; rfl)) (hF.z hsv (by rw [ksv]; rfl)) (fun a9 h9 k9 => hF.j h9 (by rw [k9]; rfl)) (fun i9 => hF.r hnsv (by rw [knsv]; rfl))
      have g347 : tk_nq f238 nm nl9 := tk_nq_tr g235 (fun i9 => hF.j hnm (by rw [knm]; rfl))
      have g348 : tk_rs f238 mo sd snm ls9 := tk_rs_tr g236 (hF.z hmo (by rw [kmo]; rfl)) (fun i9 h9 k9 => hF.z hsd (by rw [ksd]; exact q_inWr rfl h9 k9)) (fun i9 => hF.j hsnm (by rw [ksnm]; rfl))
      have g349 : q_pc f238 mo pa xc := q_pc_tr g237 (hF.z hmo (by rw [kmo]; rfl)) (fun i9 => hF.z hpa (by rw [kpa]; rfl))
      subst qy239
      refine lv_istore (lv' := [(7, .int (q_i 0)), (6, .int (q_i 1)), (5, .int (q_i ii)), (4, .ref outD), (3, .ref out), (2, .ref mo), (1, .ref x), (0, .ref b)]) cx.1 cx.2.1 dL_law_565 hl (by decide) rfl (fun ls hl => ?_)
      refine q_ald_n cx dL_law_567 rfl (lv_at hl 5 rfl) ?_
      refine q_cVi (As := []) (rest := []) cx hB (fun q h => hLA q h) hN hmo kmo (by decide) rfl (r_thrown l g hN hB.2.1 mo hmo kmo 1 (by decide) (by decide) z297) q_cL_159 q_dX12_thrown ⟨by decide, by show cells + 1 ≤ 601024; omega, by show slots + 6 ≤ 7293034; omega⟩ rfl rfl hl.1 rfl (Nat.le_of_ble_eq_true rfl) dL_law_568 (fun y351 H locs f350 ry351 h352 hF hB => ?_)
      obtain ⟨rfl, qy351⟩ := h352
      subst qy351
      refine lv_iload cx.1 cx.2.1 dL_law_571 (lv_at hl 1 rfl) ?_
      refine q_iceq (tgt := 578) cx ⟨by decide, by decide⟩ ⟨by decide, by decide⟩ dL_law_573 (by decide) (fun c353 => ?_) (fun c353 => ?_)
      · refine lv_iload cx.1 cx.2.1 dL_law_578 (lv_at hl 1 rfl) ?_
        refine q_ifne (tgt := 595) cx ⟨by decide, by decide⟩ dL_law_580 (by decide) (fun c354 => ?_) (fun c354 => ?_)
        · refine lv_goto (tgt := 1521) cx.1 cx.2.1 dL_law_595 (by decide) ?_
          refine W.widen (k := cells + 6) (n := slots + 36) (by omega) (by omega) ?_
          exact kk f238 H locs ls tn nl9 ls9 xc hB ⟨⟨z299, (Eq.trans z300 (by omega)), by omega, by omega⟩, g338, g340, g341, q_isu z302 (by omega), q_isu z303 (by omega), tk_bb_le g342 (by omega), z301, by omega, g344, g345, g346, g347, g348, g349, g339⟩ (lv_sub hl [2, 3, 4, 5, 6, 7] rfl)
        · exact absurd c354 (by omega)
      · exact absurd c353 (by omega)
