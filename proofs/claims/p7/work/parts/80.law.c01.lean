set_option maxHeartbeats 4000000 in
set_option maxRecDepth 100000 in
theorem law_c296 {p : Program} {l : Launch} {e : Env} {s : State} {m : MethodId} {below : List Frame} {meth : Method} {c : Code} {b N9 : Nat} {xs : Nat → Int32} (hfl : l.stackTraces = false) (hN9 : N9 ≤ 3072) (C0 : lw_At p s m meth c b N9 xs) (cx : CallFix p m c cL_law 10 s #[Value.ref b] q_al RL) {g : q_G} {ad : Nat → Nat} {K : Nat → Nat} {L : List Nat} (hN : L.Nodup) (hLA : ∀ q, q ∈ L → s.heap.size ≤ q) (hX : q_X ad (fun q => q ∈ L) s) {f0 : Nat → va_E} {x : Nat} (hx : x ∈ L) (kx : K x = 11) {so : Nat} (hso : so ∈ L) (kso : K so = 8) {rd : Nat} (hrd : rd ∈ L) (krd : K rd = 9) {scr : Nat} (hscr : scr ∈ L) (kscr : K scr = 7) {fc : Nat} (hfc : fc ∈ L) (kfc : K fc = 1) {hist : Nat} (hhist : hist ∈ L) (khist : K hist = 2) {rep : Nat} (hrep : rep ∈ L) (krep : K rep = 6) {now : Nat} (hnow : now ∈ L) (know : K now = 10) {dr : Nat} (hdr : dr ∈ L) (kdr : K dr = 13) {sv : Nat} (hsv : sv ∈ L) (ksv : K sv = 14) {tr : Nat} (htr : tr ∈ L) (ktr : K tr = 15) {ba : Nat} (hba : ba ∈ L) (kba : K ba = 142) {nds : Nat} (hnds : nds ∈ L) (knds : K nds = 111) {ka : Nat} (hka : ka ∈ L) (kka : K ka = 140) {ndn : Nat} (hndn : ndn ∈ L) (kndn : K ndn = 110) {nsv : Nat} (hnsv : nsv ∈ L) (knsv : K nsv = 112) {cmds : Nat} (hcmds : cmds ∈ L) (kcmds : K cmds = 141) {mo : Nat} (hmo : mo ∈ L) (kmo : K mo = 12) {bu : Nat} (hbu : bu ∈ L) (kbu : K bu = 150) {sr : Nat} (hsr : sr ∈ L) (ksr : K sr = 151) {sd : Nat} (hsd : sd ∈ L) (ksd : K sd = 152) {as : Nat} (has : as ∈ L) (kas : K as = 153) {aw : Nat} (haw : aw ∈ L) (kaw : K aw = 154) {pa : Nat} (hpa : pa ∈ L) (kpa : K pa = 155) {nm : Nat} (hnm : nm ∈ L) (knm : K nm = 156) {snm : Nat} (hsnm : snm ∈ L) (ksnm : K snm = 157) {anm : Nat} (hanm : anm ∈ L) (kanm : K anm = 158) {hp : Nat} (hhp : hp ∈ L) (khp : K hp = 159) {dy : Nat} (hdy : dy ∈ L) (kdy : K dy = 160) {cs : Nat} (hcs : cs ∈ L) (kcs : K cs = 161) {c1 : Nat} (hc1 : c1 ∈ L) (kc1 : K c1 = 162) {c2 : Nat} (hc2 : c2 ∈ L) (kc2 : K c2 = 163) {c3 : Nat} (hc3 : c3 ∈ L) (kc3 : K c3 = 164) {bg : Nat} (hbg : bg ∈ L) (kbg : K bg = 165) {lp : Nat} (hlp : lp ∈ L) (klp : K lp = 166) {rp : Nat} (hrp : rp ∈ L) (krp : K rp = 167) {out : Nat} (hout : out ∈ L) (kout : K out = 168) {outD : Nat} (houtD : outD ∈ L) (koutD : K outD = 169) (hr0 : q_ir (q_r f0 x 0) so) (hr1 : q_ir (q_r f0 x 1) rd) (hr2 : q_ir (q_r f0 x 2) scr) (hr3 : q_ir (q_r f0 x 3) fc) (hr4 : q_ir (q_r f0 x 4) hist) (hr5 : q_ir (q_r f0 x 5) rep) (hr6 : q_ir (q_r f0 x 6) now) (hr7 : q_ir (q_r f0 x 7) dr) (hr8 : q_ir (q_r f0 x 8) sv) (hr9 : q_ir (q_r f0 fc 0) tr) (hr10 : q_ir (q_r f0 so 0) ba) (hr11 : q_ir (q_r f0 dr 0) nds) (hr12 : q_ir (q_r f0 hist 0) ka) (hr13 : q_ir (q_r f0 now 0) ndn) (hr14 : q_ir (q_r f0 sv 0) nsv) (hr15 : q_ir (q_r f0 scr 0) cmds) (hr16 : q_ir (q_r f0 mo 1) bu) (hr17 : q_ir (q_r f0 mo 13) sr) (hr18 : q_ir (q_r f0 mo 14) sd) (hr19 : q_ir (q_r f0 mo 15) as) (hr20 : q_ir (q_r f0 mo 16) aw) (hr21 : q_ir (q_r f0 mo 17) pa) (hr22 : q_ir (q_r f0 mo 18) nm) (hr23 : q_ir (q_r f0 mo 19) snm) (hr24 : q_ir (q_r f0 mo 20) anm) (hr25 : q_ir (q_r f0 mo 24) hp) (hr26 : q_ir (q_r f0 mo 25) dy) (hr27 : q_ir (q_r f0 mo 29) cs) (hr28 : q_ir (q_r f0 mo 30) c1) (hr29 : q_ir (q_r f0 mo 31) c2) (hr30 : q_ir (q_r f0 mo 32) c3) (hr31 : q_ir (q_r f0 mo 33) bg) (hr32 : q_ir (q_r f0 mo 34) lp) (hr33 : q_ir (q_r f0 mo 38) rp) (hij : tk_ij K L f0 nds) (hcj : tk_c3 K L f0 cmds) {f : Nat → va_E} {H : Heap} {locs : List Loc} {ls : Array Slot} {cells slots : Nat} {ii tn : Int} {nl9 ls9 : List (List Int)} {xc : Int} (hB : q_B g K L (fun q => s.heap.size ≤ q) [(0, 0, 6), (2, 1, 2), (3, 0, 4), (4, 0, 7), (5, 0, 9), (6, 1, 1), (7, 1, 4), (8, 1, 9), (9, 0, 2), (10, 3, 15), (11, 9, 9), (12, 0, 0), (12, 2, 12), (12, 21, 23), (12, 26, 28), (12, 35, 37), (12, 39, 40), (13, 3, 15), (14, 3, 15), (15, 3, 15), (16, 3, 15), (17, 0, 9), (18, 0, 9), (19, 0, 9), (20, 0, 9), (21, 0, 4), (22, 0, 4), (23, 0, 4), (24, 0, 4), (25, 0, 7), (26, 0, 7), (27, 0, 7), (28, 0, 7), (142, 0, 599), (143, 0, 599), (150, 0, 599), (151, 0, 657), (152, 0, 657), (153, 0, 657), (154, 0, 657), (155, 0, 3947), (156, 0, 9), (157, 0, 9), (158, 0, 9), (159, 0, 9), (160, 0, 9), (161, 0, 59), (162, 0, 58), (163, 0, 58), (164, 0, 58), (165, 0, 1), (166, 0, 1), (167, 0, 479), (168, 0, 0), (169, 0, 0)] f0 f s H locs) (hI : q_Iv6 K L f x so mo sr pa sd bu ba now ndn hist ka sv nsv nm snm tn nl9 ls9 xc) (hl : lv_has ls 10 [(5, .int (q_i ii)), (4, .ref outD), (3, .ref out), (2, .ref mo), (1, .ref x), (0, .ref b)]) (hi0 : 0 ≤ ii) (hi6 : ii + 6 ≤ N9) (hce : cells + 6 ≤ 10000) (hse : slots + 36 ≤ 100000) (kk : ∀ (f1 : Nat → va_E) (H1 : Heap) (locs1 : List Loc) (ls1 : Array Slot) (tn1 : Int) (nl1 ls1_ : List (List Int)) (xc1 : Int), q_B g K L (fun q => s.heap.size ≤ q) [(0, 0, 6), (2, 1, 2), (3, 0, 4), (4, 0, 7), (5, 0, 9), (6, 1, 1), (7, 1, 4), (8, 1, 9), (9, 0, 2), (10, 3, 15), (11, 9, 9), (12, 0, 0), (12, 2, 12), (12, 21, 23), (12, 26, 28), (12, 35, 37), (12, 39, 40), (13, 3, 15), (14, 3, 15), (15, 3, 15), (16, 3, 15), (17, 0, 9), (18, 0, 9), (19, 0, 9), (20, 0, 9), (21, 0, 4), (22, 0, 4), (23, 0, 4), (24, 0, 4), (25, 0, 7), (26, 0, 7), (27, 0, 7), (28, 0, 7), (142, 0, 599), (143, 0, 599), (150, 0, 599), (151, 0, 657), (152, 0, 657), (153, 0, 657), (154, 0, 657), (155, 0, 3947), (156, 0, 9), (157, 0, 9), (158, 0, 9), (159, 0, 9), (160, 0, 9), (161, 0, 59), (162, 0, 58), (163, 0, 58), (164, 0, 58), (165, 0, 1), (166, 0, 1), (167, 0, 479), (168, 0, 0), (169, 0, 0)] f0 f1 s H1 locs1 → q_Iv6 K L f1 x so mo sr pa sd bu ba now ndn hist ka sv nsv nm snm tn1 nl1 ls1_ xc1 → lv_has ls1 10 [(5, .int (q_i ii)), (4, .ref outD), (3, .ref out), (2, .ref mo), (1, .ref x), (0, .ref b)] → W p l e room_1 s m #[Value.ref b] below meth c H1 locs1 (cells + 6) (slots + 36) (lw_Z below #[Value.ref b] s) (F0 m 1493 ls1 [])) : W p l e room_1 s m #[Value.ref b] below meth c H locs (cells) (slots) (lw_Z below #[Value.ref b] s) (F0 m 296 ls []) := by
  have hXs := C0.2.2.2.2.2.2.1
  have hbl := C0.2.2.2.2.2.2.2.1
  have hbA := q_bA hbl
  obtain ⟨⟨hn0, hn1, ltn, utn⟩, hgr, hpk, hsd9, ht3, ht4, hbb, hsr0, hxc, hvn, hvk, hvs, hrn9, hrs9, hpc, hs22, he2, he3⟩ := hI
  have lxc : 0 ≤ xc := by omega
  have uxc : xc ≤ 10 := by have h7 := hvn.2.1.2; omega
  have hr0 : q_ir (q_r f x 0) so := Eq.trans (hB.2.2.r hx (by rw [kx]; rfl)) hr0
  have hr1 : q_ir (q_r f x 1) rd := Eq.trans (hB.2.2.r hx (by rw [kx]; rfl)) hr1
  have hr2 : q_ir (q_r f x 2) scr := Eq.trans (hB.2.2.r hx (by rw [kx]; rfl)) hr2
  have hr3 : q_ir (q_r f x 3) fc := Eq.trans (hB.2.2.r hx (by rw [kx]; rfl)) hr3
  have hr4 : q_ir (q_r f x 4) hist := Eq.trans (hB.2.2.r hx (by rw [kx]; rfl)) hr4
  have hr5 : q_ir (q_r f x 5) rep := Eq.trans (hB.2.2.r hx (by rw [kx]; rfl)) hr5
  have hr6 : q_ir (q_r f x 6) now := Eq.trans (hB.2.2.r hx (by rw [kx]; rfl)) hr6
  have hr7 : q_ir (q_r f x 7) dr := Eq.trans (hB.2.2.r hx (by rw [kx]; rfl)) hr7
  have hr8 : q_ir (q_r f x 8) sv := Eq.trans (hB.2.2.r hx (by rw [kx]; rfl)) hr8
  have hr9 : q_ir (q_r f fc 0) tr := Eq.trans (hB.2.2.r hfc (by rw [kfc]; rfl)) hr9
  have hr10 : q_ir (q_r f so 0) ba := Eq.trans (hB.2.2.r hso (by rw [kso]; rfl)) hr10
  have hr11 : q_ir (q_r f dr 0) nds := Eq.trans (hB.2.2.r hdr (by rw [kdr]; rfl)) hr11
  have hr12 : q_ir (q_r f hist 0) ka := Eq.trans (hB.2.2.r hhist (by rw [khist]; rfl)) hr12
  have hr13 : q_ir (q_r f now 0) ndn := Eq.trans (hB.2.2.r hnow (by rw [know]; rfl)) hr13
  have hr14 : q_ir (q_r f sv 0) nsv := Eq.trans (hB.2.2.r hsv (by rw [ksv]; rfl)) hr14
  have hr15 : q_ir (q_r f scr 0) cmds := Eq.trans (hB.2.2.r hscr (by rw [kscr]; rfl)) hr15
  have hr16 : q_ir (q_r f mo 1) bu := Eq.trans (hB.2.2.r hmo (by rw [kmo]; rfl)) hr16
  have hr17 : q_ir (q_r f mo 13) sr := Eq.trans (hB.2.2.r hmo (by rw [kmo]; rfl)) hr17
  have hr18 : q_ir (q_r f mo 14) sd := Eq.trans (hB.2.2.r hmo (by rw [kmo]; rfl)) hr18
  have hr19 : q_ir (q_r f mo 15) as := Eq.trans (hB.2.2.r hmo (by rw [kmo]; rfl)) hr19
  have hr20 : q_ir (q_r f mo 16) aw := Eq.trans (hB.2.2.r hmo (by rw [kmo]; rfl)) hr20
  have hr21 : q_ir (q_r f mo 17) pa := Eq.trans (hB.2.2.r hmo (by rw [kmo]; rfl)) hr21
  have hr22 : q_ir (q_r f mo 18) nm := Eq.trans (hB.2.2.r hmo (by rw [kmo]; rfl)) hr22
  have hr23 : q_ir (q_r f mo 19) snm := Eq.trans (hB.2.2.r hmo (by rw [kmo]; rfl)) hr23
  have hr24 : q_ir (q_r f mo 20) anm := Eq.trans (hB.2.2.r hmo (by rw [kmo]; rfl)) hr24
  have hr25 : q_ir (q_r f mo 24) hp := Eq.trans (hB.2.2.r hmo (by rw [kmo]; rfl)) hr25
  have hr26 : q_ir (q_r f mo 25) dy := Eq.trans (hB.2.2.r hmo (by rw [kmo]; rfl)) hr26
  have hr27 : q_ir (q_r f mo 29) cs := Eq.trans (hB.2.2.r hmo (by rw [kmo]; rfl)) hr27
  have hr28 : q_ir (q_r f mo 30) c1 := Eq.trans (hB.2.2.r hmo (by rw [kmo]; rfl)) hr28
  have hr29 : q_ir (q_r f mo 31) c2 := Eq.trans (hB.2.2.r hmo (by rw [kmo]; rfl)) hr29
  have hr30 : q_ir (q_r f mo 32) c3 := Eq.trans (hB.2.2.r hmo (by rw [kmo]; rfl)) hr30
  have hr31 : q_ir (q_r f mo 33) bg := Eq.trans (hB.2.2.r hmo (by rw [kmo]; rfl)) hr31
  have hr32 : q_ir (q_r f mo 34) lp := Eq.trans (hB.2.2.r hmo (by rw [kmo]; rfl)) hr32
  have hr33 : q_ir (q_r f mo 38) rp := Eq.trans (hB.2.2.r hmo (by rw [kmo]; rfl)) hr33
  have hij : tk_ij K L f nds := tk_ij_tr hij (fun i9 => hB.2.2.r hnds (by rw [knds]; rfl))
  have hcj : tk_c3 K L f cmds := tk_c3_tr hcj (fun i9 => hB.2.2.r hcmds (by rw [kcmds]; rfl))
  obtain ⟨x1, ex1⟩ : ∃ zz, q_is (q_z f sr 3) zz := ⟨_, q_isr _⟩
  obtain ⟨lx1, ux1⟩ : 0 ≤ x1 ∧ x1 ≤ 9999 := q_isb ex1 ⟨(hgr 3 (by decide)).1, ht3⟩
  obtain ⟨x2, ex2⟩ : ∃ zz, q_is (q_z f sr 4) zz := ⟨_, q_isr _⟩
  obtain ⟨lx2, ux2⟩ : 0 ≤ x2 ∧ x2 ≤ 60 := q_isb ex2 ⟨(hgr 4 (by decide)).1, ht4⟩
  refine q_ald_n cx dL_law_296 rfl (lv_at hl 4 rfl) ?_
  refine q_ald_n cx dL_law_297 rfl (lv_at hl 5 rfl) ?_
  refine lv_iload cx.1 cx.2.1 dL_law_298 (lv_at hl 0 rfl) ?_
  refine q_iconst cx dL_law_300 ?_
  refine q_iadd cx dL_law_301 ?_
  refine va_sld cx.1 cx.2.1 hXs hbl hbA hB.1.2.2.2 (q_in (by omega) (by omega) (by omega)) dL_law_302 ?_
  obtain ⟨a3, ra3, ea3⟩ : ∃ z : Int, q_R z ∧ xs (q_i (ii + 1)).toNatClampNeg = q_i z := ⟨_, q_rng _, (q_of _).symm⟩
  rw [ea3]
  refine q_ald_n cx dL_law_303 rfl (lv_at hl 2 rfl) ?_
  by_cases c4 : a3 ≤ (-1)
  · refine q_cWS (As := [.ref x, .int (q_i a3), .ref out]) (rest := []) cx hX hB (fun q h => hLA q h) (fun q h1 h2 => absurd h1 (Nat.not_le_of_lt h2)) hN (w_truncate_a l g ad hN hB.2.1 hfl x hx kx a3 (by omega) (by omega) out hout kout so hso kso rd hrd krd scr hscr kscr fc hfc kfc hist hhist khist rep hrep krep now hnow know dr hdr kdr sv hsv ksv tr htr ktr tn (by omega) (by omega) hn0 hr0 hr1 hr2 hr3 hr4 hr5 hr6 hr7 hr8 hr9) q_cL_124 q_dL_truncate ⟨by decide, by show cells + 1 ≤ 601024; omega, by show slots + 6 ≤ 7293034; omega⟩ rfl rfl hl.1 rfl (Nat.le_of_ble_eq_true rfl) dL_law_304 (fun v9 H locs f5 h7 hF hB => ?_)
    obtain ⟨y6, rfl, ry6, h7⟩ := h7
    refine W.eq (g2 := F0 m 307 ls [.int (q_i y6)]) rfl ?_
    obtain ⟨rfl, qy6⟩ := h7
    subst qy6
    refine lv_istore (lv' := [(6, .int (q_i 1)), (5, .int (q_i ii)), (4, .ref outD), (3, .ref out), (2, .ref mo), (1, .ref x), (0, .ref b)]) cx.1 cx.2.1 dL_law_307 hl (by decide) rfl (fun ls hl => ?_)
    refine q_ald_n cx dL_law_309 rfl (lv_at hl 4 rfl) ?_
    refine q_ald_n cx dL_law_310 rfl (lv_at hl 6 rfl) ?_
    refine lv_iload cx.1 cx.2.1 dL_law_311 (lv_at hl 1 rfl) ?_
    refine q_iconst cx dL_law_313 ?_
    refine q_iadd cx dL_law_314 ?_
    refine va_sld cx.1 cx.2.1 hXs hbl hbA hB.1.2.2.2 (q_in (by omega) (by omega) (by omega)) dL_law_315 ?_
    rw [ea3]
    refine q_cVi (As := [.int (q_i a3)]) (rest := []) cx hB (fun q h => hLA q h) hN hmo kmo (by decide) rfl (r_truncate_a l g hN hB.2.1 mo hmo kmo a3 (by omega) (by omega) tn (by omega) (by omega) hn1) q_cL_127 q_dX12_truncate ⟨by decide, by show cells + 1 ≤ 601024; omega, by show slots + 6 ≤ 7293034; omega⟩ rfl rfl hl.1 rfl (Nat.le_of_ble_eq_true rfl) dL_law_316 (fun y9 H locs f8 ry9 h10 hF hB => ?_)
    obtain ⟨qy9, z11, z12⟩ := h10
    have z13 : q_is (q_z f8 so 1) tn := Eq.trans (hF.z hso (by rw [kso]; rfl)) hn0
    have z14 : q_is (q_z f8 mo 2) tn := Eq.trans (hF.z hmo (by rw [kmo]; rfl)) hn1
    have z15 : q_is (q_z f8 sr 0) xc := Eq.trans (hF.z hsr (by rw [ksr]; rfl)) hsr0
    have z16 : q_is (q_z f8 sr 3) x1 := Eq.trans (hF.z hsr (by rw [ksr]; rfl)) ex1
    have z17 : q_is (q_z f8 sr 4) x2 := Eq.trans (hF.z hsr (by rw [ksr]; rfl)) ex2
    have z18 : q_ir (q_r f8 x 0) so := Eq.trans (hF.r hx (by rw [kx]; rfl)) hr0
    have z19 : q_ir (q_r f8 x 1) rd := Eq.trans (hF.r hx (by rw [kx]; rfl)) hr1
    have z20 : q_ir (q_r f8 x 2) scr := Eq.trans (hF.r hx (by rw [kx]; rfl)) hr2
    have z21 : q_ir (q_r f8 x 3) fc := Eq.trans (hF.r hx (by rw [kx]; rfl)) hr3
    have z22 : q_ir (q_r f8 x 4) hist := Eq.trans (hF.r hx (by rw [kx]; rfl)) hr4
    have z23 : q_ir (q_r f8 x 5) rep := Eq.trans (hF.r hx (by rw [kx]; rfl)) hr5
    have z24 : q_ir (q_r f8 x 6) now := Eq.trans (hF.r hx (by rw [kx]; rfl)) hr6
    have z25 : q_ir (q_r f8 x 7) dr := Eq.trans (hF.r hx (by rw [kx]; rfl)) hr7
    have z26 : q_ir (q_r f8 x 8) sv := Eq.trans (hF.r hx (by rw [kx]; rfl)) hr8
    have z27 : q_ir (q_r f8 fc 0) tr := Eq.trans (hF.r hfc (by rw [kfc]; rfl)) hr9
    have z28 : q_ir (q_r f8 so 0) ba := Eq.trans (hF.r hso (by rw [kso]; rfl)) hr10
    have z29 : q_ir (q_r f8 dr 0) nds := Eq.trans (hF.r hdr (by rw [kdr]; rfl)) hr11
    have z30 : q_ir (q_r f8 hist 0) ka := Eq.trans (hF.r hhist (by rw [khist]; rfl)) hr12
    have z31 : q_ir (q_r f8 now 0) ndn := Eq.trans (hF.r hnow (by rw [know]; rfl)) hr13
    have z32 : q_ir (q_r f8 sv 0) nsv := Eq.trans (hF.r hsv (by rw [ksv]; rfl)) hr14
    have z33 : q_ir (q_r f8 scr 0) cmds := Eq.trans (hF.r hscr (by rw [kscr]; rfl)) hr15
    have z34 : q_ir (q_r f8 mo 1) bu := Eq.trans (hF.r hmo (by rw [kmo]; rfl)) hr16
    have z35 : q_ir (q_r f8 mo 13) sr := Eq.trans (hF.r hmo (by rw [kmo]; rfl)) hr17
    have z36 : q_ir (q_r f8 mo 14) sd := Eq.trans (hF.r hmo (by rw [kmo]; rfl)) hr18
    have z37 : q_ir (q_r f8 mo 15) as := Eq.trans (hF.r hmo (by rw [kmo]; rfl)) hr19
    have z38 : q_ir (q_r f8 mo 16) aw := Eq.trans (hF.r hmo (by rw [kmo]; rfl)) hr20
    have z39 : q_ir (q_r f8 mo 17) pa := Eq.trans (hF.r hmo (by rw [kmo]; rfl)) hr21
    have z40 : q_ir (q_r f8 mo 18) nm := Eq.trans (hF.r hmo (by rw [kmo]; rfl)) hr22
    have z41 : q_ir (q_r f8 mo 19) snm := Eq.trans (hF.r hmo (by rw [kmo]; rfl)) hr23
    have z42 : q_ir (q_r f8 mo 20) anm := Eq.trans (hF.r hmo (by rw [kmo]; rfl)) hr24
    have z43 : q_ir (q_r f8 mo 24) hp := Eq.trans (hF.r hmo (by rw [kmo]; rfl)) hr25
    have z44 : q_ir (q_r f8 mo 25) dy := Eq.trans (hF.r hmo (by rw [kmo]; rfl)) hr26
    have z45 : q_ir (q_r f8 mo 29) cs := Eq.trans (hF.r hmo (by rw [kmo]; rfl)) hr27
    have z46 : q_ir (q_r f8 mo 30) c1 := Eq.trans (hF.r hmo (by rw [kmo]; rfl)) hr28
    have z47 : q_ir (q_r f8 mo 31) c2 := Eq.trans (hF.r hmo (by rw [kmo]; rfl)) hr29
    have z48 : q_ir (q_r f8 mo 32) c3 := Eq.trans (hF.r hmo (by rw [kmo]; rfl)) hr30
    have z49 : q_ir (q_r f8 mo 33) bg := Eq.trans (hF.r hmo (by rw [kmo]; rfl)) hr31
    have z50 : q_ir (q_r f8 mo 34) lp := Eq.trans (hF.r hmo (by rw [kmo]; rfl)) hr32
    have z51 : q_ir (q_r f8 mo 38) rp := Eq.trans (hF.r hmo (by rw [kmo]; rfl)) hr33
    have g52 : q_gr f8 sr := q_gr_fr hgr (fun i9 _ => hF.z hsr (by rw [ksr]; rfl))
    have g53 : q_z f8 x 9 = q_z f8 mo 22 := tk_s2_tr hs22 (hF.z hx (by rw [kx]; rfl)) (hF.z hmo (by rw [kmo]; rfl))
    have g54 : q_pk f8 mo pa := q_pk_tr hpk (hF.z hmo (by rw [kmo]; rfl)) (fun i9 => hF.z hpa (by rw [kpa]; rfl))
    have g55 : q_sv f8 mo sd := q_sv_tr hsd9 (hF.z hmo (by rw [kmo]; rfl)) (fun i9 => hF.z hsd (by rw [ksd]; rfl))
    have g56 : tk_bb f8 bu ba tn := tk_bb_tr hbb (fun i9 => hF.z hbu (by rw [kbu]; rfl)) (fun i9 => hF.z hba (by rw [kba]; rfl))
    have g57 : tk_ij K L f8 nds := tk_ij_tr hij (fun i9 => hF.r hnds (by rw [knds]; rfl))
    have g58 : tk_c3 K L f8 cmds := tk_c3_tr hcj (fun i9 => hF.r hcmds (by rw [kcmds]; rfl))
    have g59 : q_z f8 so 2 = q_z f8 mo 10 := tk_e2_tr he2 (hF.z hso (by rw [kso]; rfl)) (hF.z hmo (by rw [kmo]; rfl))
    have g60 : q_z f8 so 3 = q_z f8 mo 11 := tk_e2_tr he3 (hF.z hso (by rw [kso]; rfl)) (hF.z hmo (by rw [kmo]; rfl))
    have g61 : tk_vn K L 5 f8 now ndn nl9 := tk_vn_tr hvn (hF.z hnow (by rw [know]; rfl)) (fun a9 h9 k9 => hF.j h9 (by rw [k9]; rfl)) (fun i9 => hF.r hndn (by rw [kndn]; rfl))
    have g62 : tk_vk K L f8 hist ka now ndn := tk_vk_tr hvk (hF.z hhist (by rw [khist]; rfl)) (hF.z hhist (by rw [khist]; rfl)) (hF.z hnow (by rw [know]; rfl)) (fun a9 h9 k9 => hF.j h9 (by rw [k9]; rfl)) (fun i9 => hF.r hndn (by rw [kndn]; rfl)) (fun a9 h9 k9 => hF.z h9 (by rw [k9]; rfl)) (fun a9 h9 k9 => hF.j h9 (by rw [k9]; rfl)) (fun i9 => hF.r hka (by rw [kka]; rfl)) (fun a9 h9 k9 => hF.r h9 (by rw [k9]; rfl)) (fun a9 h9 k9 i9 => hF.r h9 (by rw [k9]; rfl))
    have g63 : tk_vs K L f8 x sv nsv ls9 := tk_vs_tr hvs (hF.z hx (by rw [kx]; rfl)) (hF.z hsv (by rw [ksv]; rfl)) (fun a9 h9 k9 => hF.j h9 (by rw [k9]; rfl)) (fun i9 => hF.r hnsv (by rw [knsv]; rfl))
    have g64 : tk_nq f8 nm nl9 := tk_nq_tr hrn9 (fun i9 => hF.j hnm (by rw [knm]; rfl))
    have g65 : tk_rs f8 mo sd snm ls9 := tk_rs_tr hrs9 (hF.z hmo (by rw [kmo]; rfl)) (fun i9 h9 k9 => hF.z hsd (by rw [ksd]; exact q_inWr rfl h9 k9)) (fun i9 => hF.j hsnm (by rw [ksnm]; rfl))
    have g66 : q_pc f8 mo pa xc := q_pc_tr hpc (hF.z hmo (by rw [kmo]; rfl)) (fun i9 => hF.z hpa (by rw [kpa]; rfl))
    subst qy9
    refine lv_istore (lv' := [(7, .int (q_i 0)), (6, .int (q_i 1)), (5, .int (q_i ii)), (4, .ref outD), (3, .ref out), (2, .ref mo), (1, .ref x), (0, .ref b)]) cx.1 cx.2.1 dL_law_319 hl (by decide) rfl (fun ls hl => ?_)
    refine lv_goto (tgt := 1493) cx.1 cx.2.1 dL_law_321 (by decide) ?_
    refine W.widen (k := cells + 6) (n := slots + 36) (by omega) (by omega) ?_
    exact kk f8 H locs ls tn nl9 ls9 xc hB ⟨⟨z13, (Eq.trans z11 (by omega)), by omega, by omega⟩, g52, g54, g55, q_isu z16 (by omega), q_isu z17 (by omega), tk_bb_le g56 (by omega), z15, by omega, g61, g62, g63, g64, g65, g66, g53, g59, g60⟩ (lv_sub hl [2, 3, 4, 5, 6, 7] rfl)
  · by_cases c67 : a3 ≤ 600
    · by_cases c68 : (1 * tn + -1 * a3 + 0) ≤ (-1)
      · refine q_cWS (As := [.ref x, .int (q_i a3), .ref out]) (rest := []) cx hX hB (fun q h => hLA q h) (fun q h1 h2 => absurd h1 (Nat.not_le_of_lt h2)) hN (w_truncate_c l g ad hN hB.2.1 hfl x hx kx a3 (by omega) (by omega) out hout kout so hso kso rd hrd krd scr hscr kscr fc hfc kfc hist hhist khist rep hrep krep now hnow know dr hdr kdr sv hsv ksv tr htr ktr tn (by omega) (by omega) hn0 hr0 hr1 hr2 hr3 hr4 hr5 hr6 hr7 hr8 hr9 (by omega)) q_cL_124 q_dL_truncate ⟨by decide, by show cells + 1 ≤ 601024; omega, by show slots + 6 ≤ 7293034; omega⟩ rfl rfl hl.1 rfl (Nat.le_of_ble_eq_true rfl) dL_law_304 (fun v9 H locs f69 h71 hF hB => ?_)
        obtain ⟨y70, rfl, ry70, h71⟩ := h71
        refine W.eq (g2 := F0 m 307 ls [.int (q_i y70)]) rfl ?_
        obtain ⟨rfl, qy70⟩ := h71
        subst qy70
        refine lv_istore (lv' := [(6, .int (q_i 1)), (5, .int (q_i ii)), (4, .ref outD), (3, .ref out), (2, .ref mo), (1, .ref x), (0, .ref b)]) cx.1 cx.2.1 dL_law_307 hl (by decide) rfl (fun ls hl => ?_)
        refine q_ald_n cx dL_law_309 rfl (lv_at hl 4 rfl) ?_
        refine q_ald_n cx dL_law_310 rfl (lv_at hl 6 rfl) ?_
        refine lv_iload cx.1 cx.2.1 dL_law_311 (lv_at hl 1 rfl) ?_
        refine q_iconst cx dL_law_313 ?_
        refine q_iadd cx dL_law_314 ?_
        refine va_sld cx.1 cx.2.1 hXs hbl hbA hB.1.2.2.2 (q_in (by omega) (by omega) (by omega)) dL_law_315 ?_
        rw [ea3]
        refine q_cVi (As := [.int (q_i a3)]) (rest := []) cx hB (fun q h => hLA q h) hN hmo kmo (by decide) rfl (r_truncate_c l g hN hB.2.1 mo hmo kmo a3 (by omega) (by omega) tn (by omega) (by omega) hn1 (by omega)) q_cL_127 q_dX12_truncate ⟨by decide, by show cells + 1 ≤ 601024; omega, by show slots + 6 ≤ 7293034; omega⟩ rfl rfl hl.1 rfl (Nat.le_of_ble_eq_true rfl) dL_law_316 (fun y73 H locs f72 ry73 h74 hF hB => ?_)
        obtain ⟨qy73, z75, z76⟩ := h74
        have z77 : q_is (q_z f72 so 1) tn := Eq.trans (hF.z hso (by rw [kso]; rfl)) hn0
        have z78 : q_is (q_z f72 mo 2) tn := Eq.trans (hF.z hmo (by rw [kmo]; rfl)) hn1
        have z79 : q_is (q_z f72 sr 0) xc := Eq.trans (hF.z hsr (by rw [ksr]; rfl)) hsr0
        have z80 : q_is (q_z f72 sr 3) x1 := Eq.trans (hF.z hsr (by rw [ksr]; rfl)) ex1
        have z81 : q_is (q_z f72 sr 4) x2 := Eq.trans (hF.z hsr (by rw [ksr]; rfl)) ex2
        have z82 : q_ir (q_r f72 x 0) so := Eq.trans (hF.r hx (by rw [kx]; rfl)) hr0
        have z83 : q_ir (q_r f72 x 1) rd := Eq.trans (hF.r hx (by rw [kx]; rfl)) hr1
        have z84 : q_ir (q_r f72 x 2) scr := Eq.trans (hF.r hx (by rw [kx]; rfl)) hr2
        have z85 : q_ir (q_r f72 x 3) fc := Eq.trans (hF.r hx (by rw [kx]; rfl)) hr3
        have z86 : q_ir (q_r f72 x 4) hist := Eq.trans (hF.r hx (by rw [kx]; rfl)) hr4
        have z87 : q_ir (q_r f72 x 5) rep := Eq.trans (hF.r hx (by rw [kx]; rfl)) hr5
        have z88 : q_ir (q_r f72 x 6) now := Eq.trans (hF.r hx (by rw [kx]; rfl)) hr6
        have z89 : q_ir (q_r f72 x 7) dr := Eq.trans (hF.r hx (by rw [kx]; rfl)) hr7
        have z90 : q_ir (q_r f72 x 8) sv := Eq.trans (hF.r hx (by rw [kx]; rfl)) hr8
        have z91 : q_ir (q_r f72 fc 0) tr := Eq.trans (hF.r hfc (by rw [kfc]; rfl)) hr9
        have z92 : q_ir (q_r f72 so 0) ba := Eq.trans (hF.r hso (by rw [kso]; rfl)) hr10
        have z93 : q_ir (q_r f72 dr 0) nds := Eq.trans (hF.r hdr (by rw [kdr]; rfl)) hr11
        have z94 : q_ir (q_r f72 hist 0) ka := Eq.trans (hF.r hhist (by rw [khist]; rfl)) hr12
        have z95 : q_ir (q_r f72 now 0) ndn := Eq.trans (hF.r hnow (by rw [know]; rfl)) hr13
        have z96 : q_ir (q_r f72 sv 0) nsv := Eq.trans (hF.r hsv (by rw [ksv]; rfl)) hr14
        have z97 : q_ir (q_r f72 scr 0) cmds := Eq.trans (hF.r hscr (by rw [kscr]; rfl)) hr15
        have z98 : q_ir (q_r f72 mo 1) bu := Eq.trans (hF.r hmo (by rw [kmo]; rfl)) hr16
        have z99 : q_ir (q_r f72 mo 13) sr := Eq.trans (hF.r hmo (by rw [kmo]; rfl)) hr17
        have z100 : q_ir (q_r f72 mo 14) sd := Eq.trans (hF.r hmo (by rw [kmo]; rfl)) hr18
        have z101 : q_ir (q_r f72 mo 15) as := Eq.trans (hF.r hmo (by rw [kmo]; rfl)) hr19
        have z102 : q_ir (q_r f72 mo 16) aw := Eq.trans (hF.r hmo (by rw [kmo]; rfl)) hr20
        have z103 : q_ir (q_r f72 mo 17) pa := Eq.trans (hF.r hmo (by rw [kmo]; rfl)) hr21
        have z104 : q_ir (q_r f72 mo 18) nm := Eq.trans (hF.r hmo (by rw [kmo]; rfl)) hr22
        have z105 : q_ir (q_r f72 mo 19) snm := Eq.trans (hF.r hmo (by rw [kmo]; rfl)) hr23
        have z106 : q_ir (q_r f72 mo 20) anm := Eq.trans (hF.r hmo (by rw [kmo]; rfl)) hr24
        have z107 : q_ir (q_r f72 mo 24) hp := Eq.trans (hF.r hmo (by rw [kmo]; rfl)) hr25
        have z108 : q_ir (q_r f72 mo 25) dy := Eq.trans (hF.r hmo (by rw [kmo]; rfl)) hr26
        have z109 : q_ir (q_r f72 mo 29) cs := Eq.trans (hF.r hmo (by rw [kmo]; rfl)) hr27
        have z110 : q_ir (q_r f72 mo 30) c1 := Eq.trans (hF.r hmo (by rw [kmo]; rfl)) hr28
        have z111 : q_ir (q_r f72 mo 31) c2 := Eq.trans (hF.r hmo (by rw [kmo]; rfl)) hr29
        have z112 : q_ir (q_r f72 mo 32) c3 := Eq.trans (hF.r hmo (by rw [kmo]; rfl)) hr30
        have z113 : q_ir (q_r f72 mo 33) bg := Eq.trans (hF.r hmo (by rw [kmo]; rfl)) hr31
        have z114 : q_ir (q_r f72 mo 34) lp := Eq.trans (hF.r hmo (by rw [kmo]; rfl)) hr32
        have z115 : q_ir (q_r f72 mo 38) rp := Eq.trans (hF.r hmo (by rw [kmo]; rfl)) hr33
        have g116 : q_gr f72 sr := q_gr_fr hgr (fun i9 _ => hF.z hsr (by rw [ksr]; rfl))
        have g117 : q_z f72 x 9 = q_z f72 mo 22 := tk_s2_tr hs22 (hF.z hx (by rw [kx]; rfl)) (hF.z hmo (by rw [kmo]; rfl))
        have g118 : q_pk f72 mo pa := q_pk_tr hpk (hF.z hmo (by rw [kmo]; rfl)) (fun i9 => hF.z hpa (by rw [kpa]; rfl))
        have g119 : q_sv f72 mo sd := q_sv_tr hsd9 (hF.z hmo (by rw [kmo]; rfl)) (fun i9 => hF.z hsd (by rw [ksd]; rfl))
        have g120 : tk_bb f72 bu ba tn := tk_bb_tr hbb (fun i9 => hF.z hbu (by rw [kbu]; rfl)) (fun i9 => hF.z hba (by rw [kba]; rfl))
        have g121 : tk_ij K L f72 nds := tk_ij_tr hij (fun i9 => hF.r hnds (by rw [knds]; rfl))
        have g122 : tk_c3 K L f72 cmds := tk_c3_tr hcj (fun i9 => hF.r hcmds (by rw [kcmds]; rfl))
        have g123 : q_z f72 so 2 = q_z f72 mo 10 := tk_e2_tr he2 (hF.z hso (by rw [kso]; rfl)) (hF.z hmo (by rw [kmo]; rfl))
        have g124 : q_z f72 so 3 = q_z f72 mo 11 := tk_e2_tr he3 (hF.z hso (by rw [kso]; rfl)) (hF.z hmo (by rw [kmo]; rfl))
        have g125 : tk_vn K L 5 f72 now ndn nl9 := tk_vn_tr hvn (hF.z hnow (by rw [know]; rfl)) (fun a9 h9 k9 => hF.j h9 (by rw [k9]; rfl)) (fun i9 => hF.r hndn (by rw [kndn]; rfl))
        have g126 : tk_vk K L f72 hist ka now ndn := tk_vk_tr hvk (hF.z hhist (by rw [khist]; rfl)) (hF.z hhist (by rw [khist]; rfl)) (hF.z hnow (by rw [know]; rfl)) (fun a9 h9 k9 => hF.j h9 (by rw [k9]; rfl)) (fun i9 => hF.r hndn (by rw [kndn]; rfl)) (fun a9 h9 k9 => hF.z h9 (by rw [k9]; rfl)) (fun a9 h9 k9 => hF.j h9 (by rw [k9]; rfl)) (fun i9 => hF.r hka (by rw [kka]; rfl)) (fun a9 h9 k9 => hF.r h9 (by rw [k9]; rfl)) (fun a9 h9 k9 i9 => hF.r h9 (by rw [k9]; rfl))
        have g127 : tk_vs K L f72 x sv nsv ls9 := tk_vs_tr hvs (hF.z hx (by rw [kx]; rfl)) (hF.z hsv (by rw [ksv]; rfl)) (fun a9 h9 k9 => hF.j h9 (by rw [k9]; rfl)) (fun i9 => hF.r hnsv (by rw [knsv]; rfl))
        have g128 : tk_nq f72 nm nl9 := tk_nq_tr hrn9 (fun i9 => hF.j hnm (by rw [knm]; rfl))
        have g129 : tk_rs f72 mo sd snm ls9 := tk_rs_tr hrs9 (hF.z hmo (by rw [kmo]; rfl)) (fun i9 h9 k9 => hF.z hsd (by rw [ksd]; exact q_inWr rfl h9 k9)) (fun i9 => hF.j hsnm (by rw [ksnm]; rfl))
        have g130 : q_pc f72 mo pa xc := q_pc_tr hpc (hF.z hmo (by rw [kmo]; rfl)) (fun i9 => hF.z hpa (by rw [kpa]; rfl))
        subst qy73
        refine lv_istore (lv' := [(7, .int (q_i 0)), (6, .int (q_i 1)), (5, .int (q_i ii)), (4, .ref outD), (3, .ref out), (2, .ref mo), (1, .ref x), (0, .ref b)]) cx.1 cx.2.1 dL_law_319 hl (by decide) rfl (fun ls hl => ?_)
        refine lv_goto (tgt := 1493) cx.1 cx.2.1 dL_law_321 (by decide) ?_
        refine W.widen (k := cells + 6) (n := slots + 36) (by omega) (by omega) ?_
        exact kk f72 H locs ls tn nl9 ls9 xc hB ⟨⟨z77, (Eq.trans z75 (by omega)), by omega, by omega⟩, g116, g118, g119, q_isu z80 (by omega), q_isu z81 (by omega), tk_bb_le g120 (by omega), z79, by omega, g125, g126, g127, g128, g129, g130, g117, g123, g124⟩ (lv_sub hl [2, 3, 4, 5, 6, 7] rfl)
      · refine q_cWS (As := [.ref x, .int (q_i a3), .ref out]) (rest := []) cx hX hB (fun q h => hLA q h) (fun q h1 h2 => absurd h1 (Nat.not_le_of_lt h2)) hN (w_truncate_b l g ad hN hB.2.1 hfl x hx kx a3 (by omega) (by omega) out hout kout so hso kso rd hrd krd scr hscr kscr fc hfc kfc hist hhist khist rep hrep krep now hnow know dr hdr kdr sv hsv ksv tr htr ktr tn (by omega) (by omega) hn0 hr0 hr1 hr2 hr3 hr4 hr5 hr6 hr7 hr8 hr9 (by omega)) q_cL_124 q_dL_truncate ⟨by decide, by show cells + 0 ≤ 601024; omega, by show slots + 0 ≤ 7293034; omega⟩ rfl rfl hl.1 rfl (Nat.le_of_ble_eq_true rfl) dL_law_304 (fun v9 H locs f131 h133 hF hB => ?_)
        obtain ⟨y132, rfl, ry132, h133⟩ := h133
        refine W.eq (g2 := F0 m 307 ls [.int (q_i y132)]) rfl ?_
        obtain ⟨qy132, z134, z135⟩ := h133
        have z136 : q_is (q_z f131 mo 2) tn := Eq.trans (hF.z hmo (by rw [kmo]; rfl)) hn1
        have z137 : q_is (q_z f131 sr 0) xc := Eq.trans (hF.z hsr (by rw [ksr]; rfl)) hsr0
        have z138 : q_is (q_z f131 sr 3) x1 := Eq.trans (hF.z hsr (by rw [ksr]; rfl)) ex1
        have z139 : q_is (q_z f131 sr 4) x2 := Eq.trans (hF.z hsr (by rw [ksr]; rfl)) ex2
        have z140 : q_ir (q_r f131 x 0) so := Eq.trans (hF.r hx (by rw [kx]; rfl)) hr0
        have z141 : q_ir (q_r f131 x 1) rd := Eq.trans (hF.r hx (by rw [kx]; rfl)) hr1
        have z142 : q_ir (q_r f131 x 2) scr := Eq.trans (hF.r hx (by rw [kx]; rfl)) hr2
        have z143 : q_ir (q_r f131 x 3) fc := Eq.trans (hF.r hx (by rw [kx]; rfl)) hr3
        have z144 : q_ir (q_r f131 x 4) hist := Eq.trans (hF.r hx (by rw [kx]; rfl)) hr4
        have z145 : q_ir (q_r f131 x 5) rep := Eq.trans (hF.r hx (by rw [kx]; rfl)) hr5
        have z146 : q_ir (q_r f131 x 6) now := Eq.trans (hF.r hx (by rw [kx]; rfl)) hr6
        have z147 : q_ir (q_r f131 x 7) dr := Eq.trans (hF.r hx (by rw [kx]; rfl)) hr7
        have z148 : q_ir (q_r f131 x 8) sv := Eq.trans (hF.r hx (by rw [kx]; rfl)) hr8
        have z149 : q_ir (q_r f131 fc 0) tr := Eq.trans (hF.r hfc (by rw [kfc]; rfl)) hr9
        have z150 : q_ir (q_r f131 so 0) ba := Eq.trans (hF.r hso (by rw [kso]; rfl)) hr10
        have z151 : q_ir (q_r f131 dr 0) nds := Eq.trans (hF.r hdr (by rw [kdr]; rfl)) hr11
        have z152 : q_ir (q_r f131 hist 0) ka := Eq.trans (hF.r hhist (by rw [khist]; rfl)) hr12
        have z153 : q_ir (q_r f131 now 0) ndn := Eq.trans (hF.r hnow (by rw [know]; rfl)) hr13
        have z154 : q_ir (q_r f131 sv 0) nsv := Eq.trans (hF.r hsv (by rw [ksv]; rfl)) hr14
        have z155 : q_ir (q_r f131 scr 0) cmds := Eq.trans (hF.r hscr (by rw [kscr]; rfl)) hr15
        have z156 : q_ir (q_r f131 mo 1) bu := Eq.trans (hF.r hmo (by rw [kmo]; rfl)) hr16
        have z157 : q_ir (q_r f131 mo 13) sr := Eq.trans (hF.r hmo (by rw [kmo]; rfl)) hr17
        have z158 : q_ir (q_r f131 mo 14) sd := Eq.trans (hF.r hmo (by rw [kmo]; rfl)) hr18
        have z159 : q_ir (q_r f131 mo 15) as := Eq.trans (hF.r hmo (by rw [kmo]; rfl)) hr19
        have z160 : q_ir (q_r f131 mo 16) aw := Eq.trans (hF.r hmo (by rw [kmo]; rfl)) hr20
        have z161 : q_ir (q_r f131 mo 17) pa := Eq.trans (hF.r hmo (by rw [kmo]; rfl)) hr21
        have z162 : q_ir (q_r f131 mo 18) nm := Eq.trans (hF.r hmo (by rw [kmo]; rfl)) hr22
        have z163 : q_ir (q_r f131 mo 19) snm := Eq.trans (hF.r hmo (by rw [kmo]; rfl)) hr23
        have z164 : q_ir (q_r f131 mo 20) anm := Eq.trans (hF.r hmo (by rw [kmo]; rfl)) hr24
        have z165 : q_ir (q_r f131 mo 24) hp := Eq.trans (hF.r hmo (by rw [kmo]; rfl)) hr25
        have z166 : q_ir (q_r f131 mo 25) dy := Eq.trans (hF.r hmo (by rw [kmo]; rfl)) hr26
        have z167 : q_ir (q_r f131 mo 29) cs := Eq.trans (hF.r hmo (by rw [kmo]; rfl)) hr27
        have z168 : q_ir (q_r f131 mo 30) c1 := Eq.trans (hF.r hmo (by rw [kmo]; rfl)) hr28
        have z169 : q_ir (q_r f131 mo 31) c2 := Eq.trans (hF.r hmo (by rw [kmo]; rfl)) hr29
        have z170 : q_ir (q_r f131 mo 32) c3 := Eq.trans (hF.r hmo (by rw [kmo]; rfl)) hr30
        have z171 : q_ir (q_r f131 mo 33) bg := Eq.trans (hF.r hmo (by rw [kmo]; rfl)) hr31
        have z172 : q_ir (q_r f131 mo 34) lp := Eq.trans (hF.r hmo (by rw [kmo]; rfl)) hr32
        have z173 : q_ir (q_r f131 mo 38) rp := Eq.trans (hF.r hmo (by rw [kmo]; rfl)) hr33
        have g174 : q_gr f131 sr := q_gr_fr hgr (fun i9 _ => hF.z hsr (by rw [ksr]; rfl))
        have g175 : q_z f131 x 9 = q_z f131 mo 22 := tk_s2_tr hs22 (hF.z hx (by rw [kx]; rfl)) (hF.z hmo (by rw [kmo]; rfl))
        have g176 : q_pk f131 mo pa := q_pk_tr hpk (hF.z hmo (by rw [kmo]; rfl)) (fun i9 => hF.z hpa (by rw [kpa]; rfl))
        have g177 : q_sv f131 mo sd := q_sv_tr hsd9 (hF.z hmo (by rw [kmo]; rfl)) (fun i9 => hF.z hsd (by rw [ksd]; rfl))
        have g178 : tk_bb f131 bu ba tn := tk_bb_tr hbb (fun i9 => hF.z hbu (by rw [kbu]; rfl)) (fun i9 => hF.z hba (by rw [kba]; rfl))
        have g179 : tk_ij K L f131 nds := tk_ij_tr hij (fun i9 => hF.r hnds (by rw [knds]; rfl))
        have g180 : tk_c3 K L f131 cmds := tk_c3_tr hcj (fun i9 => hF.r hcmds (by rw [kcmds]; rfl))
        have g181 : q_z f131 so 2 = q_z f131 mo 10 := tk_e2_tr he2 (hF.z hso (by rw [kso]; rfl)) (hF.z hmo (by rw [kmo]; rfl))
        have g182 : q_z f131 so 3 = q_z f131 mo 11 := tk_e2_tr he3 (hF.z hso (by rw [kso]; rfl)) (hF.z hmo (by rw [kmo]; rfl))
        have g183 : tk_vn K L 5 f131 now ndn nl9 := tk_vn_tr hvn (hF.z hnow (by rw [know]; rfl)) (fun a9 h9 k9 => hF.j h9 (by rw [k9]; rfl)) (fun i9 => hF.r hndn (by rw [kndn]; rfl))
        have g184 : tk_vk K L f131 hist ka now ndn := tk_vk_tr hvk (hF.z hhist (by rw [khist]; rfl)) (hF.z hhist (by rw [khist]; rfl)) (hF.z hnow (by rw [know]; rfl)) (fun a9 h9 k9 => hF.j h9 (by rw [k9]; rfl)) (fun i9 => hF.r hndn (by rw [kndn]; rfl)) (fun a9 h9 k9 => hF.z h9 (by rw [k9]; rfl)) (fun a9 h9 k9 => hF.j h9 (by rw [k9]; rfl)) (fun i9 => hF.r hka (by rw [kka]; rfl)) (fun a9 h9 k9 => hF.r h9 (by rw [k9]; rfl)) (fun a9 h9 k9 i9 => hF.r h9 (by rw [k9]; rfl))
        have g185 : tk_vs K L f131 x sv nsv ls9 := tk_vs_tr hvs (hF.z hx (by rw [kx]; rfl)) (hF.z hsv (by rw [ksv]; rfl)) (fun a9 h9 k9 => hF.j h9 (by rw [k9]; rfl)) (fun i9 => hF.r hnsv (by rw [knsv]; rfl))
        have g186 : tk_nq f131 nm nl9 := tk_nq_tr hrn9 (fun i9 => hF.j hnm (by rw [knm]; rfl))
        have g187 : tk_rs f131 mo sd snm ls9 := tk_rs_tr hrs9 (hF.z hmo (by rw [kmo]; rfl)) (fun i9 h9 k9 => hF.z hsd (by rw [ksd]; exact q_inWr rfl h9 k9)) (fun i9 => hF.j hsnm (by rw [ksnm]; rfl))
        have g188 : q_pc f131 mo pa xc := q_pc_tr hpc (hF.z hmo (by rw [kmo]; rfl)) (fun i9 => hF.z hpa (by rw [kpa]; rfl))
        subst qy132
        refine lv_istore (lv' := [(6, .int (q_i 0)), (5, .int (q_i ii)), (4, .ref outD), (3, .ref out), (2, .ref mo), (1, .ref x), (0, .ref b)]) cx.1 cx.2.1 dL_law_307 hl (by decide) rfl (fun ls hl => ?_)
        refine q_ald_n cx dL_law_309 rfl (lv_at hl 4 rfl) ?_
        refine q_ald_n cx dL_law_310 rfl (lv_at hl 6 rfl) ?_
        refine lv_iload cx.1 cx.2.1 dL_law_311 (lv_at hl 1 rfl) ?_
        refine q_iconst cx dL_law_313 ?_
        refine q_iadd cx dL_law_314 ?_
        refine va_sld cx.1 cx.2.1 hXs hbl hbA hB.1.2.2.2 (q_in (by omega) (by omega) (by omega)) dL_law_315 ?_
        rw [ea3]
        refine q_cVi (As := [.int (q_i a3)]) (rest := []) cx hB (fun q h => hLA q h) hN hmo kmo (by decide) rfl (r_truncate_b l g hN hB.2.1 mo hmo kmo a3 (by omega) (by omega) tn (by omega) (by omega) z136 (by omega)) q_cL_127 q_dX12_truncate ⟨by decide, by show cells + 0 ≤ 601024; omega, by show slots + 0 ≤ 7293034; omega⟩ rfl rfl hl.1 rfl (Nat.le_of_ble_eq_true rfl) dL_law_316 (fun y190 H locs f189 ry190 h191 hF hB => ?_)
        obtain ⟨qy190, z192, z193⟩ := h191
        have z194 : q_j f189 out 0 = (q_l a3) := (hF.j hout (by rw [kout]; rfl)).trans z134
        have z195 : q_is (q_z f189 sr 0) xc := Eq.trans (hF.z hsr (by rw [ksr]; rfl)) z137
        have z196 : q_is (q_z f189 sr 3) x1 := Eq.trans (hF.z hsr (by rw [ksr]; rfl)) z138
        have z197 : q_is (q_z f189 sr 4) x2 := Eq.trans (hF.z hsr (by rw [ksr]; rfl)) z139
        have z198 : q_is (q_z f189 so 1) a3 := Eq.trans (hF.z hso (by rw [kso]; rfl)) z135
        have z199 : q_ir (q_r f189 x 0) so := Eq.trans (hF.r hx (by rw [kx]; rfl)) z140
        have z200 : q_ir (q_r f189 x 1) rd := Eq.trans (hF.r hx (by rw [kx]; rfl)) z141
        have z201 : q_ir (q_r f189 x 2) scr := Eq.trans (hF.r hx (by rw [kx]; rfl)) z142
        have z202 : q_ir (q_r f189 x 3) fc := Eq.trans (hF.r hx (by rw [kx]; rfl)) z143
        have z203 : q_ir (q_r f189 x 4) hist := Eq.trans (hF.r hx (by rw [kx]; rfl)) z144
        have z204 : q_ir (q_r f189 x 5) rep := Eq.trans (hF.r hx (by rw [kx]; rfl)) z145
        have z205 : q_ir (q_r f189 x 6) now := Eq.trans (hF.r hx (by rw [kx]; rfl)) z146
        have z206 : q_ir (q_r f189 x 7) dr := Eq.trans (hF.r hx (by rw [kx]; rfl)) z147
        have z207 : q_ir (q_r f189 x 8) sv := Eq.trans (hF.r hx (by rw [kx]; rfl)) z148
        have z208 : q_ir (q_r f189 fc 0) tr := Eq.trans (hF.r hfc (by rw [kfc]; rfl)) z149
        have z209 : q_ir (q_r f189 so 0) ba := Eq.trans (hF.r hso (by rw [kso]; rfl)) z150
        have z210 : q_ir (q_r f189 dr 0) nds := Eq.trans (hF.r hdr (by rw [kdr]; rfl)) z151
        have z211 : q_ir (q_r f189 hist 0) ka := Eq.trans (hF.r hhist (by rw [khist]; rfl)) z152
        have z212 : q_ir (q_r f189 now 0) ndn := Eq.trans (hF.r hnow (by rw [know]; rfl)) z153
        have z213 : q_ir (q_r f189 sv 0) nsv := Eq.trans (hF.r hsv (by rw [ksv]; rfl)) z154
        have z214 : q_ir (q_r f189 scr 0) cmds := Eq.trans (hF.r hscr (by rw [kscr]; rfl)) z155
        have z215 : q_ir (q_r f189 mo 1) bu := Eq.trans (hF.r hmo (by rw [kmo]; rfl)) z156
        have z216 : q_ir (q_r f189 mo 13) sr := Eq.trans (hF.r hmo (by rw [kmo]; rfl)) z157
        have z217 : q_ir (q_r f189 mo 14) sd := Eq.trans (hF.r hmo (by rw [kmo]; rfl)) z158
        have z218 : q_ir (q_r f189 mo 15) as := Eq.trans (hF.r hmo (by rw [kmo]; rfl)) z159
        have z219 : q_ir (q_r f189 mo 16) aw := Eq.trans (hF.r hmo (by rw [kmo]; rfl)) z160
        have z220 : q_ir (q_r f189 mo 17) pa := Eq.trans (hF.r hmo (by rw [kmo]; rfl)) z161
        have z221 : q_ir (q_r f189 mo 18) nm := Eq.trans (hF.r hmo (by rw [kmo]; rfl)) z162
        have z222 : q_ir (q_r f189 mo 19) snm := Eq.trans (hF.r hmo (by rw [kmo]; rfl)) z163
        have z223 : q_ir (q_r f189 mo 20) anm := Eq.trans (hF.r hmo (by rw [kmo]; rfl)) z164
        have z224 : q_ir (q_r f189 mo 24) hp := Eq.trans (hF.r hmo (by rw [kmo]; rfl)) z165
        have z225 : q_ir (q_r f189 mo 25) dy := Eq.trans (hF.r hmo (by rw [kmo]; rfl)) z166
        have z226 : q_ir (q_r f189 mo 29) cs := Eq.trans (hF.r hmo (by rw [kmo]; rfl)) z167
        have z227 : q_ir (q_r f189 mo 30) c1 := Eq.trans (hF.r hmo (by rw [kmo]; rfl)) z168
        have z228 : q_ir (q_r f189 mo 31) c2 := Eq.trans (hF.r hmo (by rw [kmo]; rfl)) z169
        have z229 : q_ir (q_r f189 mo 32) c3 := Eq.trans (hF.r hmo (by rw [kmo]; rfl)) z170
        have z230 : q_ir (q_r f189 mo 33) bg := Eq.trans (hF.r hmo (by rw [kmo]; rfl)) z171
        have z231 : q_ir (q_r f189 mo 34) lp := Eq.trans (hF.r hmo (by rw [kmo]; rfl)) z172
        have z232 : q_ir (q_r f189 mo 38) rp := Eq.trans (hF.r hmo (by rw [kmo]; rfl)) z173
        have g233 : q_gr f189 sr := q_gr_fr g174 (fun i9 _ => hF.z hsr (by rw [ksr]; rfl))
        have g234 : q_z f189 x 9 = q_z f189 mo 22 := tk_s2_tr g175 (hF.z hx (by rw [kx]; rfl)) (hF.z hmo (by rw [kmo]; rfl))
        have g235 : q_pk f189 mo pa := q_pk_tr g176 (hF.z hmo (by rw [kmo]; rfl)) (fun i9 => hF.z hpa (by rw [kpa]; rfl))
        have g236 : q_sv f189 mo sd := q_sv_tr g177 (hF.z hmo (by rw [kmo]; rfl)) (fun i9 => hF.z hsd (by rw [ksd]; rfl))
        have g237 : tk_bb f189 bu ba tn := tk_bb_tr g178 (fun i9 => hF.z hbu (by rw [kbu]; rfl)) (fun i9 => hF.z hba (by rw [kba]; rfl))
        have g238 : tk_ij K L f189 nds := tk_ij_tr g179 (fun i9 => hF.r hnds (by rw [knds]; rfl))
        have g239 : tk_c3 K L f189 cmds := tk_c3_tr g180 (fun i9 => hF.r hcmds (by rw [kcmds]; rfl))
        have g240 : q_z f189 so 2 = q_z f189 mo 10 := tk_e2_tr g181 (hF.z hso (by rw [kso]; rfl)) (hF.z hmo (by rw [kmo]; rfl))
        have g241 : q_z f189 so 3 = q_z f189 mo 11 := tk_e2_tr g182 (hF.z hso (by rw [kso]; rfl)) (hF.z hmo (by rw [kmo]; rfl))
        have g242 : tk_vn K L 5 f189 now ndn nl9 := tk_vn_tr g183 (hF.z hnow (by rw [know]; rfl)) (fun a9 h9 k9 => hF.j h9 (by rw [k9]; rfl)) (fun i9 => hF.r hndn (by rw [kndn]; rfl))
        have g243 : tk_vk K L f189 hist ka now ndn := tk_vk_tr g184 (hF.z hhist (by rw [khist]; rfl)) (hF.z hhist (by rw [khist]; rfl)) (hF.z hnow (by rw [know]; rfl)) (fun a9 h9 k9 => hF.j h9 (by rw [k9]; rfl)) (fun i9 => hF.r hndn (by rw [kndn]; rfl)) (fun a9 h9 k9 => hF.z h9 (by rw [k9]; rfl)) (fun a9 h9 k9 => hF.j h9 (by rw [k9]; rfl)) (fun i9 => hF.r hka (by rw [kka]; rfl)) (fun a9 h9 k9 => hF.r h9 (by rw [k9]; rfl)) (fun a9 h9 k9 i9 => hF.r h9 (by rw [k9]; rfl))
        have g244 : tk_vs K L f189 x sv nsv ls9 := tk_vs_tr g185 (hF.z hx (by rw [kx]; rfl)) (hF.z hsv (by rw [ksv]; rfl)) (fun a9 h9 k9 => hF.j h9 (by rw [k9]; rfl)) (fun i9 => hF.r hnsv (by rw [knsv]; rfl))
        have g245 : tk_nq f189 nm nl9 := tk_nq_tr g186 (fun i9 => hF.j hnm (by rw [knm]; rfl))
        have g246 : tk_rs f189 mo sd snm ls9 := tk_rs_tr g187 (hF.z hmo (by rw [kmo]; rfl)) (fun i9 h9 k9 => hF.z hsd (by rw [ksd]; exact q_inWr rfl h9 k9)) (fun i9 => hF.j hsnm (by rw [ksnm]; rfl))
        have g247 : q_pc f189 mo pa xc := q_pc_tr g188 (hF.z hmo (by rw [kmo]; rfl)) (fun i9 => hF.z hpa (by rw [kpa]; rfl))
        refine lv_istore (lv' := [(7, .int (q_i y190)), (6, .int (q_i 0)), (5, .int (q_i ii)), (4, .ref outD), (3, .ref out), (2, .ref mo), (1, .ref x), (0, .ref b)]) cx.1 cx.2.1 dL_law_319 hl (by decide) rfl (fun ls hl => ?_)
        refine lv_goto (tgt := 1493) cx.1 cx.2.1 dL_law_321 (by decide) ?_
        refine W.widen (k := cells + 6) (n := slots + 36) (by omega) (by omega) ?_
        exact kk f189 H locs ls a3 nl9 ls9 xc hB ⟨⟨z198, (Eq.trans z192 (by omega)), by omega, by omega⟩, g233, g235, g236, q_isu z196 (by omega), q_isu z197 (by omega), tk_bb_le g237 (by omega), z195, by omega, g242, g243, g244, g245, g246, g247, g234, g240, g241⟩ (lv_sub hl [2, 3, 4, 5, 6, 7] rfl)
    · refine q_cWS (As := [.ref x, .int (q_i a3), .ref out]) (rest := []) cx hX hB (fun q h => hLA q h) (fun q h1 h2 => absurd h1 (Nat.not_le_of_lt h2)) hN (w_truncate_c l g ad hN hB.2.1 hfl x hx kx a3 (by omega) (by omega) out hout kout so hso kso rd hrd krd scr hscr kscr fc hfc kfc hist hhist khist rep hrep krep now hnow know dr hdr kdr sv hsv ksv tr htr ktr tn (by omega) (by omega) hn0 hr0 hr1 hr2 hr3 hr4 hr5 hr6 hr7 hr8 hr9 (by omega)) q_cL_124 q_dL_truncate ⟨by decide, by show cells + 1 ≤ 601024; omega, by show slots + 6 ≤ 7293034; omega⟩ rfl rfl hl.1 rfl (Nat.le_of_ble_eq_true rfl) dL_law_304 (fun v9 H locs f248 h250 hF hB => ?_)
      obtain ⟨y249, rfl, ry249, h250⟩ := h250
      refine W.eq (g2 := F0 m 307 ls [.int (q_i y249)]) rfl ?_
      obtain ⟨rfl, qy249⟩ := h250
      subst qy249
      refine lv_istore (lv' := [(6, .int (q_i 1)), (5, .int (q_i ii)), (4, .ref outD), (3, .ref out), (2, .ref mo), (1, .ref x), (0, .ref b)]) cx.1 cx.2.1 dL_law_307 hl (by decide) rfl (fun ls hl => ?_)
      refine q_ald_n cx dL_law_309 rfl (lv_at hl 4 rfl) ?_
      refine q_ald_n cx dL_law_310 rfl (lv_at hl 6 rfl) ?_
      refine lv_iload cx.1 cx.2.1 dL_law_311 (lv_at hl 1 rfl) ?_
      refine q_iconst cx dL_law_313 ?_
      refine q_iadd cx dL_law_314 ?_
      refine va_sld cx.1 cx.2.1 hXs hbl hbA hB.1.2.2.2 (q_in (by omega) (by omega) (by omega)) dL_law_315 ?_
      rw [ea3]
      refine q_cVi (As := [.int (q_i a3)]) (rest := []) cx hB (fun q h => hLA q h) hN hmo kmo (by decide) rfl (r_truncate_c l g hN hB.2.1 mo hmo kmo a3 (by omega) (by omega) tn (by omega) (by omega) hn1 (by omega)) q_cL_127 q_dX12_truncate ⟨by decide, by show cells + 1 ≤ 601024; omega, by show slots + 6 ≤ 7293034; omega⟩ rfl rfl hl.1 rfl (Nat.le_of_ble_eq_true rfl) dL_law_316 (fun y252 H locs f251 ry252 h253 hF hB => ?_)
      obtain ⟨qy252, z254, z255⟩ := h253
      have z256 : q_is (q_z f251 so 1) tn := Eq.trans (hF.z hso (by rw [kso]; rfl)) hn0
      have z257 : q_is (q_z f251 mo 2) tn := Eq.trans (hF.z hmo (by rw [kmo]; rfl)) hn1
      have z258 : q_is (q_z f251 sr 0) xc := Eq.trans (hF.z hsr (by rw [ksr]; rfl)) hsr0
      have z259 : q_is (q_z f251 sr 3) x1 := Eq.trans (hF.z hsr (by rw [ksr]; rfl)) ex1
      have z260 : q_is (q_z f251 sr 4) x2 := Eq.trans (hF.z hsr (by rw [ksr]; rfl)) ex2
      have z261 : q_ir (q_r f251 x 0) so := Eq.trans (hF.r hx (by rw [kx]; rfl)) hr0
      have z262 : q_ir (q_r f251 x 1) rd := Eq.trans (hF.r hx (by rw [kx]; rfl)) hr1
      have z263 : q_ir (q_r f251 x 2) scr := Eq.trans (hF.r hx (by rw [kx]; rfl)) hr2
      have z264 : q_ir (q_r f251 x 3) fc := Eq.trans (hF.r hx (by rw [kx]; rfl)) hr3
      have z265 : q_ir (q_r f251 x 4) hist := Eq.trans (hF.r hx (by rw [kx]; rfl)) hr4
      have z266 : q_ir (q_r f251 x 5) rep := Eq.trans (hF.r hx (by rw [kx]; rfl)) hr5
      have z267 : q_ir (q_r f251 x 6) now := Eq.trans (hF.r hx (by rw [kx]; rfl)) hr6
      have z268 : q_ir (q_r f251 x 7) dr := Eq.trans (hF.r hx (by rw [kx]; rfl)) hr7
      have z269 : q_ir (q_r f251 x 8) sv := Eq.trans (hF.r hx (by rw [kx]; rfl)) hr8
      have z270 : q_ir (q_r f251 fc 0) tr := Eq.trans (hF.r hfc (by rw [kfc]; rfl)) hr9
      have z271 : q_ir (q_r f251 so 0) ba := Eq.trans (hF.r hso (by rw [kso]; rfl)) hr10
      have z272 : q_ir (q_r f251 dr 0) nds := Eq.trans (hF.r hdr (by rw [kdr]; rfl)) hr11
      have z273 : q_ir (q_r f251 hist 0) ka := Eq.trans (hF.r hhist (by rw [khist]; rfl)) hr12
      have z274 : q_ir (q_r f251 now 0) ndn := Eq.trans (hF.r hnow (by rw [know]; rfl)) hr13
      have z275 : q_ir (q_r f251 sv 0) nsv := Eq.trans (hF.r hsv (by rw [ksv]; rfl)) hr14
      have z276 : q_ir (q_r f251 scr 0) cmds := Eq.trans (hF.r hscr (by rw [kscr]; rfl)) hr15
      have z277 : q_ir (q_r f251 mo 1) bu := Eq.trans (hF.r hmo (by rw [kmo]; rfl)) hr16
      have z278 : q_ir (q_r f251 mo 13) sr := Eq.trans (hF.r hmo (by rw [kmo]; rfl)) hr17
      have z279 : q_ir (q_r f251 mo 14) sd := Eq.trans (hF.r hmo (by rw [kmo]; rfl)) hr18
      have z280 : q_ir (q_r f251 mo 15) as := Eq.trans (hF.r hmo (by rw [kmo]; rfl)) hr19
      have z281 : q_ir (q_r f251 mo 16) aw := Eq.trans (hF.r hmo (by rw [kmo]; rfl)) hr20
      have z282 : q_ir (q_r f251 mo 17) pa := Eq.trans (hF.r hmo (by rw [kmo]; rfl)) hr21
      have z283 : q_ir (q_r f251 mo 18) nm := Eq.trans (hF.r hmo (by rw [kmo]; rfl)) hr22
      have z284 : q_ir (q_r f251 mo 19) snm := Eq.trans (hF.r hmo (by rw [kmo]; rfl)) hr23
      have z285 : q_ir (q_r f251 mo 20) anm := Eq.trans (hF.r hmo (by rw [kmo]; rfl)) hr24
      have z286 : q_ir (q_r f251 mo 24) hp := Eq.trans (hF.r hmo (by rw [kmo]; rfl)) hr25
      have z287 : q_ir (q_r f251 mo 25) dy := Eq.trans (hF.r hmo (by rw [kmo]; rfl)) hr26
      have z288 : q_ir (q_r f251 mo 29) cs := Eq.trans (hF.r hmo (by rw [kmo]; rfl)) hr27
      have z289 : q_ir (q_r f251 mo 30) c1 := Eq.trans (hF.r hmo (by rw [kmo]; rfl)) hr28
      have z290 : q_ir (q_r f251 mo 31) c2 := Eq.trans (hF.r hmo (by rw [kmo]; rfl)) hr29
      have z291 : q_ir (q_r f251 mo 32) c3 := Eq.trans (hF.r hmo (by rw [kmo]; rfl)) hr30
      have z292 : q_ir (q_r f251 mo 33) bg := Eq.trans (hF.r hmo (by rw [kmo]; rfl)) hr31
      have z293 : q_ir (q_r f251 mo 34) lp := Eq.trans (hF.r hmo (by rw [kmo]; rfl)) hr32
      have z294 : q_ir (q_r f251 mo 38) rp := Eq.trans (hF.r hmo (by rw [kmo]; rfl)) hr33
      have g295 : q_gr f251 sr := q_gr_fr hgr (fun i9 _ => hF.z hsr (by rw [ksr]; rfl))
      have g296 : q_z f251 x 9 = q_z f251 mo 22 := tk_s2_tr hs22 (hF.z hx (by rw [kx]; rfl)) (hF.z hmo (by rw [kmo]; rfl))
      have g297 : q_pk f251 mo pa := q_pk_tr hpk (hF.z hmo (by rw [kmo]; rfl)) (fun i9 => hF.z hpa (by rw [kpa]; rfl))
      have g298 : q_sv f251 mo sd := q_sv_tr hsd9 (hF.z hmo (by rw [kmo]; rfl)) (fun i9 => hF.z hsd (by rw [ksd]; rfl))
      have g299 : tk_bb f251 bu ba tn := tk_bb_tr hbb (fun i9 => hF.z hbu (by rw [kbu]; rfl)) (fun i9 => hF.z hba (by rw [kba]; rfl))
      have g300 : tk_ij K L f251 nds := tk_ij_tr hij (fun i9 => hF.r hnds (by rw [knds]; rfl))
      have g301 : tk_c3 K L f251 cmds := tk_c3_tr hcj (fun i9 => hF.r hcmds (by rw [kcmds]; rfl))
      have g302 : q_z f251 so 2 = q_z f251 mo 10 := tk_e2_tr he2 (hF.z hso (by rw [kso]; rfl)) (hF.z hmo (by rw [kmo]; rfl))
      have g303 : q_z f251 so 3 = q_z f251 mo 11 := tk_e2_tr he3 (hF.z hso (by rw [kso]; rfl)) (hF.z hmo (by rw [kmo]; rfl))
      have g304 : tk_vn K L 5 f251 now ndn nl9 := tk_vn_tr hvn (hF.z hnow (by rw [know]; rfl)) (fun a9 h9 k9 => hF.j h9 (by rw [k9]; rfl)) (fun i9 => hF.r hndn (by rw [kndn]; rfl))
      have g305 : tk_vk K L f251 hist ka now ndn := tk_vk_tr hvk (hF.z hhist (by rw [khist]; rfl)) (hF.z hhist (by rw [khist]; rfl)) (hF.z hnow (by rw [know]; rfl)) (fun a9 h9 k9 => hF.j h9 (by rw [k9]; rfl)) (fun i9 => hF.r hndn (by rw [kndn]; rfl)) (fun a9 h9 k9 => hF.z h9 (by rw [k9]; rfl)) (fun a9 h9 k9 => hF.j h9 (by rw [k9]; rfl)) (fun i9 => hF.r hka (by rw [kka]; rfl)) (fun a9 h9 k9 => hF.r h9 (by rw [k9]; rfl)) (fun a9 h9 k9 i9 => hF.r h9 (by rw [k9]; rfl))
      have g306 : tk_vs K L f251 x sv nsv ls9 := tk_vs_tr hvs (hF.z hx (by rw [kx]; rfl)) (hF.z hsv (by rw [ksv]; rfl)) (fun a9 h9 k9 => hF.j h9 (by rw [k9]; rfl)) (fun i9 => hF.r hnsv (by rw [knsv]; rfl))
      have g307 : tk_nq f251 nm nl9 := tk_nq_tr hrn9 (fun i9 => hF.j hnm (by rw [knm]; rfl))
      have g308 : tk_rs f251 mo sd snm ls9 := tk_rs_tr hrs9 (hF.z hmo (by rw [kmo]; rfl)) (fun i9 h9 k9 => hF.z hsd (by rw [ksd]; exact q_inWr rfl h9 k9)) (fun i9 => hF.j hsnm (by rw [ksnm]; rfl))
      have g309 : q_pc f251 mo pa xc := q_pc_tr hpc (hF.z hmo (by rw [kmo]; rfl)) (fun i9 => hF.z hpa (by rw [kpa]; rfl))
      subst qy252
      refine lv_istore (lv' := [(7, .int (q_i 0)), (6, .int (q_i 1)), (5, .int (q_i ii)), (4, .ref outD), (3, .ref out), (2, .ref mo), (1, .ref x), (0, .ref b)]) cx.1 cx.2.1 dL_law_319 hl (by decide) rfl (fun ls hl => ?_)
      refine lv_goto (tgt := 1493) cx.1 cx.2.1 dL_law_321 (by decide) ?_
      refine W.widen (k := cells + 6) (n := slots + 36) (by omega) (by omega) ?_
      exact kk f251 H locs ls tn nl9 ls9 xc hB ⟨⟨z256, (Eq.trans z254 (by omega)), by omega, by omega⟩, g295, g297, g298, q_isu z259 (by omega), q_isu z260 (by omega), tk_bb_le g299 (by omega), z258, by omega, g304, g305, g306, g307, g308, g309, g296, g302, g303⟩ (lv_sub hl [2, 3, 4, 5, 6, 7] rfl)
