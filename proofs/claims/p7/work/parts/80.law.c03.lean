set_option maxHeartbeats 4000000 in
set_option maxRecDepth 100000 in
theorem law_c340 {p : Program} {l : Launch} {e : Env} {s : State} {m : MethodId} {below : List Frame} {meth : Method} {c : Code} {b N9 : Nat} {xs : Nat → Int32} (hfl : l.stackTraces = false) (hN9 : N9 ≤ 3072) (C0 : lw_At p s m meth c b N9 xs) (cx : CallFix p m c cL_law 10 s #[Value.ref b] q_al RL) {g : q_G} {ad : Nat → Nat} {K : Nat → Nat} {L : List Nat} (hN : L.Nodup) (hLA : ∀ q, q ∈ L → s.heap.size ≤ q) (hX : q_X ad (fun q => q ∈ L) s) {f0 : Nat → va_E} {x : Nat} (hx : x ∈ L) (kx : K x = 11) {so : Nat} (hso : so ∈ L) (kso : K so = 8) {rd : Nat} (hrd : rd ∈ L) (krd : K rd = 9) {scr : Nat} (hscr : scr ∈ L) (kscr : K scr = 7) {fc : Nat} (hfc : fc ∈ L) (kfc : K fc = 1) {hist : Nat} (hhist : hist ∈ L) (khist : K hist = 2) {rep : Nat} (hrep : rep ∈ L) (krep : K rep = 6) {now : Nat} (hnow : now ∈ L) (know : K now = 10) {dr : Nat} (hdr : dr ∈ L) (kdr : K dr = 13) {sv : Nat} (hsv : sv ∈ L) (ksv : K sv = 14) {tr : Nat} (htr : tr ∈ L) (ktr : K tr = 15) {ba : Nat} (hba : ba ∈ L) (kba : K ba = 142) {nds : Nat} (hnds : nds ∈ L) (knds : K nds = 111) {ka : Nat} (hka : ka ∈ L) (kka : K ka = 140) {ndn : Nat} (hndn : ndn ∈ L) (kndn : K ndn = 110) {nsv : Nat} (hnsv : nsv ∈ L) (knsv : K nsv = 112) {cmds : Nat} (hcmds : cmds ∈ L) (kcmds : K cmds = 141) {mo : Nat} (hmo : mo ∈ L) (kmo : K mo = 12) {bu : Nat} (hbu : bu ∈ L) (kbu : K bu = 150) {sr : Nat} (hsr : sr ∈ L) (ksr : K sr = 151) {sd : Nat} (hsd : sd ∈ L) (ksd : K sd = 152) {as : Nat} (has : as ∈ L) (kas : K as = 153) {aw : Nat} (haw : aw ∈ L) (kaw : K aw = 154) {pa : Nat} (hpa : pa ∈ L) (kpa : K pa = 155) {nm : Nat} (hnm : nm ∈ L) (knm : K nm = 156) {snm : Nat} (hsnm : snm ∈ L) (ksnm : K snm = 157) {anm : Nat} (hanm : anm ∈ L) (kanm : K anm = 158) {hp : Nat} (hhp : hp ∈ L) (khp : K hp = 159) {dy : Nat} (hdy : dy ∈ L) (kdy : K dy = 160) {cs : Nat} (hcs : cs ∈ L) (kcs : K cs = 161) {c1 : Nat} (hc1 : c1 ∈ L) (kc1 : K c1 = 162) {c2 : Nat} (hc2 : c2 ∈ L) (kc2 : K c2 = 163) {c3 : Nat} (hc3 : c3 ∈ L) (kc3 : K c3 = 164) {bg : Nat} (hbg : bg ∈ L) (kbg : K bg = 165) {lp : Nat} (hlp : lp ∈ L) (klp : K lp = 166) {rp : Nat} (hrp : rp ∈ L) (krp : K rp = 167) {out : Nat} (hout : out ∈ L) (kout : K out = 168) {outD : Nat} (houtD : outD ∈ L) (koutD : K outD = 169) (hr0 : q_ir (q_r f0 x 0) so) (hr1 : q_ir (q_r f0 x 1) rd) (hr2 : q_ir (q_r f0 x 2) scr) (hr3 : q_ir (q_r f0 x 3) fc) (hr4 : q_ir (q_r f0 x 4) hist) (hr5 : q_ir (q_r f0 x 5) rep) (hr6 : q_ir (q_r f0 x 6) now) (hr7 : q_ir (q_r f0 x 7) dr) (hr8 : q_ir (q_r f0 x 8) sv) (hr9 : q_ir (q_r f0 fc 0) tr) (hr10 : q_ir (q_r f0 so 0) ba) (hr11 : q_ir (q_r f0 dr 0) nds) (hr12 : q_ir (q_r f0 hist 0) ka) (hr13 : q_ir (q_r f0 now 0) ndn) (hr14 : q_ir (q_r f0 sv 0) nsv) (hr15 : q_ir (q_r f0 scr 0) cmds) (hr16 : q_ir (q_r f0 mo 1) bu) (hr17 : q_ir (q_r f0 mo 13) sr) (hr18 : q_ir (q_r f0 mo 14) sd) (hr19 : q_ir (q_r f0 mo 15) as) (hr20 : q_ir (q_r f0 mo 16) aw) (hr21 : q_ir (q_r f0 mo 17) pa) (hr22 : q_ir (q_r f0 mo 18) nm) (hr23 : q_ir (q_r f0 mo 19) snm) (hr24 : q_ir (q_r f0 mo 20) anm) (hr25 : q_ir (q_r f0 mo 24) hp) (hr26 : q_ir (q_r f0 mo 25) dy) (hr27 : q_ir (q_r f0 mo 29) cs) (hr28 : q_ir (q_r f0 mo 30) c1) (hr29 : q_ir (q_r f0 mo 31) c2) (hr30 : q_ir (q_r f0 mo 32) c3) (hr31 : q_ir (q_r f0 mo 33) bg) (hr32 : q_ir (q_r f0 mo 34) lp) (hr33 : q_ir (q_r f0 mo 38) rp) (hij : tk_ij K L f0 nds) (hcj : tk_c3 K L f0 cmds) {f : Nat → va_E} {H : Heap} {locs : List Loc} {ls : Array Slot} {cells slots : Nat} {ii tn : Int} {nl9 ls9 : List (List Int)} {xc : Int} (hB : q_B g K L (fun q => s.heap.size ≤ q) [(0, 0, 6), (2, 1, 2), (3, 0, 4), (4, 0, 7), (5, 0, 9), (6, 1, 1), (7, 1, 4), (8, 1, 9), (9, 0, 2), (10, 3, 15), (11, 9, 9), (12, 0, 0), (12, 2, 12), (12, 21, 23), (12, 26, 28), (12, 35, 37), (12, 39, 40), (13, 3, 15), (14, 3, 15), (15, 3, 15), (16, 3, 15), (17, 0, 9), (18, 0, 9), (19, 0, 9), (20, 0, 9), (21, 0, 4), (22, 0, 4), (23, 0, 4), (24, 0, 4), (25, 0, 7), (26, 0, 7), (27, 0, 7), (28, 0, 7), (142, 0, 599), (143, 0, 599), (150, 0, 599), (151, 0, 657), (152, 0, 657), (153, 0, 657), (154, 0, 657), (155, 0, 3947), (156, 0, 9), (157, 0, 9), (158, 0, 9), (159, 0, 9), (160, 0, 9), (161, 0, 59), (162, 0, 58), (163, 0, 58), (164, 0, 58), (165, 0, 1), (166, 0, 1), (167, 0, 479), (168, 0, 0), (169, 0, 0)] f0 f s H locs) (hI : q_Iv6 K L f x so mo sr pa sd bu ba now ndn hist ka sv nsv nm snm tn nl9 ls9 xc) (hl : lv_has ls 10 [(5, .int (q_i ii)), (4, .ref outD), (3, .ref out), (2, .ref mo), (1, .ref x), (0, .ref b)]) (hi0 : 0 ≤ ii) (hi6 : ii + 6 ≤ N9) (hce : cells + 6 ≤ 10000) (hse : slots + 36 ≤ 100000) (kk : ∀ (f1 : Nat → va_E) (H1 : Heap) (locs1 : List Loc) (ls1 : Array Slot) (tn1 : Int) (nl1 ls1_ : List (List Int)) (xc1 : Int), q_B g K L (fun q => s.heap.size ≤ q) [(0, 0, 6), (2, 1, 2), (3, 0, 4), (4, 0, 7), (5, 0, 9), (6, 1, 1), (7, 1, 4), (8, 1, 9), (9, 0, 2), (10, 3, 15), (11, 9, 9), (12, 0, 0), (12, 2, 12), (12, 21, 23), (12, 26, 28), (12, 35, 37), (12, 39, 40), (13, 3, 15), (14, 3, 15), (15, 3, 15), (16, 3, 15), (17, 0, 9), (18, 0, 9), (19, 0, 9), (20, 0, 9), (21, 0, 4), (22, 0, 4), (23, 0, 4), (24, 0, 4), (25, 0, 7), (26, 0, 7), (27, 0, 7), (28, 0, 7), (142, 0, 599), (143, 0, 599), (150, 0, 599), (151, 0, 657), (152, 0, 657), (153, 0, 657), (154, 0, 657), (155, 0, 3947), (156, 0, 9), (157, 0, 9), (158, 0, 9), (159, 0, 9), (160, 0, 9), (161, 0, 59), (162, 0, 58), (163, 0, 58), (164, 0, 58), (165, 0, 1), (166, 0, 1), (167, 0, 479), (168, 0, 0), (169, 0, 0)] f0 f1 s H1 locs1 → q_Iv6 K L f1 x so mo sr pa sd bu ba now ndn hist ka sv nsv nm snm tn1 nl1 ls1_ xc1 → lv_has ls1 10 [(5, .int (q_i ii)), (4, .ref outD), (3, .ref out), (2, .ref mo), (1, .ref x), (0, .ref b)] → W p l e room_1 s m #[Value.ref b] below meth c H1 locs1 (cells + 6) (slots + 36) (lw_Z below #[Value.ref b] s) (F0 m 1493 ls1 [])) : W p l e room_1 s m #[Value.ref b] below meth c H locs (cells) (slots) (lw_Z below #[Value.ref b] s) (F0 m 340 ls []) := by
  have hXs := C0.2.2.2.2.2.2.1
  have hbl := C0.2.2.2.2.2.2.2.1
  have hbA := q_bA hbl
  obtain ⟨⟨hn0, hn1, ltn, utn⟩, hgr, hpk, hsd9, ht3, ht4, hbb, hsr0, hxc, hvn, hvk, hvs, hrn9, hrs9, hpc, hs22, he2, he3⟩ := hI
  have lxc : 0 ≤ xc := by omega
  have uxc : xc ≤ 10 := by have h7 := hvn.2.1.2; omega
  have hr0 : q_ir (q_r f x 0) so := Eq.trans (hB.2.2.r hx (by rw [kx]; rfl)) hr0
  have hr1 : q_ir (q_r f x 1) rd := Eq.trans (hB.2.2.r hx (by rw [kx]; rfl)) hr1
  have hr2 : q_ir (q_r f x 2) scr := Eq.trans (hB.2.2.r hx (by rw [kx]; rfl)) hr2
  have hr3 : q_ir (q_r f x 3) fc := Eq.trans (hB.2.2.r hx (by rw [kx]; rfl)) hr3
  have hr4 : q_ir (q_r f x 4) hist := Eq.trans (hB.2.2.r hx (by rw [kx]; rfl)) hr4
  have hr5 : q_ir (q_r f x 5) rep := Eq.trans (hB.2.2.r hx (by rw [kx]; rfl)) hr5
  have hr6 : q_ir (q_r f x 6) now := Eq.trans (hB.2.2.r hx (by rw [kx]; rfl)) hr6
  have hr7 : q_ir (q_r f x 7) dr := Eq.trans (hB.2.2.r hx (by rw [kx]; rfl)) hr7
  have hr8 : q_ir (q_r f x 8) sv := Eq.trans (hB.2.2.r hx (by rw [kx]; rfl)) hr8
  have hr9 : q_ir (q_r f fc 0) tr := Eq.trans (hB.2.2.r hfc (by rw [kfc]; rfl)) hr9
  have hr10 : q_ir (q_r f so 0) ba := Eq.trans (hB.2.2.r hso (by rw [kso]; rfl)) hr10
  have hr11 : q_ir (q_r f dr 0) nds := Eq.trans (hB.2.2.r hdr (by rw [kdr]; rfl)) hr11
  have hr12 : q_ir (q_r f hist 0) ka := Eq.trans (hB.2.2.r hhist (by rw [khist]; rfl)) hr12
  have hr13 : q_ir (q_r f now 0) ndn := Eq.trans (hB.2.2.r hnow (by rw [know]; rfl)) hr13
  have hr14 : q_ir (q_r f sv 0) nsv := Eq.trans (hB.2.2.r hsv (by rw [ksv]; rfl)) hr14
  have hr15 : q_ir (q_r f scr 0) cmds := Eq.trans (hB.2.2.r hscr (by rw [kscr]; rfl)) hr15
  have hr16 : q_ir (q_r f mo 1) bu := Eq.trans (hB.2.2.r hmo (by rw [kmo]; rfl)) hr16
  have hr17 : q_ir (q_r f mo 13) sr := Eq.trans (hB.2.2.r hmo (by rw [kmo]; rfl)) hr17
  have hr18 : q_ir (q_r f mo 14) sd := Eq.trans (hB.2.2.r hmo (by rw [kmo]; rfl)) hr18
  have hr19 : q_ir (q_r f mo 15) as := Eq.trans (hB.2.2.r hmo (by rw [kmo]; rfl)) hr19
  have hr20 : q_ir (q_r f mo 16) aw := Eq.trans (hB.2.2.r hmo (by rw [kmo]; rfl)) hr20
  have hr21 : q_ir (q_r f mo 17) pa := Eq.trans (hB.2.2.r hmo (by rw [kmo]; rfl)) hr21
  have hr22 : q_ir (q_r f mo 18) nm := Eq.trans (hB.2.2.r hmo (by rw [kmo]; rfl)) hr22
  have hr23 : q_ir (q_r f mo 19) snm := Eq.trans (hB.2.2.r hmo (by rw [kmo]; rfl)) hr23
  have hr24 : q_ir (q_r f mo 20) anm := Eq.trans (hB.2.2.r hmo (by rw [kmo]; rfl)) hr24
  have hr25 : q_ir (q_r f mo 24) hp := Eq.trans (hB.2.2.r hmo (by rw [kmo]; rfl)) hr25
  have hr26 : q_ir (q_r f mo 25) dy := Eq.trans (hB.2.2.r hmo (by rw [kmo]; rfl)) hr26
  have hr27 : q_ir (q_r f mo 29) cs := Eq.trans (hB.2.2.r hmo (by rw [kmo]; rfl)) hr27
  have hr28 : q_ir (q_r f mo 30) c1 := Eq.trans (hB.2.2.r hmo (by rw [kmo]; rfl)) hr28
  have hr29 : q_ir (q_r f mo 31) c2 := Eq.trans (hB.2.2.r hmo (by rw [kmo]; rfl)) hr29
  have hr30 : q_ir (q_r f mo 32) c3 := Eq.trans (hB.2.2.r hmo (by rw [kmo]; rfl)) hr30
  have hr31 : q_ir (q_r f mo 33) bg := Eq.trans (hB.2.2.r hmo (by rw [kmo]; rfl)) hr31
  have hr32 : q_ir (q_r f mo 34) lp := Eq.trans (hB.2.2.r hmo (by rw [kmo]; rfl)) hr32
  have hr33 : q_ir (q_r f mo 38) rp := Eq.trans (hB.2.2.r hmo (by rw [kmo]; rfl)) hr33
  have hij : tk_ij K L f nds := tk_ij_tr hij (fun i9 => hB.2.2.r hnds (by rw [knds]; rfl))
  have hcj : tk_c3 K L f cmds := tk_c3_tr hcj (fun i9 => hB.2.2.r hcmds (by rw [kcmds]; rfl))
  obtain ⟨B, hBd⟩ : ∃ B9 : Nat → Int, ∀ i9 : Nat, B9 i9 = q_z f ba i9 := ⟨_, fun _ => rfl⟩
  have htb : tk_tb f ba B tn := fun i9 h9 => (hBd i9).symm
  have hub : tk_ub f bu B tn := tk_bb_ub hbb hB.2.1 hba kba hBd utn
  obtain ⟨x1, ex1⟩ : ∃ zz, q_is (q_z f sr 3) zz := ⟨_, q_isr _⟩
  obtain ⟨lx1, ux1⟩ : 0 ≤ x1 ∧ x1 ≤ 9999 := q_isb ex1 ⟨(hgr 3 (by decide)).1, ht3⟩
  obtain ⟨x2, ex2⟩ : ∃ zz, q_is (q_z f sr 4) zz := ⟨_, q_isr _⟩
  obtain ⟨lx2, ux2⟩ : 0 ≤ x2 ∧ x2 ≤ 60 := q_isb ex2 ⟨(hgr 4 (by decide)).1, ht4⟩
  refine q_ald_n cx dL_law_340 rfl (lv_at hl 4 rfl) ?_
  refine q_ald_n cx dL_law_341 rfl (lv_at hl 2 rfl) ?_
  refine q_cWS (As := [.ref x, .ref out]) (rest := []) cx hX hB (fun q h => hLA q h) (fun q h1 h2 => absurd h1 (Nat.not_le_of_lt h2)) hN (f_w6runScript l g ad hN hB.2.1 hfl B nl9 x hx kx out hout kout so hso kso rd hrd krd scr hscr kscr fc hfc kfc hist hhist khist rep hrep krep now hnow know dr hdr kdr sv hsv ksv tr htr ktr ba hba kba nds hnds knds ka hka kka ndn hndn kndn nsv hnsv knsv cmds hcmds kcmds tn (by omega) (by omega) hn0 hr0 hr1 hr2 hr3 hr4 hr5 hr6 hr7 hr8 hr9 hr10 hr11 hr12 hr13 hr14 hr15 htb hvn hvk hcj) q_cL_132 q_dL_runScript ⟨by decide, by show cells + 1 ≤ 601024; omega, by show slots + 6 ≤ 7293034; omega⟩ rfl rfl hl.1 rfl (Nat.le_of_ble_eq_true rfl) dL_law_342 (fun v9 H locs f3 h5 hF hB => ?_)
  obtain ⟨y4, rfl, ry4, h5⟩ := h5
  refine W.eq (g2 := F0 m 345 ls [.int (q_i y4)]) rfl ?_
  rcases h5 with h6 | h7
  · obtain ⟨qy4, z8, z9, z10, t11, g12⟩ := h6
    have z13 : q_is (q_z f3 mo 2) tn := Eq.trans (hF.z hmo (by rw [kmo]; rfl)) hn1
    have z14 : q_is (q_z f3 sr 0) xc := Eq.trans (hF.z hsr (by rw [ksr]; rfl)) hsr0
    have z15 : q_is (q_z f3 sr 3) x1 := Eq.trans (hF.z hsr (by rw [ksr]; rfl)) ex1
    have z16 : q_is (q_z f3 sr 4) x2 := Eq.trans (hF.z hsr (by rw [ksr]; rfl)) ex2
    have z17 : q_ir (q_r f3 x 0) so := Eq.trans (hF.r hx (by rw [kx]; rfl)) hr0
    have z18 : q_ir (q_r f3 x 1) rd := Eq.trans (hF.r hx (by rw [kx]; rfl)) hr1
    have z19 : q_ir (q_r f3 x 2) scr := Eq.trans (hF.r hx (by rw [kx]; rfl)) hr2
    have z20 : q_ir (q_r f3 x 3) fc := Eq.trans (hF.r hx (by rw [kx]; rfl)) hr3
    have z21 : q_ir (q_r f3 x 4) hist := Eq.trans (hF.r hx (by rw [kx]; rfl)) hr4
    have z22 : q_ir (q_r f3 x 5) rep := Eq.trans (hF.r hx (by rw [kx]; rfl)) hr5
    have z23 : q_ir (q_r f3 x 6) now := Eq.trans (hF.r hx (by rw [kx]; rfl)) hr6
    have z24 : q_ir (q_r f3 x 7) dr := Eq.trans (hF.r hx (by rw [kx]; rfl)) hr7
    have z25 : q_ir (q_r f3 x 8) sv := Eq.trans (hF.r hx (by rw [kx]; rfl)) hr8
    have z26 : q_ir (q_r f3 fc 0) tr := Eq.trans (hF.r hfc (by rw [kfc]; rfl)) hr9
    have z27 : q_ir (q_r f3 so 0) ba := Eq.trans (hF.r hso (by rw [kso]; rfl)) hr10
    have z28 : q_ir (q_r f3 dr 0) nds := Eq.trans (hF.r hdr (by rw [kdr]; rfl)) hr11
    have z29 : q_ir (q_r f3 hist 0) ka := Eq.trans (hF.r hhist (by rw [khist]; rfl)) hr12
    have z30 : q_ir (q_r f3 now 0) ndn := Eq.trans (hF.r hnow (by rw [know]; rfl)) hr13
    have z31 : q_ir (q_r f3 sv 0) nsv := Eq.trans (hF.r hsv (by rw [ksv]; rfl)) hr14
    have z32 : q_ir (q_r f3 scr 0) cmds := Eq.trans (hF.r hscr (by rw [kscr]; rfl)) hr15
    have z33 : q_ir (q_r f3 mo 1) bu := Eq.trans (hF.r hmo (by rw [kmo]; rfl)) hr16
    have z34 : q_ir (q_r f3 mo 13) sr := Eq.trans (hF.r hmo (by rw [kmo]; rfl)) hr17
    have z35 : q_ir (q_r f3 mo 14) sd := Eq.trans (hF.r hmo (by rw [kmo]; rfl)) hr18
    have z36 : q_ir (q_r f3 mo 15) as := Eq.trans (hF.r hmo (by rw [kmo]; rfl)) hr19
    have z37 : q_ir (q_r f3 mo 16) aw := Eq.trans (hF.r hmo (by rw [kmo]; rfl)) hr20
    have z38 : q_ir (q_r f3 mo 17) pa := Eq.trans (hF.r hmo (by rw [kmo]; rfl)) hr21
    have z39 : q_ir (q_r f3 mo 18) nm := Eq.trans (hF.r hmo (by rw [kmo]; rfl)) hr22
    have z40 : q_ir (q_r f3 mo 19) snm := Eq.trans (hF.r hmo (by rw [kmo]; rfl)) hr23
    have z41 : q_ir (q_r f3 mo 20) anm := Eq.trans (hF.r hmo (by rw [kmo]; rfl)) hr24
    have z42 : q_ir (q_r f3 mo 24) hp := Eq.trans (hF.r hmo (by rw [kmo]; rfl)) hr25
    have z43 : q_ir (q_r f3 mo 25) dy := Eq.trans (hF.r hmo (by rw [kmo]; rfl)) hr26
    have z44 : q_ir (q_r f3 mo 29) cs := Eq.trans (hF.r hmo (by rw [kmo]; rfl)) hr27
    have z45 : q_ir (q_r f3 mo 30) c1 := Eq.trans (hF.r hmo (by rw [kmo]; rfl)) hr28
    have z46 : q_ir (q_r f3 mo 31) c2 := Eq.trans (hF.r hmo (by rw [kmo]; rfl)) hr29
    have z47 : q_ir (q_r f3 mo 32) c3 := Eq.trans (hF.r hmo (by rw [kmo]; rfl)) hr30
    have z48 : q_ir (q_r f3 mo 33) bg := Eq.trans (hF.r hmo (by rw [kmo]; rfl)) hr31
    have z49 : q_ir (q_r f3 mo 34) lp := Eq.trans (hF.r hmo (by rw [kmo]; rfl)) hr32
    have z50 : q_ir (q_r f3 mo 38) rp := Eq.trans (hF.r hmo (by rw [kmo]; rfl)) hr33
    have g51 : q_gr f3 sr := q_gr_fr hgr (fun i9 _ => hF.z hsr (by rw [ksr]; rfl))
    have g52 : q_z f3 x 9 = q_z f3 mo 22 := tk_s2_tr hs22 (hF.z hx (by rw [kx]; rfl)) (hF.z hmo (by rw [kmo]; rfl))
    have g53 : q_pk f3 mo pa := q_pk_tr hpk (hF.z hmo (by rw [kmo]; rfl)) (fun i9 => hF.z hpa (by rw [kpa]; rfl))
    have g54 : q_sv f3 mo sd := q_sv_tr hsd9 (hF.z hmo (by rw [kmo]; rfl)) (fun i9 => hF.z hsd (by rw [ksd]; rfl))
    have g55 : tk_bb f3 bu ba tn := tk_bb_tr hbb (fun i9 => hF.z hbu (by rw [kbu]; rfl)) (fun i9 => hF.z hba (by rw [kba]; rfl))
    have g56 : tk_ij K L f3 nds := tk_ij_tr hij (fun i9 => hF.r hnds (by rw [knds]; rfl))
    have g57 : tk_c3 K L f3 cmds := tk_c3_tr hcj (fun i9 => hF.r hcmds (by rw [kcmds]; rfl))
    have g58 : tk_vn K L 5 f3 now ndn nl9 := tk_vn_tr hvn (hF.z hnow (by rw [know]; rfl)) (fun a9 h9 k9 => hF.j h9 (by rw [k9]; rfl)) (fun i9 => hF.r hndn (by rw [kndn]; rfl))
    have g59 : tk_vs K L f3 x sv nsv ls9 := tk_vs_tr hvs (hF.z hx (by rw [kx]; rfl)) (hF.z hsv (by rw [ksv]; rfl)) (fun a9 h9 k9 => hF.j h9 (by rw [k9]; rfl)) (fun i9 => hF.r hnsv (by rw [knsv]; rfl))
    have g60 : tk_nq f3 nm nl9 := tk_nq_tr hrn9 (fun i9 => hF.j hnm (by rw [knm]; rfl))
    have g61 : tk_rs f3 mo sd snm ls9 := tk_rs_tr hrs9 (hF.z hmo (by rw [kmo]; rfl)) (fun i9 h9 k9 => hF.z hsd (by rw [ksd]; exact q_inWr rfl h9 k9)) (fun i9 => hF.j hsnm (by rw [ksnm]; rfl))
    have g62 : q_pc f3 mo pa xc := q_pc_tr hpc (hF.z hmo (by rw [kmo]; rfl)) (fun i9 => hF.z hpa (by rw [kpa]; rfl))
    have g63 : tk_tb f3 ba B tn := tk_tb_tr htb (fun i9 => hF.z hba (by rw [kba]; rfl))
    have g64 : tk_ub f3 bu B tn := tk_ub_tr hub (fun i9 => hF.z hbu (by rw [kbu]; rfl))
    subst qy4
    refine lv_istore (lv' := [(6, .int (q_i 0)), (5, .int (q_i ii)), (4, .ref outD), (3, .ref out), (2, .ref mo), (1, .ref x), (0, .ref b)]) cx.1 cx.2.1 dL_law_345 hl (by decide) rfl (fun ls hl => ?_)
    refine q_ald_n cx dL_law_347 rfl (lv_at hl 4 rfl) ?_
    refine q_cVi (As := []) (rest := []) cx hB (fun q h => hLA q h) hN hmo kmo (by decide) rfl (f_mrunScript l g hN hB.2.1 B nl9 mo hmo kmo sr hsr ksr nm hnm knm bu hbu kbu cs hcs kcs c1 hc1 kc1 c2 hc2 kc2 c3 hc3 kc3 bg hbg kbg lp hlp klp hp hhp khp dy hdy kdy as has kas pa hpa kpa x1 (by omega) (by omega) x2 (by omega) (by omega) xc (by omega) (by omega) tn (by omega) (by omega) z15 z16 z14 z13 z34 z39 z33 z44 z45 z46 z47 z48 z49 z42 z43 z36 z38 hxc g51 g53 g62 g64 g60) q_cL_134 q_dX12_runScript ⟨by decide, by show cells + 1 ≤ 601024; omega, by show slots + 6 ≤ 7293034; omega⟩ rfl rfl hl.1 rfl (Nat.le_of_ble_eq_true rfl) dL_law_348 (fun y66 H locs f65 ry66 h67 hF hB => ?_)
    rcases h67 with h68 | h69
    · obtain ⟨lz70, uz70, lz71, uz71, z72, z73, z74, z75, z76, t77, g78, g79, g80⟩ := h68
      have z81 : q_is (q_z f65 sr 0) xc := Eq.trans (hF.z hsr (by rw [ksr]; rfl)) z14
      have z82 : q_is (q_z f65 so 1) 0 := Eq.trans (hF.z hso (by rw [kso]; rfl)) z8
      have z83 : q_is (q_z f65 so 2) 0 := Eq.trans (hF.z hso (by rw [kso]; rfl)) z9
      have z84 : q_is (q_z f65 so 3) (-1) := Eq.trans (hF.z hso (by rw [kso]; rfl)) z10
      have z85 : q_ir (q_r f65 x 0) so := Eq.trans (hF.r hx (by rw [kx]; rfl)) z17
      have z86 : q_ir (q_r f65 x 1) rd := Eq.trans (hF.r hx (by rw [kx]; rfl)) z18
      have z87 : q_ir (q_r f65 x 2) scr := Eq.trans (hF.r hx (by rw [kx]; rfl)) z19
      have z88 : q_ir (q_r f65 x 3) fc := Eq.trans (hF.r hx (by rw [kx]; rfl)) z20
      have z89 : q_ir (q_r f65 x 4) hist := Eq.trans (hF.r hx (by rw [kx]; rfl)) z21
      have z90 : q_ir (q_r f65 x 5) rep := Eq.trans (hF.r hx (by rw [kx]; rfl)) z22
      have z91 : q_ir (q_r f65 x 6) now := Eq.trans (hF.r hx (by rw [kx]; rfl)) z23
      have z92 : q_ir (q_r f65 x 7) dr := Eq.trans (hF.r hx (by rw [kx]; rfl)) z24
      have z93 : q_ir (q_r f65 x 8) sv := Eq.trans (hF.r hx (by rw [kx]; rfl)) z25
      have z94 : q_ir (q_r f65 fc 0) tr := Eq.trans (hF.r hfc (by rw [kfc]; rfl)) z26
      have z95 : q_ir (q_r f65 so 0) ba := Eq.trans (hF.r hso (by rw [kso]; rfl)) z27
      have z96 : q_ir (q_r f65 dr 0) nds := Eq.trans (hF.r hdr (by rw [kdr]; rfl)) z28
      have z97 : q_ir (q_r f65 hist 0) ka := Eq.trans (hF.r hhist (by rw [khist]; rfl)) z29
      have z98 : q_ir (q_r f65 now 0) ndn := Eq.trans (hF.r hnow (by rw [know]; rfl)) z30
      have z99 : q_ir (q_r f65 sv 0) nsv := Eq.trans (hF.r hsv (by rw [ksv]; rfl)) z31
      have z100 : q_ir (q_r f65 scr 0) cmds := Eq.trans (hF.r hscr (by rw [kscr]; rfl)) z32
      have z101 : q_ir (q_r f65 mo 1) bu := Eq.trans (hF.r hmo (by rw [kmo]; rfl)) z33
      have z102 : q_ir (q_r f65 mo 13) sr := Eq.trans (hF.r hmo (by rw [kmo]; rfl)) z34
      have z103 : q_ir (q_r f65 mo 14) sd := Eq.trans (hF.r hmo (by rw [kmo]; rfl)) z35
      have z104 : q_ir (q_r f65 mo 15) as := Eq.trans (hF.r hmo (by rw [kmo]; rfl)) z36
      have z105 : q_ir (q_r f65 mo 16) aw := Eq.trans (hF.r hmo (by rw [kmo]; rfl)) z37
      have z106 : q_ir (q_r f65 mo 17) pa := Eq.trans (hF.r hmo (by rw [kmo]; rfl)) z38
      have z107 : q_ir (q_r f65 mo 18) nm := Eq.trans (hF.r hmo (by rw [kmo]; rfl)) z39
      have z108 : q_ir (q_r f65 mo 19) snm := Eq.trans (hF.r hmo (by rw [kmo]; rfl)) z40
      have z109 : q_ir (q_r f65 mo 20) anm := Eq.trans (hF.r hmo (by rw [kmo]; rfl)) z41
      have z110 : q_ir (q_r f65 mo 24) hp := Eq.trans (hF.r hmo (by rw [kmo]; rfl)) z42
      have z111 : q_ir (q_r f65 mo 25) dy := Eq.trans (hF.r hmo (by rw [kmo]; rfl)) z43
      have z112 : q_ir (q_r f65 mo 29) cs := Eq.trans (hF.r hmo (by rw [kmo]; rfl)) z44
      have z113 : q_ir (q_r f65 mo 30) c1 := Eq.trans (hF.r hmo (by rw [kmo]; rfl)) z45
      have z114 : q_ir (q_r f65 mo 31) c2 := Eq.trans (hF.r hmo (by rw [kmo]; rfl)) z46
      have z115 : q_ir (q_r f65 mo 32) c3 := Eq.trans (hF.r hmo (by rw [kmo]; rfl)) z47
      have z116 : q_ir (q_r f65 mo 33) bg := Eq.trans (hF.r hmo (by rw [kmo]; rfl)) z48
      have z117 : q_ir (q_r f65 mo 34) lp := Eq.trans (hF.r hmo (by rw [kmo]; rfl)) z49
      have z118 : q_ir (q_r f65 mo 38) rp := Eq.trans (hF.r hmo (by rw [kmo]; rfl)) z50
      have g119 : q_z f65 x 9 = q_z f65 mo 22 := tk_s2_tr g52 (hF.z hx (by rw [kx]; rfl)) (hF.z hmo (by rw [kmo]; rfl))
      have g120 : q_sv f65 mo sd := q_sv_tr g54 (hF.z hmo (by rw [kmo]; rfl)) (fun i9 => hF.z hsd (by rw [ksd]; rfl))
      have g121 : tk_bb f65 bu ba tn := tk_bb_tr g55 (fun i9 => hF.z hbu (by rw [kbu]; rfl)) (fun i9 => hF.z hba (by rw [kba]; rfl))
      have g122 : tk_ij K L f65 nds := tk_ij_tr g56 (fun i9 => hF.r hnds (by rw [knds]; rfl))
      have g123 : tk_c3 K L f65 cmds := tk_c3_tr g57 (fun i9 => hF.r hcmds (by rw [kcmds]; rfl))
      have g124 : tk_vn K L 5 f65 now ndn nl9 := tk_vn_tr g58 (hF.z hnow (by rw [know]; rfl)) (fun a9 h9 k9 => hF.j h9 (by rw [k9]; rfl)) (fun i9 => hF.r hndn (by rw [kndn]; rfl))
      have g125 : tk_vs K L f65 x sv nsv ls9 := tk_vs_tr g59 (hF.z hx (by rw [kx]; rfl)) (hF.z hsv (by rw [ksv]; rfl)) (fun a9 h9 k9 => hF.j h9 (by rw [k9]; rfl)) (fun i9 => hF.r hnsv (by rw [knsv]; rfl))
      have g126 : tk_nq f65 nm nl9 := tk_nq_tr g60 (fun i9 => hF.j hnm (by rw [knm]; rfl))
      have g127 : tk_rs f65 mo sd snm ls9 := tk_rs_tr g61 (hF.z hmo (by rw [kmo]; rfl)) (fun i9 h9 k9 => hF.z hsd (by rw [ksd]; exact q_inWr rfl h9 k9)) (fun i9 => hF.j hsnm (by rw [ksnm]; rfl))
      have g128 : tk_tb f65 ba B tn := tk_tb_tr g63 (fun i9 => hF.z hba (by rw [kba]; rfl))
      have g129 : tk_ub f65 bu B tn := tk_ub_tr g64 (fun i9 => hF.z hbu (by rw [kbu]; rfl))
      have g130 : tk_vk K L f65 hist ka now ndn := tk_vk_tr g12 (hF.z hhist (by rw [khist]; rfl)) (hF.z hhist (by rw [khist]; rfl)) (hF.z hnow (by rw [know]; rfl)) (fun a9 h9 k9 => hF.j h9 (by rw [k9]; rfl)) (fun i9 => hF.r hndn (by rw [kndn]; rfl)) (fun a9 h9 k9 => hF.z h9 (by rw [k9]; rfl)) (fun a9 h9 k9 => hF.j h9 (by rw [k9]; rfl)) (fun i9 => hF.r hka (by rw [kka]; rfl)) (fun a9 h9 k9 => hF.r h9 (by rw [k9]; rfl)) (fun a9 h9 k9 i9 => hF.r h9 (by rw [k9]; rfl))
      obtain ⟨x131, ex131⟩ : ∃ zz, q_is (q_z f65 sr 3) zz := ⟨_, q_isr _⟩
      obtain ⟨lx131, ux131⟩ := q_isb ex131 ⟨lz70, uz70⟩
      obtain ⟨x132, ex132⟩ : ∃ zz, q_is (q_z f65 sr 4) zz := ⟨_, q_isr _⟩
      obtain ⟨lx132, ux132⟩ := q_isb ex132 ⟨lz71, uz71⟩
      refine lv_istore (lv' := [(7, .int (q_i y66)), (6, .int (q_i 0)), (5, .int (q_i ii)), (4, .ref outD), (3, .ref out), (2, .ref mo), (1, .ref x), (0, .ref b)]) cx.1 cx.2.1 dL_law_351 hl (by decide) rfl (fun ls hl => ?_)
      refine lv_goto (tgt := 1493) cx.1 cx.2.1 dL_law_353 (by decide) ?_
      refine W.widen (k := cells + 6) (n := slots + 36) (by omega) (by omega) ?_
      exact kk f65 H locs ls 0 nl9 ls9 xc hB ⟨⟨z82, (Eq.trans z73 (by omega)), by omega, by omega⟩, g78, g79, g120, q_isu ex131 (by omega), q_isu ex132 (by omega), tk_bb_le g121 (by omega), z72, by omega, g124, g130, g125, g126, g127, g80, g119, (Eq.trans z83 (Eq.trans (by omega) (Eq.symm z75))), (Eq.trans z84 (Eq.trans (by omega) (Eq.symm z76)))⟩ (lv_sub hl [2, 3, 4, 5, 6, 7] rfl)
    · obtain ⟨qy66, lz133, uz133, lz134, uz134, z135, z136, z137, t138, g139, g140, g141⟩ := h69
      have z142 : q_is (q_z f65 sr 0) xc := Eq.trans (hF.z hsr (by rw [ksr]; rfl)) z14
      have z143 : q_is (q_z f65 so 1) 0 := Eq.trans (hF.z hso (by rw [kso]; rfl)) z8
      have z144 : q_is (q_z f65 so 2) 0 := Eq.trans (hF.z hso (by rw [kso]; rfl)) z9
      have z145 : q_is (q_z f65 so 3) (-1) := Eq.trans (hF.z hso (by rw [kso]; rfl)) z10
      have z146 : q_ir (q_r f65 x 0) so := Eq.trans (hF.r hx (by rw [kx]; rfl)) z17
      have z147 : q_ir (q_r f65 x 1) rd := Eq.trans (hF.r hx (by rw [kx]; rfl)) z18
      have z148 : q_ir (q_r f65 x 2) scr := Eq.trans (hF.r hx (by rw [kx]; rfl)) z19
      have z149 : q_ir (q_r f65 x 3) fc := Eq.trans (hF.r hx (by rw [kx]; rfl)) z20
      have z150 : q_ir (q_r f65 x 4) hist := Eq.trans (hF.r hx (by rw [kx]; rfl)) z21
      have z151 : q_ir (q_r f65 x 5) rep := Eq.trans (hF.r hx (by rw [kx]; rfl)) z22
      have z152 : q_ir (q_r f65 x 6) now := Eq.trans (hF.r hx (by rw [kx]; rfl)) z23
      have z153 : q_ir (q_r f65 x 7) dr := Eq.trans (hF.r hx (by rw [kx]; rfl)) z24
      have z154 : q_ir (q_r f65 x 8) sv := Eq.trans (hF.r hx (by rw [kx]; rfl)) z25
      have z155 : q_ir (q_r f65 fc 0) tr := Eq.trans (hF.r hfc (by rw [kfc]; rfl)) z26
      have z156 : q_ir (q_r f65 so 0) ba := Eq.trans (hF.r hso (by rw [kso]; rfl)) z27
      have z157 : q_ir (q_r f65 dr 0) nds := Eq.trans (hF.r hdr (by rw [kdr]; rfl)) z28
      have z158 : q_ir (q_r f65 hist 0) ka := Eq.trans (hF.r hhist (by rw [khist]; rfl)) z29
      have z159 : q_ir (q_r f65 now 0) ndn := Eq.trans (hF.r hnow (by rw [know]; rfl)) z30
      have z160 : q_ir (q_r f65 sv 0) nsv := Eq.trans (hF.r hsv (by rw [ksv]; rfl)) z31
      have z161 : q_ir (q_r f65 scr 0) cmds := Eq.trans (hF.r hscr (by rw [kscr]; rfl)) z32
      have z162 : q_ir (q_r f65 mo 1) bu := Eq.trans (hF.r hmo (by rw [kmo]; rfl)) z33
      have z163 : q_ir (q_r f65 mo 13) sr := Eq.trans (hF.r hmo (by rw [kmo]; rfl)) z34
      have z164 : q_ir (q_r f65 mo 14) sd := Eq.trans (hF.r hmo (by rw [kmo]; rfl)) z35
      have z165 : q_ir (q_r f65 mo 15) as := Eq.trans (hF.r hmo (by rw [kmo]; rfl)) z36
      have z166 : q_ir (q_r f65 mo 16) aw := Eq.trans (hF.r hmo (by rw [kmo]; rfl)) z37
      have z167 : q_ir (q_r f65 mo 17) pa := Eq.trans (hF.r hmo (by rw [kmo]; rfl)) z38
      have z168 : q_ir (q_r f65 mo 18) nm := Eq.trans (hF.r hmo (by rw [kmo]; rfl)) z39
      have z169 : q_ir (q_r f65 mo 19) snm := Eq.trans (hF.r hmo (by rw [kmo]; rfl)) z40
      have z170 : q_ir (q_r f65 mo 20) anm := Eq.trans (hF.r hmo (by rw [kmo]; rfl)) z41
      have z171 : q_ir (q_r f65 mo 24) hp := Eq.trans (hF.r hmo (by rw [kmo]; rfl)) z42
      have z172 : q_ir (q_r f65 mo 25) dy := Eq.trans (hF.r hmo (by rw [kmo]; rfl)) z43
      have z173 : q_ir (q_r f65 mo 29) cs := Eq.trans (hF.r hmo (by rw [kmo]; rfl)) z44
      have z174 : q_ir (q_r f65 mo 30) c1 := Eq.trans (hF.r hmo (by rw [kmo]; rfl)) z45
      have z175 : q_ir (q_r f65 mo 31) c2 := Eq.trans (hF.r hmo (by rw [kmo]; rfl)) z46
      have z176 : q_ir (q_r f65 mo 32) c3 := Eq.trans (hF.r hmo (by rw [kmo]; rfl)) z47
      have z177 : q_ir (q_r f65 mo 33) bg := Eq.trans (hF.r hmo (by rw [kmo]; rfl)) z48
      have z178 : q_ir (q_r f65 mo 34) lp := Eq.trans (hF.r hmo (by rw [kmo]; rfl)) z49
      have z179 : q_ir (q_r f65 mo 38) rp := Eq.trans (hF.r hmo (by rw [kmo]; rfl)) z50
      have g180 : q_z f65 x 9 = q_z f65 mo 22 := tk_s2_tr g52 (hF.z hx (by rw [kx]; rfl)) (hF.z hmo (by rw [kmo]; rfl))
      have g181 : q_sv f65 mo sd := q_sv_tr g54 (hF.z hmo (by rw [kmo]; rfl)) (fun i9 => hF.z hsd (by rw [ksd]; rfl))
      have g182 : tk_bb f65 bu ba tn := tk_bb_tr g55 (fun i9 => hF.z hbu (by rw [kbu]; rfl)) (fun i9 => hF.z hba (by rw [kba]; rfl))
      have g183 : tk_ij K L f65 nds := tk_ij_tr g56 (fun i9 => hF.r hnds (by rw [knds]; rfl))
      have g184 : tk_c3 K L f65 cmds := tk_c3_tr g57 (fun i9 => hF.r hcmds (by rw [kcmds]; rfl))
      have g185 : tk_vn K L 5 f65 now ndn nl9 := tk_vn_tr g58 (hF.z hnow (by rw [know]; rfl)) (fun a9 h9 k9 => hF.j h9 (by rw [k9]; rfl)) (fun i9 => hF.r hndn (by rw [kndn]; rfl))
      have g186 : tk_vs K L f65 x sv nsv ls9 := tk_vs_tr g59 (hF.z hx (by rw [kx]; rfl)) (hF.z hsv (by rw [ksv]; rfl)) (fun a9 h9 k9 => hF.j h9 (by rw [k9]; rfl)) (fun i9 => hF.r hnsv (by rw [knsv]; rfl))
      have g187 : tk_nq f65 nm nl9 := tk_nq_tr g60 (fun i9 => hF.j hnm (by rw [knm]; rfl))
      have g188 : tk_rs f65 mo sd snm ls9 := tk_rs_tr g61 (hF.z hmo (by rw [kmo]; rfl)) (fun i9 h9 k9 => hF.z hsd (by rw [ksd]; exact q_inWr rfl h9 k9)) (fun i9 => hF.j hsnm (by rw [ksnm]; rfl))
      have g189 : tk_tb f65 ba B tn := tk_tb_tr g63 (fun i9 => hF.z hba (by rw [kba]; rfl))
      have g190 : tk_ub f65 bu B tn := tk_ub_tr g64 (fun i9 => hF.z hbu (by rw [kbu]; rfl))
      have g191 : tk_vk K L f65 hist ka now ndn := tk_vk_tr g12 (hF.z hhist (by rw [khist]; rfl)) (hF.z hhist (by rw [khist]; rfl)) (hF.z hnow (by rw [know]; rfl)) (fun a9 h9 k9 => hF.j h9 (by rw [k9]; rfl)) (fun i9 => hF.r hndn (by rw [kndn]; rfl)) (fun a9 h9 k9 => hF.z h9 (by rw [k9]; rfl)) (fun a9 h9 k9 => hF.j h9 (by rw [k9]; rfl)) (fun i9 => hF.r hka (by rw [kka]; rfl)) (fun a9 h9 k9 => hF.r h9 (by rw [k9]; rfl)) (fun a9 h9 k9 i9 => hF.r h9 (by rw [k9]; rfl))
      obtain ⟨x192, ex192⟩ : ∃ zz, q_is (q_z f65 sr 3) zz := ⟨_, q_isr _⟩
      obtain ⟨lx192, ux192⟩ := q_isb ex192 ⟨lz133, uz133⟩
      obtain ⟨x193, ex193⟩ : ∃ zz, q_is (q_z f65 sr 4) zz := ⟨_, q_isr _⟩
      obtain ⟨lx193, ux193⟩ := q_isb ex193 ⟨lz134, uz134⟩
      subst qy66
      exact tk_no (t138.symm.trans t11)
  · obtain ⟨qy4, z194, t195, g196⟩ := h7
    have z197 : q_is (q_z f3 mo 2) tn := Eq.trans (hF.z hmo (by rw [kmo]; rfl)) hn1
    have z198 : q_is (q_z f3 sr 0) xc := Eq.trans (hF.z hsr (by rw [ksr]; rfl)) hsr0
    have z199 : q_is (q_z f3 sr 3) x1 := Eq.trans (hF.z hsr (by rw [ksr]; rfl)) ex1
    have z200 : q_is (q_z f3 sr 4) x2 := Eq.trans (hF.z hsr (by rw [ksr]; rfl)) ex2
    have z201 : q_ir (q_r f3 x 0) so := Eq.trans (hF.r hx (by rw [kx]; rfl)) hr0
    have z202 : q_ir (q_r f3 x 1) rd := Eq.trans (hF.r hx (by rw [kx]; rfl)) hr1
    have z203 : q_ir (q_r f3 x 2) scr := Eq.trans (hF.r hx (by rw [kx]; rfl)) hr2
    have z204 : q_ir (q_r f3 x 3) fc := Eq.trans (hF.r hx (by rw [kx]; rfl)) hr3
    have z205 : q_ir (q_r f3 x 4) hist := Eq.trans (hF.r hx (by rw [kx]; rfl)) hr4
    have z206 : q_ir (q_r f3 x 5) rep := Eq.trans (hF.r hx (by rw [kx]; rfl)) hr5
    have z207 : q_ir (q_r f3 x 6) now := Eq.trans (hF.r hx (by rw [kx]; rfl)) hr6
    have z208 : q_ir (q_r f3 x 7) dr := Eq.trans (hF.r hx (by rw [kx]; rfl)) hr7
    have z209 : q_ir (q_r f3 x 8) sv := Eq.trans (hF.r hx (by rw [kx]; rfl)) hr8
    have z210 : q_ir (q_r f3 fc 0) tr := Eq.trans (hF.r hfc (by rw [kfc]; rfl)) hr9
    have z211 : q_ir (q_r f3 so 0) ba := Eq.trans (hF.r hso (by rw [kso]; rfl)) hr10
    have z212 : q_ir (q_r f3 dr 0) nds := Eq.trans (hF.r hdr (by rw [kdr]; rfl)) hr11
    have z213 : q_ir (q_r f3 hist 0) ka := Eq.trans (hF.r hhist (by rw [khist]; rfl)) hr12
    have z214 : q_ir (q_r f3 now 0) ndn := Eq.trans (hF.r hnow (by rw [know]; rfl)) hr13
    have z215 : q_ir (q_r f3 sv 0) nsv := Eq.trans (hF.r hsv (by rw [ksv]; rfl)) hr14
    have z216 : q_ir (q_r f3 scr 0) cmds := Eq.trans (hF.r hscr (by rw [kscr]; rfl)) hr15
    have z217 : q_ir (q_r f3 mo 1) bu := Eq.trans (hF.r hmo (by rw [kmo]; rfl)) hr16
    have z218 : q_ir (q_r f3 mo 13) sr := Eq.trans (hF.r hmo (by rw [kmo]; rfl)) hr17
    have z219 : q_ir (q_r f3 mo 14) sd := Eq.trans (hF.r hmo (by rw [kmo]; rfl)) hr18
    have z220 : q_ir (q_r f3 mo 15) as := Eq.trans (hF.r hmo (by rw [kmo]; rfl)) hr19
    have z221 : q_ir (q_r f3 mo 16) aw := Eq.trans (hF.r hmo (by rw [kmo]; rfl)) hr20
    have z222 : q_ir (q_r f3 mo 17) pa := Eq.trans (hF.r hmo (by rw [kmo]; rfl)) hr21
    have z223 : q_ir (q_r f3 mo 18) nm := Eq.trans (hF.r hmo (by rw [kmo]; rfl)) hr22
    have z224 : q_ir (q_r f3 mo 19) snm := Eq.trans (hF.r hmo (by rw [kmo]; rfl)) hr23
    have z225 : q_ir (q_r f3 mo 20) anm := Eq.trans (hF.r hmo (by rw [kmo]; rfl)) hr24
    have z226 : q_ir (q_r f3 mo 24) hp := Eq.trans (hF.r hmo (by rw [kmo]; rfl)) hr25
    have z227 : q_ir (q_r f3 mo 25) dy := Eq.trans (hF.r hmo (by rw [kmo]; rfl)) hr26
    have z228 : q_ir (q_r f3 mo 29) cs := Eq.trans (hF.r hmo (by rw [kmo]; rfl)) hr27
    have z229 : q_ir (q_r f3 mo 30) c1 := Eq.trans (hF.r hmo (by rw [kmo]; rfl)) hr28
    have z230 : q_ir (q_r f3 mo 31) c2 := Eq.trans (hF.r hmo (by rw [kmo]; rfl)) hr29
    have z231 : q_ir (q_r f3 mo 32) c3 := Eq.trans (hF.r hmo (by rw [kmo]; rfl)) hr30
    have z232 : q_ir (q_r f3 mo 33) bg := Eq.trans (hF.r hmo (by rw [kmo]; rfl)) hr31
    have z233 : q_ir (q_r f3 mo 34) lp := Eq.trans (hF.r hmo (by rw [kmo]; rfl)) hr32
    have z234 : q_ir (q_r f3 mo 38) rp := Eq.trans (hF.r hmo (by rw [kmo]; rfl)) hr33
    have g235 : q_gr f3 sr := q_gr_fr hgr (fun i9 _ => hF.z hsr (by rw [ksr]; rfl))
    have g236 : q_z f3 x 9 = q_z f3 mo 22 := tk_s2_tr hs22 (hF.z hx (by rw [kx]; rfl)) (hF.z hmo (by rw [kmo]; rfl))
    have g237 : q_pk f3 mo pa := q_pk_tr hpk (hF.z hmo (by rw [kmo]; rfl)) (fun i9 => hF.z hpa (by rw [kpa]; rfl))
    have g238 : q_sv f3 mo sd := q_sv_tr hsd9 (hF.z hmo (by rw [kmo]; rfl)) (fun i9 => hF.z hsd (by rw [ksd]; rfl))
    have g239 : tk_bb f3 bu ba tn := tk_bb_tr hbb (fun i9 => hF.z hbu (by rw [kbu]; rfl)) (fun i9 => hF.z hba (by rw [kba]; rfl))
    have g240 : tk_ij K L f3 nds := tk_ij_tr hij (fun i9 => hF.r hnds (by rw [knds]; rfl))
    have g241 : tk_c3 K L f3 cmds := tk_c3_tr hcj (fun i9 => hF.r hcmds (by rw [kcmds]; rfl))
    have g242 : tk_vn K L 5 f3 now ndn nl9 := tk_vn_tr hvn (hF.z hnow (by rw [know]; rfl)) (fun a9 h9 k9 => hF.j h9 (by rw [k9]; rfl)) (fun i9 => hF.r hndn (by rw [kndn]; rfl))
    have g243 : tk_vs K L f3 x sv nsv ls9 := tk_vs_tr hvs (hF.z hx (by rw [kx]; rfl)) (hF.z hsv (by rw [ksv]; rfl)) (fun a9 h9 k9 => hF.j h9 (by rw [k9]; rfl)) (fun i9 => hF.r hnsv (by rw [knsv]; rfl))
    have g244 : tk_nq f3 nm nl9 := tk_nq_tr hrn9 (fun i9 => hF.j hnm (by rw [knm]; rfl))
    have g245 : tk_rs f3 mo sd snm ls9 := tk_rs_tr hrs9 (hF.z hmo (by rw [kmo]; rfl)) (fun i9 h9 k9 => hF.z hsd (by rw [ksd]; exact q_inWr rfl h9 k9)) (fun i9 => hF.j hsnm (by rw [ksnm]; rfl))
    have g246 : q_pc f3 mo pa xc := q_pc_tr hpc (hF.z hmo (by rw [kmo]; rfl)) (fun i9 => hF.z hpa (by rw [kpa]; rfl))
    have g247 : tk_tb f3 ba B tn := tk_tb_tr htb (fun i9 => hF.z hba (by rw [kba]; rfl))
    have g248 : tk_ub f3 bu B tn := tk_ub_tr hub (fun i9 => hF.z hbu (by rw [kbu]; rfl))
    subst qy4
    obtain ⟨x249, ex249⟩ : ∃ zz, q_is (q_z f3 so 2) zz := ⟨_, q_isr _⟩
    obtain ⟨lx249, ux249⟩ := q_isb ex249 (q_fib hB.2.1 hso kso (by decide) rfl)
    obtain ⟨x250, ex250⟩ : ∃ zz, q_is (q_z f3 so 3) zz := ⟨_, q_isr _⟩
    obtain ⟨lx250, ux250⟩ := q_isb ex250 (q_fib hB.2.1 hso kso (by decide) rfl)
    refine lv_istore (lv' := [(6, .int (q_i 1)), (5, .int (q_i ii)), (4, .ref outD), (3, .ref out), (2, .ref mo), (1, .ref x), (0, .ref b)]) cx.1 cx.2.1 dL_law_345 hl (by decide) rfl (fun ls hl => ?_)
    refine q_ald_n cx dL_law_347 rfl (lv_at hl 4 rfl) ?_
    refine q_cVi (As := []) (rest := []) cx hB (fun q h => hLA q h) hN hmo kmo (by decide) rfl (f_mrunScript l g hN hB.2.1 B nl9 mo hmo kmo sr hsr ksr nm hnm knm bu hbu kbu cs hcs kcs c1 hc1 kc1 c2 hc2 kc2 c3 hc3 kc3 bg hbg kbg lp hlp klp hp hhp khp dy hdy kdy as has kas pa hpa kpa x1 (by omega) (by omega) x2 (by omega) (by omega) xc (by omega) (by omega) tn (by omega) (by omega) z199 z200 z198 z197 z218 z223 z217 z228 z229 z230 z231 z232 z233 z226 z227 z220 z222 hxc g235 g237 g246 g248 g244) q_cL_134 q_dX12_runScript ⟨by decide, by show cells + 1 ≤ 601024; omega, by show slots + 6 ≤ 7293034; omega⟩ rfl rfl hl.1 rfl (Nat.le_of_ble_eq_true rfl) dL_law_348 (fun y252 H locs f251 ry252 h253 hF hB => ?_)
    rcases h253 with h254 | h255
    · obtain ⟨lz256, uz256, lz257, uz257, z258, z259, z260, z261, z262, t263, g264, g265, g266⟩ := h254
      have z267 : q_is (q_z f251 sr 0) xc := Eq.trans (hF.z hsr (by rw [ksr]; rfl)) z198
      have z268 : q_is (q_z f251 so 1) 0 := Eq.trans (hF.z hso (by rw [kso]; rfl)) z194
      have z269 : q_is (q_z f251 so 2) x249 := Eq.trans (hF.z hso (by rw [kso]; rfl)) ex249
      have z270 : q_is (q_z f251 so 3) x250 := Eq.trans (hF.z hso (by rw [kso]; rfl)) ex250
      have z271 : q_ir (q_r f251 x 0) so := Eq.trans (hF.r hx (by rw [kx]; rfl)) z201
      have z272 : q_ir (q_r f251 x 1) rd := Eq.trans (hF.r hx (by rw [kx]; rfl)) z202
      have z273 : q_ir (q_r f251 x 2) scr := Eq.trans (hF.r hx (by rw [kx]; rfl)) z203
      have z274 : q_ir (q_r f251 x 3) fc := Eq.trans (hF.r hx (by rw [kx]; rfl)) z204
      have z275 : q_ir (q_r f251 x 4) hist := Eq.trans (hF.r hx (by rw [kx]; rfl)) z205
      have z276 : q_ir (q_r f251 x 5) rep := Eq.trans (hF.r hx (by rw [kx]; rfl)) z206
      have z277 : q_ir (q_r f251 x 6) now := Eq.trans (hF.r hx (by rw [kx]; rfl)) z207
      have z278 : q_ir (q_r f251 x 7) dr := Eq.trans (hF.r hx (by rw [kx]; rfl)) z208
      have z279 : q_ir (q_r f251 x 8) sv := Eq.trans (hF.r hx (by rw [kx]; rfl)) z209
      have z280 : q_ir (q_r f251 fc 0) tr := Eq.trans (hF.r hfc (by rw [kfc]; rfl)) z210
      have z281 : q_ir (q_r f251 so 0) ba := Eq.trans (hF.r hso (by rw [kso]; rfl)) z211
      have z282 : q_ir (q_r f251 dr 0) nds := Eq.trans (hF.r hdr (by rw [kdr]; rfl)) z212
      have z283 : q_ir (q_r f251 hist 0) ka := Eq.trans (hF.r hhist (by rw [khist]; rfl)) z213
      have z284 : q_ir (q_r f251 now 0) ndn := Eq.trans (hF.r hnow (by rw [know]; rfl)) z214
      have z285 : q_ir (q_r f251 sv 0) nsv := Eq.trans (hF.r hsv (by rw [ksv]; rfl)) z215
      have z286 : q_ir (q_r f251 scr 0) cmds := Eq.trans (hF.r hscr (by rw [kscr]; rfl)) z216
      have z287 : q_ir (q_r f251 mo 1) bu := Eq.trans (hF.r hmo (by rw [kmo]; rfl)) z217
      have z288 : q_ir (q_r f251 mo 13) sr := Eq.trans (hF.r hmo (by rw [kmo]; rfl)) z218
      have z289 : q_ir (q_r f251 mo 14) sd := Eq.trans (hF.r hmo (by rw [kmo]; rfl)) z219
      have z290 : q_ir (q_r f251 mo 15) as := Eq.trans (hF.r hmo (by rw [kmo]; rfl)) z220
      have z291 : q_ir (q_r f251 mo 16) aw := Eq.trans (hF.r hmo (by rw [kmo]; rfl)) z221
      have z292 : q_ir (q_r f251 mo 17) pa := Eq.trans (hF.r hmo (by rw [kmo]; rfl)) z222
      have z293 : q_ir (q_r f251 mo 18) nm := Eq.trans (hF.r hmo (by rw [kmo]; rfl)) z223
      have z294 : q_ir (q_r f251 mo 19) snm := Eq.trans (hF.r hmo (by rw [kmo]; rfl)) z224
      have z295 : q_ir (q_r f251 mo 20) anm := Eq.trans (hF.r hmo (by rw [kmo]; rfl)) z225
      have z296 : q_ir (q_r f251 mo 24) hp := Eq.trans (hF.r hmo (by rw [kmo]; rfl)) z226
      have z297 : q_ir (q_r f251 mo 25) dy := Eq.trans (hF.r hmo (by rw [kmo]; rfl)) z227
      have z298 : q_ir (q_r f251 mo 29) cs := Eq.trans (hF.r hmo (by rw [kmo]; rfl)) z228
      have z299 : q_ir (q_r f251 mo 30) c1 := Eq.trans (hF.r hmo (by rw [kmo]; rfl)) z229
      have z300 : q_ir (q_r f251 mo 31) c2 := Eq.trans (hF.r hmo (by rw [kmo]; rfl)) z230
      have z301 : q_ir (q_r f251 mo 32) c3 := Eq.trans (hF.r hmo (by rw [kmo]; rfl)) z231
      have z302 : q_ir (q_r f251 mo 33) bg := Eq.trans (hF.r hmo (by rw [kmo]; rfl)) z232
      have z303 : q_ir (q_r f251 mo 34) lp := Eq.trans (hF.r hmo (by rw [kmo]; rfl)) z233
      have z304 : q_ir (q_r f251 mo 38) rp := Eq.trans (hF.r hmo (by rw [kmo]; rfl)) z234
      have g305 : q_z f251 x 9 = q_z f251 mo 22 := tk_s2_tr g236 (hF.z hx (by rw [kx]; rfl)) (hF.z hmo (by rw [kmo]; rfl))
      have g306 : q_sv f251 mo sd := q_sv_tr g238 (hF.z hmo (by rw [kmo]; rfl)) (fun i9 => hF.z hsd (by rw [ksd]; rfl))
      have g307 : tk_bb f251 bu ba tn := tk_bb_tr g239 (fun i9 => hF.z hbu (by rw [kbu]; rfl)) (fun i9 => hF.z hba (by rw [kba]; rfl))
      have g308 : tk_ij K L f251 nds := tk_ij_tr g240 (fun i9 => hF.r hnds (by rw [knds]; rfl))
      have g309 : tk_c3 K L f251 cmds := tk_c3_tr g241 (fun i9 => hF.r hcmds (by rw [kcmds]; rfl))
      have g310 : tk_vn K L 5 f251 now ndn nl9 := tk_vn_tr g242 (hF.z hnow (by rw [know]; rfl)) (fun a9 h9 k9 => hF.j h9 (by rw [k9]; rfl)) (fun i9 => hF.r hndn (by rw [kndn]; rfl))
      have g311 : tk_vs K L f251 x sv nsv ls9 := tk_vs_tr g243 (hF.z hx (by rw [kx]; rfl)) (hF.z hsv (by rw [ksv]; rfl)) (fun a9 h9 k9 => hF.j h9 (by rw [k9]; rfl)) (fun i9 => hF.r hnsv (by rw [knsv]; rfl))
      have g312 : tk_nq f251 nm nl9 := tk_nq_tr g244 (fun i9 => hF.j hnm (by rw [knm]; rfl))
      have g313 : tk_rs f251 mo sd snm ls9 := tk_rs_tr g245 (hF.z hmo (by rw [kmo]; rfl)) (fun i9 h9 k9 => hF.z hsd (by rw [ksd]; exact q_inWr rfl h9 k9)) (fun i9 => hF.j hsnm (by rw [ksnm]; rfl))
      have g314 : tk_tb f251 ba B tn := tk_tb_tr g247 (fun i9 => hF.z hba (by rw [kba]; rfl))
      have g315 : tk_ub f251 bu B tn := tk_ub_tr g248 (fun i9 => hF.z hbu (by rw [kbu]; rfl))
      have g316 : tk_vk K L f251 hist ka now ndn := tk_vk_tr g196 (hF.z hhist (by rw [khist]; rfl)) (hF.z hhist (by rw [khist]; rfl)) (hF.z hnow (by rw [know]; rfl)) (fun a9 h9 k9 => hF.j h9 (by rw [k9]; rfl)) (fun i9 => hF.r hndn (by rw [kndn]; rfl)) (fun a9 h9 k9 => hF.z h9 (by rw [k9]; rfl)) (fun a9 h9 k9 => hF.j h9 (by rw [k9]; rfl)) (fun i9 => hF.r hka (by rw [kka]; rfl)) (fun a9 h9 k9 => hF.r h9 (by rw [k9]; rfl)) (fun a9 h9 k9 i9 => hF.r h9 (by rw [k9]; rfl))
      obtain ⟨x317, ex317⟩ : ∃ zz, q_is (q_z f251 sr 3) zz := ⟨_, q_isr _⟩
      obtain ⟨lx317, ux317⟩ := q_isb ex317 ⟨lz256, uz256⟩
      obtain ⟨x318, ex318⟩ : ∃ zz, q_is (q_z f251 sr 4) zz := ⟨_, q_isr _⟩
      obtain ⟨lx318, ux318⟩ := q_isb ex318 ⟨lz257, uz257⟩
      exact tk_no ((tk_erx t195 ex249 ex250).symm.trans t263)
    · obtain ⟨qy252, lz319, uz319, lz320, uz320, z321, z322, z323, t324, g325, g326, g327⟩ := h255
      have z328 : q_is (q_z f251 sr 0) xc := Eq.trans (hF.z hsr (by rw [ksr]; rfl)) z198
      have z329 : q_is (q_z f251 so 1) 0 := Eq.trans (hF.z hso (by rw [kso]; rfl)) z194
      have z330 : q_is (q_z f251 so 2) x249 := Eq.trans (hF.z hso (by rw [kso]; rfl)) ex249
      have z331 : q_is (q_z f251 so 3) x250 := Eq.trans (hF.z hso (by rw [kso]; rfl)) ex250
      have z332 : q_ir (q_r f251 x 0) so := Eq.trans (hF.r hx (by rw [kx]; rfl)) z201
      have z333 : q_ir (q_r f251 x 1) rd := Eq.trans (hF.r hx (by rw [kx]; rfl)) z202
      have z334 : q_ir (q_r f251 x 2) scr := Eq.trans (hF.r hx (by rw [kx]; rfl)) z203
      have z335 : q_ir (q_r f251 x 3) fc := Eq.trans (hF.r hx (by rw [kx]; rfl)) z204
      have z336 : q_ir (q_r f251 x 4) hist := Eq.trans (hF.r hx (by rw [kx]; rfl)) z205
      have z337 : q_ir (q_r f251 x 5) rep := Eq.trans (hF.r hx (by rw [kx]; rfl)) z206
      have z338 : q_ir (q_r f251 x 6) now := Eq.trans (hF.r hx (by rw [kx]; rfl)) z207
      have z339 : q_ir (q_r f251 x 7) dr := Eq.trans (hF.r hx (by rw [kx]; rfl)) z208
      have z340 : q_ir (q_r f251 x 8) sv := Eq.trans (hF.r hx (by rw [kx]; rfl)) z209
      have z341 : q_ir (q_r f251 fc 0) tr := Eq.trans (hF.r hfc (by rw [kfc]; rfl)) z210
      have z342 : q_ir (q_r f251 so 0) ba := Eq.trans (hF.r hso (by rw [kso]; rfl)) z211
      have z343 : q_ir (q_r f251 dr 0) nds := Eq.trans (hF.r hdr (by rw [kdr]; rfl)) z212
      have z344 : q_ir (q_r f251 hist 0) ka := Eq.trans (hF.r hhist (by rw [khist]; rfl)) z213
      have z345 : q_ir (q_r f251 now 0) ndn := Eq.trans (hF.r hnow (by rw [know]; rfl)) z214
      have z346 : q_ir (q_r f251 sv 0) nsv := Eq.trans (hF.r hsv (by rw [ksv]; rfl)) z215
      have z347 : q_ir (q_r f251 scr 0) cmds := Eq.trans (hF.r hscr (by rw [kscr]; rfl)) z216
      have z348 : q_ir (q_r f251 mo 1) bu := Eq.trans (hF.r hmo (by rw [kmo]; rfl)) z217
      have z349 : q_ir (q_r f251 mo 13) sr := Eq.trans (hF.r hmo (by rw [kmo]; rfl)) z218
      have z350 : q_ir (q_r f251 mo 14) sd := Eq.trans (hF.r hmo (by rw [kmo]; rfl)) z219
      have z351 : q_ir (q_r f251 mo 15) as := Eq.trans (hF.r hmo (by rw [kmo]; rfl)) z220
      have z352 : q_ir (q_r f251 mo 16) aw := Eq.trans (hF.r hmo (by rw [kmo]; rfl)) z221
      have z353 : q_ir (q_r f251 mo 17) pa := Eq.trans (hF.r hmo (by rw [kmo]; rfl)) z222
      have z354 : q_ir (q_r f251 mo 18) nm := Eq.trans (hF.r hmo (by rw [kmo]; rfl)) z223
      have z355 : q_ir (q_r f251 mo 19) snm := Eq.trans (hF.r hmo (by rw [kmo]; rfl)) z224
      have z356 : q_ir (q_r f251 mo 20) anm := Eq.trans (hF.r hmo (by rw [kmo]; rfl)) z225
      have z357 : q_ir (q_r f251 mo 24) hp := Eq.trans (hF.r hmo (by rw [kmo]; rfl)) z226
      have z358 : q_ir (q_r f251 mo 25) dy := Eq.trans (hF.r hmo (by rw [kmo]; rfl)) z227
      have z359 : q_ir (q_r f251 mo 29) cs := Eq.trans (hF.r hmo (by rw [kmo]; rfl)) z228
      have z360 : q_ir (q_r f251 mo 30) c1 := Eq.trans (hF.r hmo (by rw [kmo]; rfl)) z229
      have z361 : q_ir (q_r f251 mo 31) c2 := Eq.trans (hF.r hmo (by rw [kmo]; rfl)) z230
      have z362 : q_ir (q_r f251 mo 32) c3 := Eq.trans (hF.r hmo (by rw [kmo]; rfl)) z231
      have z363 : q_ir (q_r f251 mo 33) bg := Eq.trans (hF.r hmo (by rw [kmo]; rfl)) z232
      have z364 : q_ir (q_r f251 mo 34) lp := Eq.trans (hF.r hmo (by rw [kmo]; rfl)) z233
      have z365 : q_ir (q_r f251 mo 38) rp := Eq.trans (hF.r hmo (by rw [kmo]; rfl)) z234
      have g366 : q_z f251 x 9 = q_z f251 mo 22 := tk_s2_tr g236 (hF.z hx (by rw [kx]; rfl)) (hF.z hmo (by rw [kmo]; rfl))
      have g367 : q_sv f251 mo sd := q_sv_tr g238 (hF.z hmo (by rw [kmo]; rfl)) (fun i9 => hF.z hsd (by rw [ksd]; rfl))
      have g368 : tk_bb f251 bu ba tn := tk_bb_tr g239 (fun i9 => hF.z hbu (by rw [kbu]; rfl)) (fun i9 => hF.z hba (by rw [kba]; rfl))
      have g369 : tk_ij K L f251 nds := tk_ij_tr g240 (fun i9 => hF.r hnds (by rw [knds]; rfl))
      have g370 : tk_c3 K L f251 cmds := tk_c3_tr g241 (fun i9 => hF.r hcmds (by rw [kcmds]; rfl))
      have g371 : tk_vn K L 5 f251 now ndn nl9 := tk_vn_tr g242 (hF.z hnow (by rw [know]; rfl)) (fun a9 h9 k9 => hF.j h9 (by rw [k9]; rfl)) (fun i9 => hF.r hndn (by rw [kndn]; rfl))
      have g372 : tk_vs K L f251 x sv nsv ls9 := tk_vs_tr g243 (hF.z hx (by rw [kx]; rfl)) (hF.z hsv (by rw [ksv]; rfl)) (fun a9 h9 k9 => hF.j h9 (by rw [k9]; rfl)) (fun i9 => hF.r hnsv (by rw [knsv]; rfl))
      have g373 : tk_nq f251 nm nl9 := tk_nq_tr g244 (fun i9 => hF.j hnm (by rw [knm]; rfl))
      have g374 : tk_rs f251 mo sd snm ls9 := tk_rs_tr g245 (hF.z hmo (by rw [kmo]; rfl)) (fun i9 h9 k9 => hF.z hsd (by rw [ksd]; exact q_inWr rfl h9 k9)) (fun i9 => hF.j hsnm (by rw [ksnm]; rfl))
      have g375 : tk_tb f251 ba B tn := tk_tb_tr g247 (fun i9 => hF.z hba (by rw [kba]; rfl))
      have g376 : tk_ub f251 bu B tn := tk_ub_tr g248 (fun i9 => hF.z hbu (by rw [kbu]; rfl))
      have g377 : tk_vk K L f251 hist ka now ndn := tk_vk_tr g196 (hF.z hhist (by rw [khist]; rfl)) (hF.z hhist (by rw [khist]; rfl)) (hF.z hnow (by rw [know]; rfl)) (fun a9 h9 k9 => hF.j h9 (by rw [k9]; rfl)) (fun i9 => hF.r hndn (by rw [kndn]; rfl)) (fun a9 h9 k9 => hF.z h9 (by rw [k9]; rfl)) (fun a9 h9 k9 => hF.j h9 (by rw [k9]; rfl)) (fun i9 => hF.r hka (by rw [kka]; rfl)) (fun a9 h9 k9 => hF.r h9 (by rw [k9]; rfl)) (fun a9 h9 k9 i9 => hF.r h9 (by rw [k9]; rfl))
      obtain ⟨x378, ex378⟩ : ∃ zz, q_is (q_z f251 sr 3) zz := ⟨_, q_isr _⟩
      obtain ⟨lx378, ux378⟩ := q_isb ex378 ⟨lz319, uz319⟩
      obtain ⟨x379, ex379⟩ : ∃ zz, q_is (q_z f251 sr 4) zz := ⟨_, q_isr _⟩
      obtain ⟨lx379, ux379⟩ := q_isb ex379 ⟨lz320, uz320⟩
      subst qy252
      obtain ⟨x381, ex381⟩ : ∃ zz, q_is (q_z f251 mo 10) zz := ⟨_, q_isr _⟩
      obtain ⟨lx381, ux381⟩ := q_isb ex381 (q_fib hB.2.1 hmo kmo (by decide) rfl)
      obtain ⟨x382, ex382⟩ : ∃ zz, q_is (q_z f251 mo 11) zz := ⟨_, q_isr _⟩
      obtain ⟨lx382, ux382⟩ := q_isb ex382 (q_fib hB.2.1 hmo kmo (by decide) rfl)
      have g380 := tk_ere ((tk_erx t195 ex249 ex250).symm.trans (tk_erx t324 ex381 ex382))
      refine lv_istore (lv' := [(7, .int (q_i 0)), (6, .int (q_i 1)), (5, .int (q_i ii)), (4, .ref outD), (3, .ref out), (2, .ref mo), (1, .ref x), (0, .ref b)]) cx.1 cx.2.1 dL_law_351 hl (by decide) rfl (fun ls hl => ?_)
      refine lv_goto (tgt := 1493) cx.1 cx.2.1 dL_law_353 (by decide) ?_
      refine W.widen (k := cells + 6) (n := slots + 36) (by omega) (by omega) ?_
      exact kk f251 H locs ls 0 nl9 ls9 xc hB ⟨⟨z329, (Eq.trans z322 (by omega)), by omega, by omega⟩, g325, g326, g367, q_isu ex378 (by omega), q_isu ex379 (by omega), tk_bb_le g368 (by omega), z321, by omega, g371, g377, g372, g373, g374, g327, g366, (Eq.trans z330 (Eq.trans (by omega) (Eq.symm ex381))), (Eq.trans z331 (Eq.trans (by omega) (Eq.symm ex382)))⟩ (lv_sub hl [2, 3, 4, 5, 6, 7] rfl)
set_option maxHeartbeats 4000000 in
set_option maxRecDepth 100000 in
theorem law_c356 {p : Program} {l : Launch} {e : Env} {s : State} {m : MethodId} {below : List Frame} {meth : Method} {c : Code} {b N9 : Nat} {xs : Nat → Int32} (hfl : l.stackTraces = false) (hN9 : N9 ≤ 3072) (C0 : lw_At p s m meth c b N9 xs) (cx : CallFix p m c cL_law 10 s #[Value.ref b] q_al RL) {g : q_G} {ad : Nat → Nat} {K : Nat → Nat} {L : List Nat} (hN : L.Nodup) (hLA : ∀ q, q ∈ L → s.heap.size ≤ q) (hX : q_X ad (fun q => q ∈ L) s) {f0 : Nat → va_E} {x : Nat} (hx : x ∈ L) (kx : K x = 11) {so : Nat} (hso : so ∈ L) (kso : K so = 8) {rd : Nat} (hrd : rd ∈ L) (krd : K rd = 9) {scr : Nat} (hscr : scr ∈ L) (kscr : K scr = 7) {fc : Nat} (hfc : fc ∈ L) (kfc : K fc = 1) {hist : Nat} (hhist : hist ∈ L) (khist : K hist = 2) {rep : Nat} (hrep : rep ∈ L) (krep : K rep = 6) {now : Nat} (hnow : now ∈ L) (know : K now = 10) {dr : Nat} (hdr : dr ∈ L) (kdr : K dr = 13) {sv : Nat} (hsv : sv ∈ L) (ksv : K sv = 14) {tr : Nat} (htr : tr ∈ L) (ktr : K tr = 15) {ba : Nat} (hba : ba ∈ L) (kba : K ba = 142) {nds : Nat} (hnds : nds ∈ L) (knds : K nds = 111) {ka : Nat} (hka : ka ∈ L) (kka : K ka = 140) {ndn : Nat} (hndn : ndn ∈ L) (kndn : K ndn = 110) {nsv : Nat} (hnsv : nsv ∈ L) (knsv : K nsv = 112) {cmds : Nat} (hcmds : cmds ∈ L) (kcmds : K cmds = 141) {mo : Nat} (hmo : mo ∈ L) (kmo : K mo = 12) {bu : Nat} (hbu : bu ∈ L) (kbu : K bu = 150) {sr : Nat} (hsr : sr ∈ L) (ksr : K sr = 151) {sd : Nat} (hsd : sd ∈ L) (ksd : K sd = 152) {as : Nat} (has : as ∈ L) (kas : K as = 153) {aw : Nat} (haw : aw ∈ L) (kaw : K aw = 154) {pa : Nat} (hpa : pa ∈ L) (kpa : K pa = 155) {nm : Nat} (hnm : nm ∈ L) (knm : K nm = 156) {snm : Nat} (hsnm : snm ∈ L) (ksnm : K snm = 157) {anm : Nat} (hanm : anm ∈ L) (kanm : K anm = 158) {hp : Nat} (hhp : hp ∈ L) (khp : K hp = 159) {dy : Nat} (hdy : dy ∈ L) (kdy : K dy = 160) {cs : Nat} (hcs : cs ∈ L) (kcs : K cs = 161) {c1 : Nat} (hc1 : c1 ∈ L) (kc1 : K c1 = 162) {c2 : Nat} (hc2 : c2 ∈ L) (kc2 : K c2 = 163) {c3 : Nat} (hc3 : c3 ∈ L) (kc3 : K c3 = 164) {bg : Nat} (hbg : bg ∈ L) (kbg : K bg = 165) {lp : Nat} (hlp : lp ∈ L) (klp : K lp = 166) {rp : Nat} (hrp : rp ∈ L) (krp : K rp = 167) {out : Nat} (hout : out ∈ L) (kout : K out = 168) {outD : Nat} (houtD : outD ∈ L) (koutD : K outD = 169) (hr0 : q_ir (q_r f0 x 0) so) (hr1 : q_ir (q_r f0 x 1) rd) (hr2 : q_ir (q_r f0 x 2) scr) (hr3 : q_ir (q_r f0 x 3) fc) (hr4 : q_ir (q_r f0 x 4) hist) (hr5 : q_ir (q_r f0 x 5) rep) (hr6 : q_ir (q_r f0 x 6) now) (hr7 : q_ir (q_r f0 x 7) dr) (hr8 : q_ir (q_r f0 x 8) sv) (hr9 : q_ir (q_r f0 fc 0) tr) (hr10 : q_ir (q_r f0 so 0) ba) (hr11 : q_ir (q_r f0 dr 0) nds) (hr12 : q_ir (q_r f0 hist 0) ka) (hr13 : q_ir (q_r f0 now 0) ndn) (hr14 : q_ir (q_r f0 sv 0) nsv) (hr15 : q_ir (q_r f0 scr 0) cmds) (hr16 : q_ir (q_r f0 mo 1) bu) (hr17 : q_ir (q_r f0 mo 13) sr) (hr18 : q_ir (q_r f0 mo 14) sd) (hr19 : q_ir (q_r f0 mo 15) as) (hr20 : q_ir (q_r f0 mo 16) aw) (hr21 : q_ir (q_r f0 mo 17) pa) (hr22 : q_ir (q_r f0 mo 18) nm) (hr23 : q_ir (q_r f0 mo 19) snm) (hr24 : q_ir (q_r f0 mo 20) anm) (hr25 : q_ir (q_r f0 mo 24) hp) (hr26 : q_ir (q_r f0 mo 25) dy) (hr27 : q_ir (q_r f0 mo 29) cs) (hr28 : q_ir (q_r f0 mo 30) c1) (hr29 : q_ir (q_r f0 mo 31) c2) (hr30 : q_ir (q_r f0 mo 32) c3) (hr31 : q_ir (q_r f0 mo 33) bg) (hr32 : q_ir (q_r f0 mo 34) lp) (hr33 : q_ir (q_r f0 mo 38) rp) (hij : tk_ij K L f0 nds) (hcj : tk_c3 K L f0 cmds) {f : Nat → va_E} {H : Heap} {locs : List Loc} {ls : Array Slot} {cells slots : Nat} {ii tn : Int} {nl9 ls9 : List (List Int)} {xc : Int} (hB : q_B g K L (fun q => s.heap.size ≤ q) [(0, 0, 6), (2, 1, 2), (3, 0, 4), (4, 0, 7), (5, 0, 9), (6, 1, 1), (7, 1, 4), (8, 1, 9), (9, 0, 2), (10, 3, 15), (11, 9, 9), (12, 0, 0), (12, 2, 12), (12, 21, 23), (12, 26, 28), (12, 35, 37), (12, 39, 40), (13, 3, 15), (14, 3, 15), (15, 3, 15), (16, 3, 15), (17, 0, 9), (18, 0, 9), (19, 0, 9), (20, 0, 9), (21, 0, 4), (22, 0, 4), (23, 0, 4), (24, 0, 4), (25, 0, 7), (26, 0, 7), (27, 0, 7), (28, 0, 7), (142, 0, 599), (143, 0, 599), (150, 0, 599), (151, 0, 657), (152, 0, 657), (153, 0, 657), (154, 0, 657), (155, 0, 3947), (156, 0, 9), (157, 0, 9), (158, 0, 9), (159, 0, 9), (160, 0, 9), (161, 0, 59), (162, 0, 58), (163, 0, 58), (164, 0, 58), (165, 0, 1), (166, 0, 1), (167, 0, 479), (168, 0, 0), (169, 0, 0)] f0 f s H locs) (hI : q_Iv6 K L f x so mo sr pa sd bu ba now ndn hist ka sv nsv nm snm tn nl9 ls9 xc) (hl : lv_has ls 10 [(5, .int (q_i ii)), (4, .ref outD), (3, .ref out), (2, .ref mo), (1, .ref x), (0, .ref b)]) (hi0 : 0 ≤ ii) (hi6 : ii + 6 ≤ N9) (hce : cells + 6 ≤ 10000) (hse : slots + 36 ≤ 100000) (kk : ∀ (f1 : Nat → va_E) (H1 : Heap) (locs1 : List Loc) (ls1 : Array Slot) (tn1 : Int) (nl1 ls1_ : List (List Int)) (xc1 : Int), q_B g K L (fun q => s.heap.size ≤ q) [(0, 0, 6), (2, 1, 2), (3, 0, 4), (4, 0, 7), (5, 0, 9), (6, 1, 1), (7, 1, 4), (8, 1, 9), (9, 0, 2), (10, 3, 15), (11, 9, 9), (12, 0, 0), (12, 2, 12), (12, 21, 23), (12, 26, 28), (12, 35, 37), (12, 39, 40), (13, 3, 15), (14, 3, 15), (15, 3, 15), (16, 3, 15), (17, 0, 9), (18, 0, 9), (19, 0, 9), (20, 0, 9), (21, 0, 4), (22, 0, 4), (23, 0, 4), (24, 0, 4), (25, 0, 7), (26, 0, 7), (27, 0, 7), (28, 0, 7), (142, 0, 599), (143, 0, 599), (150, 0, 599), (151, 0, 657), (152, 0, 657), (153, 0, 657), (154, 0, 657), (155, 0, 3947), (156, 0, 9), (157, 0, 9), (158, 0, 9), (159, 0, 9), (160, 0, 9), (161, 0, 59), (162, 0, 58), (163, 0, 58), (164, 0, 58), (165, 0, 1), (166, 0, 1), (167, 0, 479), (168, 0, 0), (169, 0, 0)] f0 f1 s H1 locs1 → q_Iv6 K L f1 x so mo sr pa sd bu ba now ndn hist ka sv nsv nm snm tn1 nl1 ls1_ xc1 → lv_has ls1 10 [(5, .int (q_i ii)), (4, .ref outD), (3, .ref out), (2, .ref mo), (1, .ref x), (0, .ref b)] → W p l e room_1 s m #[Value.ref b] below meth c H1 locs1 (cells + 6) (slots + 36) (lw_Z below #[Value.ref b] s) (F0 m 1493 ls1 [])) : W p l e room_1 s m #[Value.ref b] below meth c H locs (cells) (slots) (lw_Z below #[Value.ref b] s) (F0 m 356 ls []) := by
  have hXs := C0.2.2.2.2.2.2.1
  have hbl := C0.2.2.2.2.2.2.2.1
  have hbA := q_bA hbl
  obtain ⟨⟨hn0, hn1, ltn, utn⟩, hgr, hpk, hsd9, ht3, ht4, hbb, hsr0, hxc, hvn, hvk, hvs, hrn9, hrs9, hpc, hs22, he2, he3⟩ := hI
  have lxc : 0 ≤ xc := by omega
  have uxc : xc ≤ 10 := by have h7 := hvn.2.1.2; omega
  have hr0 : q_ir (q_r f x 0) so := Eq.trans (hB.2.2.r hx (by rw [kx]; rfl)) hr0
  have hr1 : q_ir (q_r f x 1) rd := Eq.trans (hB.2.2.r hx (by rw [kx]; rfl)) hr1
  have hr2 : q_ir (q_r f x 2) scr := Eq.trans (hB.2.2.r hx (by rw [kx]; rfl)) hr2
  have hr3 : q_ir (q_r f x 3) fc := Eq.trans (hB.2.2.r hx (by rw [kx]; rfl)) hr3
  have hr4 : q_ir (q_r f x 4) hist := Eq.trans (hB.2.2.r hx (by rw [kx]; rfl)) hr4
  have hr5 : q_ir (q_r f x 5) rep := Eq.trans (hB.2.2.r hx (by rw [kx]; rfl)) hr5
  have hr6 : q_ir (q_r f x 6) now := Eq.trans (hB.2.2.r hx (by rw [kx]; rfl)) hr6
  have hr7 : q_ir (q_r f x 7) dr := Eq.trans (hB.2.2.r hx (by rw [kx]; rfl)) hr7
  have hr8 : q_ir (q_r f x 8) sv := Eq.trans (hB.2.2.r hx (by rw [kx]; rfl)) hr8
  have hr9 : q_ir (q_r f fc 0) tr := Eq.trans (hB.2.2.r hfc (by rw [kfc]; rfl)) hr9
  have hr10 : q_ir (q_r f so 0) ba := Eq.trans (hB.2.2.r hso (by rw [kso]; rfl)) hr10
  have hr11 : q_ir (q_r f dr 0) nds := Eq.trans (hB.2.2.r hdr (by rw [kdr]; rfl)) hr11
  have hr12 : q_ir (q_r f hist 0) ka := Eq.trans (hB.2.2.r hhist (by rw [khist]; rfl)) hr12
  have hr13 : q_ir (q_r f now 0) ndn := Eq.trans (hB.2.2.r hnow (by rw [know]; rfl)) hr13
  have hr14 : q_ir (q_r f sv 0) nsv := Eq.trans (hB.2.2.r hsv (by rw [ksv]; rfl)) hr14
  have hr15 : q_ir (q_r f scr 0) cmds := Eq.trans (hB.2.2.r hscr (by rw [kscr]; rfl)) hr15
  have hr16 : q_ir (q_r f mo 1) bu := Eq.trans (hB.2.2.r hmo (by rw [kmo]; rfl)) hr16
  have hr17 : q_ir (q_r f mo 13) sr := Eq.trans (hB.2.2.r hmo (by rw [kmo]; rfl)) hr17
  have hr18 : q_ir (q_r f mo 14) sd := Eq.trans (hB.2.2.r hmo (by rw [kmo]; rfl)) hr18
  have hr19 : q_ir (q_r f mo 15) as := Eq.trans (hB.2.2.r hmo (by rw [kmo]; rfl)) hr19
  have hr20 : q_ir (q_r f mo 16) aw := Eq.trans (hB.2.2.r hmo (by rw [kmo]; rfl)) hr20
  have hr21 : q_ir (q_r f mo 17) pa := Eq.trans (hB.2.2.r hmo (by rw [kmo]; rfl)) hr21
  have hr22 : q_ir (q_r f mo 18) nm := Eq.trans (hB.2.2.r hmo (by rw [kmo]; rfl)) hr22
  have hr23 : q_ir (q_r f mo 19) snm := Eq.trans (hB.2.2.r hmo (by rw [kmo]; rfl)) hr23
  have hr24 : q_ir (q_r f mo 20) anm := Eq.trans (hB.2.2.r hmo (by rw [kmo]; rfl)) hr24
  have hr25 : q_ir (q_r f mo 24) hp := Eq.trans (hB.2.2.r hmo (by rw [kmo]; rfl)) hr25
  have hr26 : q_ir (q_r f mo 25) dy := Eq.trans (hB.2.2.r hmo (by rw [kmo]; rfl)) hr26
  have hr27 : q_ir (q_r f mo 29) cs := Eq.trans (hB.2.2.r hmo (by rw [kmo]; rfl)) hr27
  have hr28 : q_ir (q_r f mo 30) c1 := Eq.trans (hB.2.2.r hmo (by rw [kmo]; rfl)) hr28
  have hr29 : q_ir (q_r f mo 31) c2 := Eq.trans (hB.2.2.r hmo (by rw [kmo]; rfl)) hr29
  have hr30 : q_ir (q_r f mo 32) c3 := Eq.trans (hB.2.2.r hmo (by rw [kmo]; rfl)) hr30
  have hr31 : q_ir (q_r f mo 33) bg := Eq.trans (hB.2.2.r hmo (by rw [kmo]; rfl)) hr31
  have hr32 : q_ir (q_r f mo 34) lp := Eq.trans (hB.2.2.r hmo (by rw [kmo]; rfl)) hr32
  have hr33 : q_ir (q_r f mo 38) rp := Eq.trans (hB.2.2.r hmo (by rw [kmo]; rfl)) hr33
  have hij : tk_ij K L f nds := tk_ij_tr hij (fun i9 => hB.2.2.r hnds (by rw [knds]; rfl))
  have hcj : tk_c3 K L f cmds := tk_c3_tr hcj (fun i9 => hB.2.2.r hcmds (by rw [kcmds]; rfl))
  obtain ⟨x1, ex1⟩ : ∃ zz, q_is (q_z f so 2) zz := ⟨_, q_isr _⟩
  obtain ⟨lx1, ux1⟩ := q_isb ex1 (q_fib hB.2.1 hso kso (by decide) rfl)
  have hek9 : q_is (q_z f mo 10) x1 := Eq.trans (Eq.symm he2) ex1
  obtain ⟨x2, ex2⟩ : ∃ zz, q_is (q_z f sr 3) zz := ⟨_, q_isr _⟩
  obtain ⟨lx2, ux2⟩ : 0 ≤ x2 ∧ x2 ≤ 9999 := q_isb ex2 ⟨(hgr 3 (by decide)).1, ht3⟩
  obtain ⟨x3, ex3⟩ : ∃ zz, q_is (q_z f sr 4) zz := ⟨_, q_isr _⟩
  obtain ⟨lx3, ux3⟩ : 0 ≤ x3 ∧ x3 ≤ 60 := q_isb ex3 ⟨(hgr 4 (by decide)).1, ht4⟩
  refine q_ald_n cx dL_law_356 rfl (lv_at hl 4 rfl) ?_
  refine q_cVi (As := []) (rest := []) cx hB (fun q h => hLA q h) hN hx kx (by decide) rfl (f_xerrorCode l g hN hB.2.1 x hx kx so hso kso rd hrd krd scr hscr kscr fc hfc kfc hist hhist khist rep hrep krep now hnow know dr hdr kdr sv hsv ksv tr htr ktr ba hba kba nds hnds knds ka hka kka ndn hndn kndn nsv hnsv knsv cmds hcmds kcmds x1 (by omega) (by omega) ex1 hr0 hr1 hr2 hr3 hr4 hr5 hr6 hr7 hr8 hr9 hr10 hr11 hr12 hr13 hr14 hr15) q_cL_135 q_dX11_errorCode ⟨by decide, by show cells + 0 ≤ 601024; omega, by show slots + 0 ≤ 7293034; omega⟩ rfl rfl hl.1 rfl (Nat.le_of_ble_eq_true rfl) dL_law_357 (fun y5 H locs f4 ry5 h6 hF hB => ?_)
  obtain ⟨rfl, qy5⟩ := h6
  refine lv_pop cx.1 cx.2.1 dL_law_360 rfl ?_
  refine q_ald_n cx dL_law_361 rfl (lv_at hl 3 rfl) ?_
  refine q_cVi (As := []) (rest := []) cx hB (fun q h => hLA q h) hN hmo kmo (by decide) rfl (f_merrorCode l g hN hB.2.1 mo hmo kmo x1 (by omega) (by omega) hek9) q_cL_138 q_dX12_errorCode ⟨by decide, by show cells + 0 ≤ 601024; omega, by show slots + 0 ≤ 7293034; omega⟩ rfl rfl hl.1 rfl (Nat.le_of_ble_eq_true rfl) dL_law_362 (fun y8 H locs f7 ry8 h9 hF hB => ?_)
  obtain ⟨qy8, z10⟩ := h9
  have z11 : q_is (q_z f7 so 1) tn := Eq.trans (hF.z hso (by rw [kso]; rfl)) hn0
  have z12 : q_is (q_z f7 mo 2) tn := Eq.trans (hF.z hmo (by rw [kmo]; rfl)) hn1
  have z13 : q_is (q_z f7 sr 0) xc := Eq.trans (hF.z hsr (by rw [ksr]; rfl)) hsr0
  have z14 : q_is (q_z f7 so 2) x1 := Eq.trans (hF.z hso (by rw [kso]; rfl)) ex1
  have z15 : q_is (q_z f7 mo 10) x1 := Eq.trans (hF.z hmo (by rw [kmo]; rfl)) hek9
  have z16 : q_is (q_z f7 sr 3) x2 := Eq.trans (hF.z hsr (by rw [ksr]; rfl)) ex2
  have z17 : q_is (q_z f7 sr 4) x3 := Eq.trans (hF.z hsr (by rw [ksr]; rfl)) ex3
  have z18 : q_ir (q_r f7 x 0) so := Eq.trans (hF.r hx (by rw [kx]; rfl)) hr0
  have z19 : q_ir (q_r f7 x 1) rd := Eq.trans (hF.r hx (by rw [kx]; rfl)) hr1
  have z20 : q_ir (q_r f7 x 2) scr := Eq.trans (hF.r hx (by rw [kx]; rfl)) hr2
  have z21 : q_ir (q_r f7 x 3) fc := Eq.trans (hF.r hx (by rw [kx]; rfl)) hr3
  have z22 : q_ir (q_r f7 x 4) hist := Eq.trans (hF.r hx (by rw [kx]; rfl)) hr4
  have z23 : q_ir (q_r f7 x 5) rep := Eq.trans (hF.r hx (by rw [kx]; rfl)) hr5
  have z24 : q_ir (q_r f7 x 6) now := Eq.trans (hF.r hx (by rw [kx]; rfl)) hr6
  have z25 : q_ir (q_r f7 x 7) dr := Eq.trans (hF.r hx (by rw [kx]; rfl)) hr7
  have z26 : q_ir (q_r f7 x 8) sv := Eq.trans (hF.r hx (by rw [kx]; rfl)) hr8
  have z27 : q_ir (q_r f7 fc 0) tr := Eq.trans (hF.r hfc (by rw [kfc]; rfl)) hr9
  have z28 : q_ir (q_r f7 so 0) ba := Eq.trans (hF.r hso (by rw [kso]; rfl)) hr10
  have z29 : q_ir (q_r f7 dr 0) nds := Eq.trans (hF.r hdr (by rw [kdr]; rfl)) hr11
  have z30 : q_ir (q_r f7 hist 0) ka := Eq.trans (hF.r hhist (by rw [khist]; rfl)) hr12
  have z31 : q_ir (q_r f7 now 0) ndn := Eq.trans (hF.r hnow (by rw [know]; rfl)) hr13
  have z32 : q_ir (q_r f7 sv 0) nsv := Eq.trans (hF.r hsv (by rw [ksv]; rfl)) hr14
  have z33 : q_ir (q_r f7 scr 0) cmds := Eq.trans (hF.r hscr (by rw [kscr]; rfl)) hr15
  have z34 : q_ir (q_r f7 mo 1) bu := Eq.trans (hF.r hmo (by rw [kmo]; rfl)) hr16
  have z35 : q_ir (q_r f7 mo 13) sr := Eq.trans (hF.r hmo (by rw [kmo]; rfl)) hr17
  have z36 : q_ir (q_r f7 mo 14) sd := Eq.trans (hF.r hmo (by rw [kmo]; rfl)) hr18
  have z37 : q_ir (q_r f7 mo 15) as := Eq.trans (hF.r hmo (by rw [kmo]; rfl)) hr19
  have z38 : q_ir (q_r f7 mo 16) aw := Eq.trans (hF.r hmo (by rw [kmo]; rfl)) hr20
  have z39 : q_ir (q_r f7 mo 17) pa := Eq.trans (hF.r hmo (by rw [kmo]; rfl)) hr21
  have z40 : q_ir (q_r f7 mo 18) nm := Eq.trans (hF.r hmo (by rw [kmo]; rfl)) hr22
  have z41 : q_ir (q_r f7 mo 19) snm := Eq.trans (hF.r hmo (by rw [kmo]; rfl)) hr23
  have z42 : q_ir (q_r f7 mo 20) anm := Eq.trans (hF.r hmo (by rw [kmo]; rfl)) hr24
  have z43 : q_ir (q_r f7 mo 24) hp := Eq.trans (hF.r hmo (by rw [kmo]; rfl)) hr25
  have z44 : q_ir (q_r f7 mo 25) dy := Eq.trans (hF.r hmo (by rw [kmo]; rfl)) hr26
  have z45 : q_ir (q_r f7 mo 29) cs := Eq.trans (hF.r hmo (by rw [kmo]; rfl)) hr27
  have z46 : q_ir (q_r f7 mo 30) c1 := Eq.trans (hF.r hmo (by rw [kmo]; rfl)) hr28
  have z47 : q_ir (q_r f7 mo 31) c2 := Eq.trans (hF.r hmo (by rw [kmo]; rfl)) hr29
  have z48 : q_ir (q_r f7 mo 32) c3 := Eq.trans (hF.r hmo (by rw [kmo]; rfl)) hr30
  have z49 : q_ir (q_r f7 mo 33) bg := Eq.trans (hF.r hmo (by rw [kmo]; rfl)) hr31
  have z50 : q_ir (q_r f7 mo 34) lp := Eq.trans (hF.r hmo (by rw [kmo]; rfl)) hr32
  have z51 : q_ir (q_r f7 mo 38) rp := Eq.trans (hF.r hmo (by rw [kmo]; rfl)) hr33
  have g52 : q_gr f7 sr := q_gr_fr hgr (fun i9 _ => hF.z hsr (by rw [ksr]; rfl))
  have g53 : q_z f7 x 9 = q_z f7 mo 22 := tk_s2_tr hs22 (hF.z hx (by rw [kx]; rfl)) (hF.z hmo (by rw [kmo]; rfl))
  have g54 : q_pk f7 mo pa := q_pk_tr hpk (hF.z hmo (by rw [kmo]; rfl)) (fun i9 => hF.z hpa (by rw [kpa]; rfl))
  have g55 : q_sv f7 mo sd := q_sv_tr hsd9 (hF.z hmo (by rw [kmo]; rfl)) (fun i9 => hF.z hsd (by rw [ksd]; rfl))
  have g56 : tk_bb f7 bu ba tn := tk_bb_tr hbb (fun i9 => hF.z hbu (by rw [kbu]; rfl)) (fun i9 => hF.z hba (by rw [kba]; rfl))
  have g57 : tk_ij K L f7 nds := tk_ij_tr hij (fun i9 => hF.r hnds (by rw [knds]; rfl))
  have g58 : tk_c3 K L f7 cmds := tk_c3_tr hcj (fun i9 => hF.r hcmds (by rw [kcmds]; rfl))
  have g59 : q_z f7 so 2 = q_z f7 mo 10 := tk_e2_tr he2 (hF.z hso (by rw [kso]; rfl)) (hF.z hmo (by rw [kmo]; rfl))
  have g60 : q_z f7 so 3 = q_z f7 mo 11 := tk_e2_tr he3 (hF.z hso (by rw [kso]; rfl)) (hF.z hmo (by rw [kmo]; rfl))
  have g61 : tk_vn K L 5 f7 now ndn nl9 := tk_vn_tr hvn (hF.z hnow (by rw [know]; rfl)) (fun a9 h9 k9 => hF.j h9 (by rw [k9]; rfl)) (fun i9 => hF.r hndn (by rw [kndn]; rfl))
  have g62 : tk_vk K L f7 hist ka now ndn := tk_vk_tr hvk (hF.z hhist (by rw [khist]; rfl)) (hF.z hhist (by rw [khist]; rfl)) (hF.z hnow (by rw [know]; rfl)) (fun a9 h9 k9 => hF.j h9 (by rw [k9]; rfl)) (fun i9 => hF.r hndn (by rw [kndn]; rfl)) (fun a9 h9 k9 => hF.z h9 (by rw [k9]; rfl)) (fun a9 h9 k9 => hF.j h9 (by rw [k9]; rfl)) (fun i9 => hF.r hka (by rw [kka]; rfl)) (fun a9 h9 k9 => hF.r h9 (by rw [k9]; rfl)) (fun a9 h9 k9 i9 => hF.r h9 (by rw [k9]; rfl))
  have g63 : tk_vs K L f7 x sv nsv ls9 := tk_vs_tr hvs (hF.z hx (by rw [kx]; rfl)) (hF.z hsv (by rw [ksv]; rfl)) (fun a9 h9 k9 => hF.j h9 (by rw [k9]; rfl)) (fun i9 => hF.r hnsv (by rw [knsv]; rfl))
  have g64 : tk_nq f7 nm nl9 := tk_nq_tr hrn9 (fun i9 => hF.j hnm (by rw [knm]; rfl))
  have g65 : tk_rs f7 mo sd snm ls9 := tk_rs_tr hrs9 (hF.z hmo (by rw [kmo]; rfl)) (fun i9 h9 k9 => hF.z hsd (by rw [ksd]; exact q_inWr rfl h9 k9)) (fun i9 => hF.j hsnm (by rw [ksnm]; rfl))
  have g66 : q_pc f7 mo pa xc := q_pc_tr hpc (hF.z hmo (by rw [kmo]; rfl)) (fun i9 => hF.z hpa (by rw [kpa]; rfl))
  refine lv_pop cx.1 cx.2.1 dL_law_365 rfl ?_
  refine lv_goto (tgt := 1493) cx.1 cx.2.1 dL_law_366 (by decide) ?_
  refine W.widen (k := cells + 6) (n := slots + 36) (by omega) (by omega) ?_
  exact kk f7 H locs ls tn nl9 ls9 xc hB ⟨⟨z11, (Eq.trans z12 (by omega)), by omega, by omega⟩, g52, g54, g55, q_isu z16 (by omega), q_isu z17 (by omega), tk_bb_le g56 (by omega), z13, by omega, g61, g62, g63, g64, g65, g66, g53, (Eq.trans z14 (Eq.trans (by omega) (Eq.symm z15))), g60⟩ (lv_sub hl [0, 1, 2, 3, 4, 5] rfl)
set_option maxHeartbeats 4000000 in
set_option maxRecDepth 100000 in
theorem law_c369 {p : Program} {l : Launch} {e : Env} {s : State} {m : MethodId} {below : List Frame} {meth : Method} {c : Code} {b N9 : Nat} {xs : Nat → Int32} (hfl : l.stackTraces = false) (hN9 : N9 ≤ 3072) (C0 : lw_At p s m meth c b N9 xs) (cx : CallFix p m c cL_law 10 s #[Value.ref b] q_al RL) {g : q_G} {ad : Nat → Nat} {K : Nat → Nat} {L : List Nat} (hN : L.Nodup) (hLA : ∀ q, q ∈ L → s.heap.size ≤ q) (hX : q_X ad (fun q => q ∈ L) s) {f0 : Nat → va_E} {x : Nat} (hx : x ∈ L) (kx : K x = 11) {so : Nat} (hso : so ∈ L) (kso : K so = 8) {rd : Nat} (hrd : rd ∈ L) (krd : K rd = 9) {scr : Nat} (hscr : scr ∈ L) (kscr : K scr = 7) {fc : Nat} (hfc : fc ∈ L) (kfc : K fc = 1) {hist : Nat} (hhist : hist ∈ L) (khist : K hist = 2) {rep : Nat} (hrep : rep ∈ L) (krep : K rep = 6) {now : Nat} (hnow : now ∈ L) (know : K now = 10) {dr : Nat} (hdr : dr ∈ L) (kdr : K dr = 13) {sv : Nat} (hsv : sv ∈ L) (ksv : K sv = 14) {tr : Nat} (htr : tr ∈ L) (ktr : K tr = 15) {ba : Nat} (hba : ba ∈ L) (kba : K ba = 142) {nds : Nat} (hnds : nds ∈ L) (knds : K nds = 111) {ka : Nat} (hka : ka ∈ L) (kka : K ka = 140) {ndn : Nat} (hndn : ndn ∈ L) (kndn : K ndn = 110) {nsv : Nat} (hnsv : nsv ∈ L) (knsv : K nsv = 112) {cmds : Nat} (hcmds : cmds ∈ L) (kcmds : K cmds = 141) {mo : Nat} (hmo : mo ∈ L) (kmo : K mo = 12) {bu : Nat} (hbu : bu ∈ L) (kbu : K bu = 150) {sr : Nat} (hsr : sr ∈ L) (ksr : K sr = 151) {sd : Nat} (hsd : sd ∈ L) (ksd : K sd = 152) {as : Nat} (has : as ∈ L) (kas : K as = 153) {aw : Nat} (haw : aw ∈ L) (kaw : K aw = 154) {pa : Nat} (hpa : pa ∈ L) (kpa : K pa = 155) {nm : Nat} (hnm : nm ∈ L) (knm : K nm = 156) {snm : Nat} (hsnm : snm ∈ L) (ksnm : K snm = 157) {anm : Nat} (hanm : anm ∈ L) (kanm : K anm = 158) {hp : Nat} (hhp : hp ∈ L) (khp : K hp = 159) {dy : Nat} (hdy : dy ∈ L) (kdy : K dy = 160) {cs : Nat} (hcs : cs ∈ L) (kcs : K cs = 161) {c1 : Nat} (hc1 : c1 ∈ L) (kc1 : K c1 = 162) {c2 : Nat} (hc2 : c2 ∈ L) (kc2 : K c2 = 163) {c3 : Nat} (hc3 : c3 ∈ L) (kc3 : K c3 = 164) {bg : Nat} (hbg : bg ∈ L) (kbg : K bg = 165) {lp : Nat} (hlp : lp ∈ L) (klp : K lp = 166) {rp : Nat} (hrp : rp ∈ L) (krp : K rp = 167) {out : Nat} (hout : out ∈ L) (kout : K out = 168) {outD : Nat} (houtD : outD ∈ L) (koutD : K outD = 169) (hr0 : q_ir (q_r f0 x 0) so) (hr1 : q_ir (q_r f0 x 1) rd) (hr2 : q_ir (q_r f0 x 2) scr) (hr3 : q_ir (q_r f0 x 3) fc) (hr4 : q_ir (q_r f0 x 4) hist) (hr5 : q_ir (q_r f0 x 5) rep) (hr6 : q_ir (q_r f0 x 6) now) (hr7 : q_ir (q_r f0 x 7) dr) (hr8 : q_ir (q_r f0 x 8) sv) (hr9 : q_ir (q_r f0 fc 0) tr) (hr10 : q_ir (q_r f0 so 0) ba) (hr11 : q_ir (q_r f0 dr 0) nds) (hr12 : q_ir (q_r f0 hist 0) ka) (hr13 : q_ir (q_r f0 now 0) ndn) (hr14 : q_ir (q_r f0 sv 0) nsv) (hr15 : q_ir (q_r f0 scr 0) cmds) (hr16 : q_ir (q_r f0 mo 1) bu) (hr17 : q_ir (q_r f0 mo 13) sr) (hr18 : q_ir (q_r f0 mo 14) sd) (hr19 : q_ir (q_r f0 mo 15) as) (hr20 : q_ir (q_r f0 mo 16) aw) (hr21 : q_ir (q_r f0 mo 17) pa) (hr22 : q_ir (q_r f0 mo 18) nm) (hr23 : q_ir (q_r f0 mo 19) snm) (hr24 : q_ir (q_r f0 mo 20) anm) (hr25 : q_ir (q_r f0 mo 24) hp) (hr26 : q_ir (q_r f0 mo 25) dy) (hr27 : q_ir (q_r f0 mo 29) cs) (hr28 : q_ir (q_r f0 mo 30) c1) (hr29 : q_ir (q_r f0 mo 31) c2) (hr30 : q_ir (q_r f0 mo 32) c3) (hr31 : q_ir (q_r f0 mo 33) bg) (hr32 : q_ir (q_r f0 mo 34) lp) (hr33 : q_ir (q_r f0 mo 38) rp) (hij : tk_ij K L f0 nds) (hcj : tk_c3 K L f0 cmds) {f : Nat → va_E} {H : Heap} {locs : List Loc} {ls : Array Slot} {cells slots : Nat} {ii tn : Int} {nl9 ls9 : List (List Int)} {xc : Int} (hB : q_B g K L (fun q => s.heap.size ≤ q) [(0, 0, 6), (2, 1, 2), (3, 0, 4), (4, 0, 7), (5, 0, 9), (6, 1, 1), (7, 1, 4), (8, 1, 9), (9, 0, 2), (10, 3, 15), (11, 9, 9), (12, 0, 0), (12, 2, 12), (12, 21, 23), (12, 26, 28), (12, 35, 37), (12, 39, 40), (13, 3, 15), (14, 3, 15), (15, 3, 15), (16, 3, 15), (17, 0, 9), (18, 0, 9), (19, 0, 9), (20, 0, 9), (21, 0, 4), (22, 0, 4), (23, 0, 4), (24, 0, 4), (25, 0, 7), (26, 0, 7), (27, 0, 7), (28, 0, 7), (142, 0, 599), (143, 0, 599), (150, 0, 599), (151, 0, 657), (152, 0, 657), (153, 0, 657), (154, 0, 657), (155, 0, 3947), (156, 0, 9), (157, 0, 9), (158, 0, 9), (159, 0, 9), (160, 0, 9), (161, 0, 59), (162, 0, 58), (163, 0, 58), (164, 0, 58), (165, 0, 1), (166, 0, 1), (167, 0, 479), (168, 0, 0), (169, 0, 0)] f0 f s H locs) (hI : q_Iv6 K L f x so mo sr pa sd bu ba now ndn hist ka sv nsv nm snm tn nl9 ls9 xc) (hl : lv_has ls 10 [(5, .int (q_i ii)), (4, .ref outD), (3, .ref out), (2, .ref mo), (1, .ref x), (0, .ref b)]) (hi0 : 0 ≤ ii) (hi6 : ii + 6 ≤ N9) (hce : cells + 6 ≤ 10000) (hse : slots + 36 ≤ 100000) (kk : ∀ (f1 : Nat → va_E) (H1 : Heap) (locs1 : List Loc) (ls1 : Array Slot) (tn1 : Int) (nl1 ls1_ : List (List Int)) (xc1 : Int), q_B g K L (fun q => s.heap.size ≤ q) [(0, 0, 6), (2, 1, 2), (3, 0, 4), (4, 0, 7), (5, 0, 9), (6, 1, 1), (7, 1, 4), (8, 1, 9), (9, 0, 2), (10, 3, 15), (11, 9, 9), (12, 0, 0), (12, 2, 12), (12, 21, 23), (12, 26, 28), (12, 35, 37), (12, 39, 40), (13, 3, 15), (14, 3, 15), (15, 3, 15), (16, 3, 15), (17, 0, 9), (18, 0, 9), (19, 0, 9), (20, 0, 9), (21, 0, 4), (22, 0, 4), (23, 0, 4), (24, 0, 4), (25, 0, 7), (26, 0, 7), (27, 0, 7), (28, 0, 7), (142, 0, 599), (143, 0, 599), (150, 0, 599), (151, 0, 657), (152, 0, 657), (153, 0, 657), (154, 0, 657), (155, 0, 3947), (156, 0, 9), (157, 0, 9), (158, 0, 9), (159, 0, 9), (160, 0, 9), (161, 0, 59), (162, 0, 58), (163, 0, 58), (164, 0, 58), (165, 0, 1), (166, 0, 1), (167, 0, 479), (168, 0, 0), (169, 0, 0)] f0 f1 s H1 locs1 → q_Iv6 K L f1 x so mo sr pa sd bu ba now ndn hist ka sv nsv nm snm tn1 nl1 ls1_ xc1 → lv_has ls1 10 [(5, .int (q_i ii)), (4, .ref outD), (3, .ref out), (2, .ref mo), (1, .ref x), (0, .ref b)] → W p l e room_1 s m #[Value.ref b] below meth c H1 locs1 (cells + 6) (slots + 36) (lw_Z below #[Value.ref b] s) (F0 m 1493 ls1 [])) : W p l e room_1 s m #[Value.ref b] below meth c H locs (cells) (slots) (lw_Z below #[Value.ref b] s) (F0 m 369 ls []) := by
  have hXs := C0.2.2.2.2.2.2.1
  have hbl := C0.2.2.2.2.2.2.2.1
  have hbA := q_bA hbl
  obtain ⟨⟨hn0, hn1, ltn, utn⟩, hgr, hpk, hsd9, ht3, ht4, hbb, hsr0, hxc, hvn, hvk, hvs, hrn9, hrs9, hpc, hs22, he2, he3⟩ := hI
  have lxc : 0 ≤ xc := by omega
  have uxc : xc ≤ 10 := by have h7 := hvn.2.1.2; omega
  have hr0 : q_ir (q_r f x 0) so := Eq.trans (hB.2.2.r hx (by rw [kx]; rfl)) hr0
  have hr1 : q_ir (q_r f x 1) rd := Eq.trans (hB.2.2.r hx (by rw [kx]; rfl)) hr1
  have hr2 : q_ir (q_r f x 2) scr := Eq.trans (hB.2.2.r hx (by rw [kx]; rfl)) hr2
  have hr3 : q_ir (q_r f x 3) fc := Eq.trans (hB.2.2.r hx (by rw [kx]; rfl)) hr3
  have hr4 : q_ir (q_r f x 4) hist := Eq.trans (hB.2.2.r hx (by rw [kx]; rfl)) hr4
  have hr5 : q_ir (q_r f x 5) rep := Eq.trans (hB.2.2.r hx (by rw [kx]; rfl)) hr5
  have hr6 : q_ir (q_r f x 6) now := Eq.trans (hB.2.2.r hx (by rw [kx]; rfl)) hr6
  have hr7 : q_ir (q_r f x 7) dr := Eq.trans (hB.2.2.r hx (by rw [kx]; rfl)) hr7
  have hr8 : q_ir (q_r f x 8) sv := Eq.trans (hB.2.2.r hx (by rw [kx]; rfl)) hr8
  have hr9 : q_ir (q_r f fc 0) tr := Eq.trans (hB.2.2.r hfc (by rw [kfc]; rfl)) hr9
  have hr10 : q_ir (q_r f so 0) ba := Eq.trans (hB.2.2.r hso (by rw [kso]; rfl)) hr10
  have hr11 : q_ir (q_r f dr 0) nds := Eq.trans (hB.2.2.r hdr (by rw [kdr]; rfl)) hr11
  have hr12 : q_ir (q_r f hist 0) ka := Eq.trans (hB.2.2.r hhist (by rw [khist]; rfl)) hr12
  have hr13 : q_ir (q_r f now 0) ndn := Eq.trans (hB.2.2.r hnow (by rw [know]; rfl)) hr13
  have hr14 : q_ir (q_r f sv 0) nsv := Eq.trans (hB.2.2.r hsv (by rw [ksv]; rfl)) hr14
  have hr15 : q_ir (q_r f scr 0) cmds := Eq.trans (hB.2.2.r hscr (by rw [kscr]; rfl)) hr15
  have hr16 : q_ir (q_r f mo 1) bu := Eq.trans (hB.2.2.r hmo (by rw [kmo]; rfl)) hr16
  have hr17 : q_ir (q_r f mo 13) sr := Eq.trans (hB.2.2.r hmo (by rw [kmo]; rfl)) hr17
  have hr18 : q_ir (q_r f mo 14) sd := Eq.trans (hB.2.2.r hmo (by rw [kmo]; rfl)) hr18
  have hr19 : q_ir (q_r f mo 15) as := Eq.trans (hB.2.2.r hmo (by rw [kmo]; rfl)) hr19
  have hr20 : q_ir (q_r f mo 16) aw := Eq.trans (hB.2.2.r hmo (by rw [kmo]; rfl)) hr20
  have hr21 : q_ir (q_r f mo 17) pa := Eq.trans (hB.2.2.r hmo (by rw [kmo]; rfl)) hr21
  have hr22 : q_ir (q_r f mo 18) nm := Eq.trans (hB.2.2.r hmo (by rw [kmo]; rfl)) hr22
  have hr23 : q_ir (q_r f mo 19) snm := Eq.trans (hB.2.2.r hmo (by rw [kmo]; rfl)) hr23
  have hr24 : q_ir (q_r f mo 20) anm := Eq.trans (hB.2.2.r hmo (by rw [kmo]; rfl)) hr24
  have hr25 : q_ir (q_r f mo 24) hp := Eq.trans (hB.2.2.r hmo (by rw [kmo]; rfl)) hr25
  have hr26 : q_ir (q_r f mo 25) dy := Eq.trans (hB.2.2.r hmo (by rw [kmo]; rfl)) hr26
  have hr27 : q_ir (q_r f mo 29) cs := Eq.trans (hB.2.2.r hmo (by rw [kmo]; rfl)) hr27
  have hr28 : q_ir (q_r f mo 30) c1 := Eq.trans (hB.2.2.r hmo (by rw [kmo]; rfl)) hr28
  have hr29 : q_ir (q_r f mo 31) c2 := Eq.trans (hB.2.2.r hmo (by rw [kmo]; rfl)) hr29
  have hr30 : q_ir (q_r f mo 32) c3 := Eq.trans (hB.2.2.r hmo (by rw [kmo]; rfl)) hr30
  have hr31 : q_ir (q_r f mo 33) bg := Eq.trans (hB.2.2.r hmo (by rw [kmo]; rfl)) hr31
  have hr32 : q_ir (q_r f mo 34) lp := Eq.trans (hB.2.2.r hmo (by rw [kmo]; rfl)) hr32
  have hr33 : q_ir (q_r f mo 38) rp := Eq.trans (hB.2.2.r hmo (by rw [kmo]; rfl)) hr33
  have hij : tk_ij K L f nds := tk_ij_tr hij (fun i9 => hB.2.2.r hnds (by rw [knds]; rfl))
  have hcj : tk_c3 K L f cmds := tk_c3_tr hcj (fun i9 => hB.2.2.r hcmds (by rw [kcmds]; rfl))
  obtain ⟨x1, ex1⟩ : ∃ zz, q_is (q_z f so 3) zz := ⟨_, q_isr _⟩
  obtain ⟨lx1, ux1⟩ := q_isb ex1 (q_fib hB.2.1 hso kso (by decide) rfl)
  have hek9 : q_is (q_z f mo 11) x1 := Eq.trans (Eq.symm he3) ex1
  obtain ⟨x2, ex2⟩ : ∃ zz, q_is (q_z f sr 3) zz := ⟨_, q_isr _⟩
  obtain ⟨lx2, ux2⟩ : 0 ≤ x2 ∧ x2 ≤ 9999 := q_isb ex2 ⟨(hgr 3 (by decide)).1, ht3⟩
  obtain ⟨x3, ex3⟩ : ∃ zz, q_is (q_z f sr 4) zz := ⟨_, q_isr _⟩
  obtain ⟨lx3, ux3⟩ : 0 ≤ x3 ∧ x3 ≤ 60 := q_isb ex3 ⟨(hgr 4 (by decide)).1, ht4⟩
  refine q_ald_n cx dL_law_369 rfl (lv_at hl 4 rfl) ?_
  refine q_cVi (As := []) (rest := []) cx hB (fun q h => hLA q h) hN hx kx (by decide) rfl (f_xerrorPosition l g hN hB.2.1 x hx kx so hso kso rd hrd krd scr hscr kscr fc hfc kfc hist hhist khist rep hrep krep now hnow know dr hdr kdr sv hsv ksv tr htr ktr ba hba kba nds hnds knds ka hka kka ndn hndn kndn nsv hnsv knsv cmds hcmds kcmds x1 (by omega) (by omega) ex1 hr0 hr1 hr2 hr3 hr4 hr5 hr6 hr7 hr8 hr9 hr10 hr11 hr12 hr13 hr14 hr15) q_cL_139 q_dX11_errorPosition ⟨by decide, by show cells + 0 ≤ 601024; omega, by show slots + 0 ≤ 7293034; omega⟩ rfl rfl hl.1 rfl (Nat.le_of_ble_eq_true rfl) dL_law_370 (fun y5 H locs f4 ry5 h6 hF hB => ?_)
  obtain ⟨rfl, qy5⟩ := h6
  refine q_ald_n cx dL_law_373 rfl (lv_at hl 3 rfl) ?_
  refine q_cVi (As := []) (rest := [.int (q_i y5)]) cx hB (fun q h => hLA q h) hN hmo kmo (by decide) rfl (f_merrorPosition l g hN hB.2.1 mo hmo kmo x1 (by omega) (by omega) hek9) q_cL_142 q_dX12_errorPosition ⟨by decide, by show cells + 0 ≤ 601024; omega, by show slots + 0 ≤ 7293034; omega⟩ rfl rfl hl.1 rfl (Nat.le_of_ble_eq_true rfl) dL_law_374 (fun y8 H locs f7 ry8 h9 hF hB => ?_)
  obtain ⟨qy8, z10⟩ := h9
  have z11 : q_is (q_z f7 so 1) tn := Eq.trans (hF.z hso (by rw [kso]; rfl)) hn0
  have z12 : q_is (q_z f7 mo 2) tn := Eq.trans (hF.z hmo (by rw [kmo]; rfl)) hn1
  have z13 : q_is (q_z f7 sr 0) xc := Eq.trans (hF.z hsr (by rw [ksr]; rfl)) hsr0
  have z14 : q_is (q_z f7 so 3) x1 := Eq.trans (hF.z hso (by rw [kso]; rfl)) ex1
  have z15 : q_is (q_z f7 mo 11) x1 := Eq.trans (hF.z hmo (by rw [kmo]; rfl)) hek9
  have z16 : q_is (q_z f7 sr 3) x2 := Eq.trans (hF.z hsr (by rw [ksr]; rfl)) ex2
  have z17 : q_is (q_z f7 sr 4) x3 := Eq.trans (hF.z hsr (by rw [ksr]; rfl)) ex3
  have z18 : q_ir (q_r f7 x 0) so := Eq.trans (hF.r hx (by rw [kx]; rfl)) hr0
  have z19 : q_ir (q_r f7 x 1) rd := Eq.trans (hF.r hx (by rw [kx]; rfl)) hr1
  have z20 : q_ir (q_r f7 x 2) scr := Eq.trans (hF.r hx (by rw [kx]; rfl)) hr2
  have z21 : q_ir (q_r f7 x 3) fc := Eq.trans (hF.r hx (by rw [kx]; rfl)) hr3
  have z22 : q_ir (q_r f7 x 4) hist := Eq.trans (hF.r hx (by rw [kx]; rfl)) hr4
  have z23 : q_ir (q_r f7 x 5) rep := Eq.trans (hF.r hx (by rw [kx]; rfl)) hr5
  have z24 : q_ir (q_r f7 x 6) now := Eq.trans (hF.r hx (by rw [kx]; rfl)) hr6
  have z25 : q_ir (q_r f7 x 7) dr := Eq.trans (hF.r hx (by rw [kx]; rfl)) hr7
  have z26 : q_ir (q_r f7 x 8) sv := Eq.trans (hF.r hx (by rw [kx]; rfl)) hr8
  have z27 : q_ir (q_r f7 fc 0) tr := Eq.trans (hF.r hfc (by rw [kfc]; rfl)) hr9
  have z28 : q_ir (q_r f7 so 0) ba := Eq.trans (hF.r hso (by rw [kso]; rfl)) hr10
  have z29 : q_ir (q_r f7 dr 0) nds := Eq.trans (hF.r hdr (by rw [kdr]; rfl)) hr11
  have z30 : q_ir (q_r f7 hist 0) ka := Eq.trans (hF.r hhist (by rw [khist]; rfl)) hr12
  have z31 : q_ir (q_r f7 now 0) ndn := Eq.trans (hF.r hnow (by rw [know]; rfl)) hr13
  have z32 : q_ir (q_r f7 sv 0) nsv := Eq.trans (hF.r hsv (by rw [ksv]; rfl)) hr14
  have z33 : q_ir (q_r f7 scr 0) cmds := Eq.trans (hF.r hscr (by rw [kscr]; rfl)) hr15
  have z34 : q_ir (q_r f7 mo 1) bu := Eq.trans (hF.r hmo (by rw [kmo]; rfl)) hr16
  have z35 : q_ir (q_r f7 mo 13) sr := Eq.trans (hF.r hmo (by rw [kmo]; rfl)) hr17
  have z36 : q_ir (q_r f7 mo 14) sd := Eq.trans (hF.r hmo (by rw [kmo]; rfl)) hr18
  have z37 : q_ir (q_r f7 mo 15) as := Eq.trans (hF.r hmo (by rw [kmo]; rfl)) hr19
  have z38 : q_ir (q_r f7 mo 16) aw := Eq.trans (hF.r hmo (by rw [kmo]; rfl)) hr20
  have z39 : q_ir (q_r f7 mo 17) pa := Eq.trans (hF.r hmo (by rw [kmo]; rfl)) hr21
  have z40 : q_ir (q_r f7 mo 18) nm := Eq.trans (hF.r hmo (by rw [kmo]; rfl)) hr22
  have z41 : q_ir (q_r f7 mo 19) snm := Eq.trans (hF.r hmo (by rw [kmo]; rfl)) hr23
  have z42 : q_ir (q_r f7 mo 20) anm := Eq.trans (hF.r hmo (by rw [kmo]; rfl)) hr24
  have z43 : q_ir (q_r f7 mo 24) hp := Eq.trans (hF.r hmo (by rw [kmo]; rfl)) hr25
  have z44 : q_ir (q_r f7 mo 25) dy := Eq.trans (hF.r hmo (by rw [kmo]; rfl)) hr26
  have z45 : q_ir (q_r f7 mo 29) cs := Eq.trans (hF.r hmo (by rw [kmo]; rfl)) hr27
  have z46 : q_ir (q_r f7 mo 30) c1 := Eq.trans (hF.r hmo (by rw [kmo]; rfl)) hr28
  have z47 : q_ir (q_r f7 mo 31) c2 := Eq.trans (hF.r hmo (by rw [kmo]; rfl)) hr29
  have z48 : q_ir (q_r f7 mo 32) c3 := Eq.trans (hF.r hmo (by rw [kmo]; rfl)) hr30
  have z49 : q_ir (q_r f7 mo 33) bg := Eq.trans (hF.r hmo (by rw [kmo]; rfl)) hr31
  have z50 : q_ir (q_r f7 mo 34) lp := Eq.trans (hF.r hmo (by rw [kmo]; rfl)) hr32
  have z51 : q_ir (q_r f7 mo 38) rp := Eq.trans (hF.r hmo (by rw [kmo]; rfl)) hr33
  have g52 : q_gr f7 sr := q_gr_fr hgr (fun i9 _ => hF.z hsr (by rw [ksr]; rfl))
  have g53 : q_z f7 x 9 = q_z f7 mo 22 := tk_s2_tr hs22 (hF.z hx (by rw [kx]; rfl)) (hF.z hmo (by rw [kmo]; rfl))
  have g54 : q_pk f7 mo pa := q_pk_tr hpk (hF.z hmo (by rw [kmo]; rfl)) (fun i9 => hF.z hpa (by rw [kpa]; rfl))
  have g55 : q_sv f7 mo sd := q_sv_tr hsd9 (hF.z hmo (by rw [kmo]; rfl)) (fun i9 => hF.z hsd (by rw [ksd]; rfl))
  have g56 : tk_bb f7 bu ba tn := tk_bb_tr hbb (fun i9 => hF.z hbu (by rw [kbu]; rfl)) (fun i9 => hF.z hba (by rw [kba]; rfl))
  have g57 : tk_ij K L f7 nds := tk_ij_tr hij (fun i9 => hF.r hnds (by rw [knds]; rfl))
  have g58 : tk_c3 K L f7 cmds := tk_c3_tr hcj (fun i9 => hF.r hcmds (by rw [kcmds]; rfl))
  have g59 : q_z f7 so 2 = q_z f7 mo 10 := tk_e2_tr he2 (hF.z hso (by rw [kso]; rfl)) (hF.z hmo (by rw [kmo]; rfl))
  have g60 : q_z f7 so 3 = q_z f7 mo 11 := tk_e2_tr he3 (hF.z hso (by rw [kso]; rfl)) (hF.z hmo (by rw [kmo]; rfl))
  have g61 : tk_vn K L 5 f7 now ndn nl9 := tk_vn_tr hvn (hF.z hnow (by rw [know]; rfl)) (fun a9 h9 k9 => hF.j h9 (by rw [k9]; rfl)) (fun i9 => hF.r hndn (by rw [kndn]; rfl))
  have g62 : tk_vk K L f7 hist ka now ndn := tk_vk_tr hvk (hF.z hhist (by rw [khist]; rfl)) (hF.z hhist (by rw [khist]; rfl)) (hF.z hnow (by rw [know]; rfl)) (fun a9 h9 k9 => hF.j h9 (by rw [k9]; rfl)) (fun i9 => hF.r hndn (by rw [kndn]; rfl)) (fun a9 h9 k9 => hF.z h9 (by rw [k9]; rfl)) (fun a9 h9 k9 => hF.j h9 (by rw [k9]; rfl)) (fun i9 => hF.r hka (by rw [kka]; rfl)) (fun a9 h9 k9 => hF.r h9 (by rw [k9]; rfl)) (fun a9 h9 k9 i9 => hF.r h9 (by rw [k9]; rfl))
  have g63 : tk_vs K L f7 x sv nsv ls9 := tk_vs_tr hvs (hF.z hx (by rw [kx]; rfl)) (hF.z hsv (by rw [ksv]; rfl)) (fun a9 h9 k9 => hF.j h9 (by rw [k9]; rfl)) (fun i9 => hF.r hnsv (by rw [knsv]; rfl))
  have g64 : tk_nq f7 nm nl9 := tk_nq_tr hrn9 (fun i9 => hF.j hnm (by rw [knm]; rfl))
  have g65 : tk_rs f7 mo sd snm ls9 := tk_rs_tr hrs9 (hF.z hmo (by rw [kmo]; rfl)) (fun i9 h9 k9 => hF.z hsd (by rw [ksd]; exact q_inWr rfl h9 k9)) (fun i9 => hF.j hsnm (by rw [ksnm]; rfl))
  have g66 : q_pc f7 mo pa xc := q_pc_tr hpc (hF.z hmo (by rw [kmo]; rfl)) (fun i9 => hF.z hpa (by rw [kpa]; rfl))
  refine q_iceq (tgt := 1493) cx ⟨by omega, by omega⟩ ⟨by omega, by omega⟩ dL_law_377 (by decide) (fun c67 => ?_) (fun c67 => ?_)
  · refine W.widen (k := cells + 6) (n := slots + 36) (by omega) (by omega) ?_
    exact kk f7 H locs ls tn nl9 ls9 xc hB ⟨⟨z11, (Eq.trans z12 (by omega)), by omega, by omega⟩, g52, g54, g55, q_isu z16 (by omega), q_isu z17 (by omega), tk_bb_le g56 (by omega), z13, by omega, g61, g62, g63, g64, g65, g66, g53, g59, (Eq.trans z14 (Eq.trans (by omega) (Eq.symm z15)))⟩ (lv_sub hl [0, 1, 2, 3, 4, 5] rfl)
  · exact absurd c67 (by omega)
