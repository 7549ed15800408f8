set_option maxHeartbeats 4000000 in
set_option maxRecDepth 100000 in
theorem law_c1477 {p : Program} {l : Launch} {e : Env} {s : State} {m : MethodId} {below : List Frame} {meth : Method} {c : Code} {b N9 : Nat} {xs : Nat → Int32} (hfl : l.stackTraces = false) (hN9 : N9 ≤ 3072) (C0 : lw_At p s m meth c b N9 xs) (cx : CallFix p m c cL_law 10 s #[Value.ref b] q_al RL) {g : q_G} {ad : Nat → Nat} {K : Nat → Nat} {L : List Nat} (hN : L.Nodup) (hLA : ∀ q, q ∈ L → s.heap.size ≤ q) (hX : q_X ad (fun q => q ∈ L) s) {f0 : Nat → va_E} {x : Nat} (hx : x ∈ L) (kx : K x = 11) {so : Nat} (hso : so ∈ L) (kso : K so = 8) {rd : Nat} (hrd : rd ∈ L) (krd : K rd = 9) {scr : Nat} (hscr : scr ∈ L) (kscr : K scr = 7) {fc : Nat} (hfc : fc ∈ L) (kfc : K fc = 1) {hist : Nat} (hhist : hist ∈ L) (khist : K hist = 2) {rep : Nat} (hrep : rep ∈ L) (krep : K rep = 6) {now : Nat} (hnow : now ∈ L) (know : K now = 10) {dr : Nat} (hdr : dr ∈ L) (kdr : K dr = 13) {sv : Nat} (hsv : sv ∈ L) (ksv : K sv = 14) {tr : Nat} (htr : tr ∈ L) (ktr : K tr = 15) {ba : Nat} (hba : ba ∈ L) (kba : K ba = 142) {nds : Nat} (hnds : nds ∈ L) (knds : K nds = 111) {ka : Nat} (hka : ka ∈ L) (kka : K ka = 140) {ndn : Nat} (hndn : ndn ∈ L) (kndn : K ndn = 110) {nsv : Nat} (hnsv : nsv ∈ L) (knsv : K nsv = 112) {cmds : Nat} (hcmds : cmds ∈ L) (kcmds : K cmds = 141) {mo : Nat} (hmo : mo ∈ L) (kmo : K mo = 12) {bu : Nat} (hbu : bu ∈ L) (kbu : K bu = 150) {sr : Nat} (hsr : sr ∈ L) (ksr : K sr = 151) {sd : Nat} (hsd : sd ∈ L) (ksd : K sd = 152) {as : Nat} (has : as ∈ L) (kas : K as = 153) {aw : Nat} (haw : aw ∈ L) (kaw : K aw = 154) {pa : Nat} (hpa : pa ∈ L) (kpa : K pa = 155) {nm : Nat} (hnm : nm ∈ L) (knm : K nm = 156) {snm : Nat} (hsnm : snm ∈ L) (ksnm : K snm = 157) {anm : Nat} (hanm : anm ∈ L) (kanm : K anm = 158) {hp : Nat} (hhp : hp ∈ L) (khp : K hp = 159) {dy : Nat} (hdy : dy ∈ L) (kdy : K dy = 160) {cs : Nat} (hcs : cs ∈ L) (kcs : K cs = 161) {c1 : Nat} (hc1 : c1 ∈ L) (kc1 : K c1 = 162) {c2 : Nat} (hc2 : c2 ∈ L) (kc2 : K c2 = 163) {c3 : Nat} (hc3 : c3 ∈ L) (kc3 : K c3 = 164) {bg : Nat} (hbg : bg ∈ L) (kbg : K bg = 165) {lp : Nat} (hlp : lp ∈ L) (klp : K lp = 166) {rp : Nat} (hrp : rp ∈ L) (krp : K rp = 167) {out : Nat} (hout : out ∈ L) (kout : K out = 168) {outD : Nat} (houtD : outD ∈ L) (koutD : K outD = 169) (hr0 : q_ir (q_r f0 x 0) so) (hr1 : q_ir (q_r f0 x 1) rd) (hr2 : q_ir (q_r f0 x 2) scr) (hr3 : q_ir (q_r f0 x 3) fc) (hr4 : q_ir (q_r f0 x 4) hist) (hr5 : q_ir (q_r f0 x 5) rep) (hr6 : q_ir (q_r f0 x 6) now) (hr7 : q_ir (q_r f0 x 7) dr) (hr8 : q_ir (q_r f0 x 8) sv) (hr9 : q_ir (q_r f0 fc 0) tr) (hr10 : q_ir (q_r f0 so 0) ba) (hr11 : q_ir (q_r f0 dr 0) nds) (hr12 : q_ir (q_r f0 hist 0) ka) (hr13 : q_ir (q_r f0 now 0) ndn) (hr14 : q_ir (q_r f0 sv 0) nsv) (hr15 : q_ir (q_r f0 scr 0) cmds) (hr16 : q_ir (q_r f0 mo 1) bu) (hr17 : q_ir (q_r f0 mo 13) sr) (hr18 : q_ir (q_r f0 mo 14) sd) (hr19 : q_ir (q_r f0 mo 15) as) (hr20 : q_ir (q_r f0 mo 16) aw) (hr21 : q_ir (q_r f0 mo 17) pa) (hr22 : q_ir (q_r f0 mo 18) nm) (hr23 : q_ir (q_r f0 mo 19) snm) (hr24 : q_ir (q_r f0 mo 20) anm) (hr25 : q_ir (q_r f0 mo 24) hp) (hr26 : q_ir (q_r f0 mo 25) dy) (hr27 : q_ir (q_r f0 mo 29) cs) (hr28 : q_ir (q_r f0 mo 30) c1) (hr29 : q_ir (q_r f0 mo 31) c2) (hr30 : q_ir (q_r f0 mo 32) c3) (hr31 : q_ir (q_r f0 mo 33) bg) (hr32 : q_ir (q_r f0 mo 34) lp) (hr33 : q_ir (q_r f0 mo 38) rp) (hij : tk_ij K L f0 nds) (hcj : tk_c3 K L f0 cmds) {f : Nat → va_E} {H : Heap} {locs : List Loc} {ls : Array Slot} {cells slots : Nat} {ii tn : Int} {nl9 ls9 : List (List Int)} {xc : Int} (hB : q_B g K L (fun q => s.heap.size ≤ q) [(0, 0, 6), (2, 1, 2), (3, 0, 4), (4, 0, 7), (5, 0, 9), (6, 1, 1), (7, 1, 4), (8, 1, 9), (9, 0, 2), (10, 3, 15), (11, 9, 9), (12, 0, 0), (12, 2, 12), (12, 21, 23), (12, 26, 28), (12, 35, 37), (12, 39, 40), (13, 3, 15), (14, 3, 15), (15, 3, 15), (16, 3, 15), (17, 0, 9), (18, 0, 9), (19, 0, 9), (20, 0, 9), (21, 0, 4), (22, 0, 4), (23, 0, 4), (24, 0, 4), (25, 0, 7), (26, 0, 7), (27, 0, 7), (28, 0, 7), (142, 0, 599), (143, 0, 599), (150, 0, 599), (151, 0, 657), (152, 0, 657), (153, 0, 657), (154, 0, 657), (155, 0, 3947), (156, 0, 9), (157, 0, 9), (158, 0, 9), (159, 0, 9), (160, 0, 9), (161, 0, 59), (162, 0, 58), (163, 0, 58), (164, 0, 58), (165, 0, 1), (166, 0, 1), (167, 0, 479), (168, 0, 0), (169, 0, 0)] f0 f s H locs) (hI : q_Iv6 K L f x so mo sr pa sd bu ba now ndn hist ka sv nsv nm snm tn nl9 ls9 xc) (hl : lv_has ls 10 [(5, .int (q_i ii)), (4, .ref outD), (3, .ref out), (2, .ref mo), (1, .ref x), (0, .ref b)]) (hi0 : 0 ≤ ii) (hi6 : ii + 6 ≤ N9) (hce : cells + 6 ≤ 10000) (hse : slots + 36 ≤ 100000) (kk : ∀ (f1 : Nat → va_E) (H1 : Heap) (locs1 : List Loc) (ls1 : Array Slot) (tn1 : Int) (nl1 ls1_ : List (List Int)) (xc1 : Int), q_B g K L (fun q => s.heap.size ≤ q) [(0, 0, 6), (2, 1, 2), (3, 0, 4), (4, 0, 7), (5, 0, 9), (6, 1, 1), (7, 1, 4), (8, 1, 9), (9, 0, 2), (10, 3, 15), (11, 9, 9), (12, 0, 0), (12, 2, 12), (12, 21, 23), (12, 26, 28), (12, 35, 37), (12, 39, 40), (13, 3, 15), (14, 3, 15), (15, 3, 15), (16, 3, 15), (17, 0, 9), (18, 0, 9), (19, 0, 9), (20, 0, 9), (21, 0, 4), (22, 0, 4), (23, 0, 4), (24, 0, 4), (25, 0, 7), (26, 0, 7), (27, 0, 7), (28, 0, 7), (142, 0, 599), (143, 0, 599), (150, 0, 599), (151, 0, 657), (152, 0, 657), (153, 0, 657), (154, 0, 657), (155, 0, 3947), (156, 0, 9), (157, 0, 9), (158, 0, 9), (159, 0, 9), (160, 0, 9), (161, 0, 59), (162, 0, 58), (163, 0, 58), (164, 0, 58), (165, 0, 1), (166, 0, 1), (167, 0, 479), (168, 0, 0), (169, 0, 0)] f0 f1 s H1 locs1 → q_Iv6 K L f1 x so mo sr pa sd bu ba now ndn hist ka sv nsv nm snm tn1 nl1 ls1_ xc1 → lv_has ls1 10 [(5, .int (q_i ii)), (4, .ref outD), (3, .ref out), (2, .ref mo), (1, .ref x), (0, .ref b)] → W p l e room_1 s m #[Value.ref b] below meth c H1 locs1 (cells + 6) (slots + 36) (lw_Z below #[Value.ref b] s) (F0 m 1493 ls1 [])) : W p l e room_1 s m #[Value.ref b] below meth c H locs (cells) (slots) (lw_Z below #[Value.ref b] s) (F0 m 1477 ls []) := by
  have hXs := C0.2.2.2.2.2.2.1
  have hbl := C0.2.2.2.2.2.2.2.1
  have hbA := q_bA hbl
  obtain ⟨⟨hn0, hn1, ltn, utn⟩, hgr, hpk, hsd9, ht3, ht4, hbb, hsr0, hxc, hvn, hvk, hvs, hrn9, hrs9, hpc, hs22, he2, he3⟩ := hI
  have lxc : 0 ≤ xc := by omega
  have uxc : xc ≤ 10 := by have h7 := hvn.2.1.2; omega
  have hr0 : q_ir (q_r f x 0) so := Eq.trans (hB.2.2.r hx (by rw [kx]; rfl)) hr0
  have hr1 : q_ir (q_r f x 1) rd := Eq.trans (hB.2.2.r hx (by rw [kx]; rfl)) hr1
  have hr2 : q_ir (q_r f x 2) scr := Eq.trans (hB.2.2.r hx (by rw [kx]; rfl)) hr2
  have hr3 : q_ir (q_r f x 3) fc := Eq.trans (hB.2.2.r hx (by rw [kx]; rfl)) hr3
  have hr4 : q_ir (q_r f x 4) hist := Eq.trans (hB.2.2.r hx (by rw [kx]; rfl)) hr4
  have hr5 : q_ir (q_r f x 5) rep := Eq.trans (hB.2.2.r hx (by rw [kx]; rfl)) hr5
  have hr6 : q_ir (q_r f x 6) now := Eq.trans (hB.2.2.r hx (by rw [kx]; rfl)) hr6
  have hr7 : q_ir (q_r f x 7) dr := Eq.trans (hB.2.2.r hx (by rw [kx]; rfl)) hr7
  have hr8 : q_ir (q_r f x 8) sv := Eq.trans (hB.2.2.r hx (by rw [kx]; rfl)) hr8
  have hr9 : q_ir (q_r f fc 0) tr := Eq.trans (hB.2.2.r hfc (by rw [kfc]; rfl)) hr9
  have hr10 : q_ir (q_r f so 0) ba := Eq.trans (hB.2.2.r hso (by rw [kso]; rfl)) hr10
  have hr11 : q_ir (q_r f dr 0) nds := Eq.trans (hB.2.2.r hdr (by rw [kdr]; rfl)) hr11
  have hr12 : q_ir (q_r f hist 0) ka := Eq.trans (hB.2.2.r hhist (by rw [khist]; rfl)) hr12
  have hr13 : q_ir (q_r f now 0) ndn := Eq.trans (hB.2.2.r hnow (by rw [know]; rfl)) hr13
  have hr14 : q_ir (q_r f sv 0) nsv := Eq.trans (hB.2.2.r hsv (by rw [ksv]; rfl)) hr14
  have hr15 : q_ir (q_r f scr 0) cmds := Eq.trans (hB.2.2.r hscr (by rw [kscr]; rfl)) hr15
  have hr16 : q_ir (q_r f mo 1) bu := Eq.trans (hB.2.2.r hmo (by rw [kmo]; rfl)) hr16
  have hr17 : q_ir (q_r f mo 13) sr := Eq.trans (hB.2.2.r hmo (by rw [kmo]; rfl)) hr17
  have hr18 : q_ir (q_r f mo 14) sd := Eq.trans (hB.2.2.r hmo (by rw [kmo]; rfl)) hr18
  have hr19 : q_ir (q_r f mo 15) as := Eq.trans (hB.2.2.r hmo (by rw [kmo]; rfl)) hr19
  have hr20 : q_ir (q_r f mo 16) aw := Eq.trans (hB.2.2.r hmo (by rw [kmo]; rfl)) hr20
  have hr21 : q_ir (q_r f mo 17) pa := Eq.trans (hB.2.2.r hmo (by rw [kmo]; rfl)) hr21
  have hr22 : q_ir (q_r f mo 18) nm := Eq.trans (hB.2.2.r hmo (by rw [kmo]; rfl)) hr22
  have hr23 : q_ir (q_r f mo 19) snm := Eq.trans (hB.2.2.r hmo (by rw [kmo]; rfl)) hr23
  have hr24 : q_ir (q_r f mo 20) anm := Eq.trans (hB.2.2.r hmo (by rw [kmo]; rfl)) hr24
  have hr25 : q_ir (q_r f mo 24) hp := Eq.trans (hB.2.2.r hmo (by rw [kmo]; rfl)) hr25
  have hr26 : q_ir (q_r f mo 25) dy := Eq.trans (hB.2.2.r hmo (by rw [kmo]; rfl)) hr26
  have hr27 : q_ir (q_r f mo 29) cs := Eq.trans (hB.2.2.r hmo (by rw [kmo]; rfl)) hr27
  have hr28 : q_ir (q_r f mo 30) c1 := Eq.trans (hB.2.2.r hmo (by rw [kmo]; rfl)) hr28
  have hr29 : q_ir (q_r f mo 31) c2 := Eq.trans (hB.2.2.r hmo (by rw [kmo]; rfl)) hr29
  have hr30 : q_ir (q_r f mo 32) c3 := Eq.trans (hB.2.2.r hmo (by rw [kmo]; rfl)) hr30
  have hr31 : q_ir (q_r f mo 33) bg := Eq.trans (hB.2.2.r hmo (by rw [kmo]; rfl)) hr31
  have hr32 : q_ir (q_r f mo 34) lp := Eq.trans (hB.2.2.r hmo (by rw [kmo]; rfl)) hr32
  have hr33 : q_ir (q_r f mo 38) rp := Eq.trans (hB.2.2.r hmo (by rw [kmo]; rfl)) hr33
  have hij : tk_ij K L f nds := tk_ij_tr hij (fun i9 => hB.2.2.r hnds (by rw [knds]; rfl))
  have hcj : tk_c3 K L f cmds := tk_c3_tr hcj (fun i9 => hB.2.2.r hcmds (by rw [kcmds]; rfl))
  obtain ⟨x1, ex1⟩ : ∃ zz, q_is (q_z f mo 22) zz := ⟨_, q_isr _⟩
  obtain ⟨lx1, ux1⟩ := q_isb ex1 (q_fib hB.2.1 hmo kmo (by decide) rfl)
  obtain ⟨x2, ex2⟩ : ∃ zz, q_is (q_z f sr 3) zz := ⟨_, q_isr _⟩
  obtain ⟨lx2, ux2⟩ : 0 ≤ x2 ∧ x2 ≤ 9999 := q_isb ex2 ⟨(hgr 3 (by decide)).1, ht3⟩
  obtain ⟨x3, ex3⟩ : ∃ zz, q_is (q_z f sr 4) zz := ⟨_, q_isr _⟩
  obtain ⟨lx3, ux3⟩ : 0 ≤ x3 ∧ x3 ≤ 60 := q_isb ex3 ⟨(hgr 4 (by decide)).1, ht4⟩
  refine q_ald_n cx dL_law_1477 rfl (lv_at hl 4 rfl) ?_
  refine q_ald_n cx dL_law_1478 rfl (lv_at hl 2 rfl) ?_
  refine q_cWS (As := [.ref x, .ref out]) (rest := []) cx hX hB (fun q h => hLA q h) (fun q h1 h2 => absurd h1 (Nat.not_le_of_lt h2)) hN (f_wrestore l g ad hN hB.2.1 hfl nl9 ls9 x hx kx out hout kout so hso kso rd hrd krd scr hscr kscr fc hfc kfc hist hhist khist rep hrep krep now hnow know dr hdr kdr sv hsv ksv tr htr ktr ba hba kba nds hnds knds ka hka kka ndn hndn kndn nsv hnsv knsv hr0 hr1 hr2 hr3 hr4 hr5 hr6 hr7 hr8 hr9 hr10 hr11 hr12 hr13 hr14 hvn hvk hvs) q_cL_255 q_dL_restore ⟨by decide, by show cells + 1 ≤ 601024; omega, by show slots + 6 ≤ 7293034; omega⟩ rfl rfl hl.1 rfl (Nat.le_of_ble_eq_true rfl) dL_law_1479 (fun v9 H locs f4 h6 hF hB => ?_)
  obtain ⟨y5, rfl, ry5, h6⟩ := h6
  refine W.eq (g2 := F0 m 1482 ls [.int (q_i y5)]) rfl ?_
  rcases h6 with h7 | h8
  · obtain ⟨qy5, t9, t10, g11, g12⟩ := h7
    have z13 : q_is (q_z f4 so 1) tn := Eq.trans (hF.z hso (by rw [kso]; rfl)) hn0
    have z14 : q_is (q_z f4 mo 2) tn := Eq.trans (hF.z hmo (by rw [kmo]; rfl)) hn1
    have z15 : q_is (q_z f4 sr 0) xc := Eq.trans (hF.z hsr (by rw [ksr]; rfl)) hsr0
    have z16 : q_is (q_z f4 mo 22) x1 := Eq.trans (hF.z hmo (by rw [kmo]; rfl)) ex1
    have z17 : q_is (q_z f4 sr 3) x2 := Eq.trans (hF.z hsr (by rw [ksr]; rfl)) ex2
    have z18 : q_is (q_z f4 sr 4) x3 := Eq.trans (hF.z hsr (by rw [ksr]; rfl)) ex3
    have z19 : q_ir (q_r f4 x 0) so := Eq.trans (hF.r hx (by rw [kx]; rfl)) hr0
    have z20 : q_ir (q_r f4 x 1) rd := Eq.trans (hF.r hx (by rw [kx]; rfl)) hr1
    have z21 : q_ir (q_r f4 x 2) scr := Eq.trans (hF.r hx (by rw [kx]; rfl)) hr2
    have z22 : q_ir (q_r f4 x 3) fc := Eq.trans (hF.r hx (by rw [kx]; rfl)) hr3
    have z23 : q_ir (q_r f4 x 4) hist := Eq.trans (hF.r hx (by rw [kx]; rfl)) hr4
    have z24 : q_ir (q_r f4 x 5) rep := Eq.trans (hF.r hx (by rw [kx]; rfl)) hr5
    have z25 : q_ir (q_r f4 x 6) now := Eq.trans (hF.r hx (by rw [kx]; rfl)) hr6
    have z26 : q_ir (q_r f4 x 7) dr := Eq.trans (hF.r hx (by rw [kx]; rfl)) hr7
    have z27 : q_ir (q_r f4 x 8) sv := Eq.trans (hF.r hx (by rw [kx]; rfl)) hr8
    have z28 : q_ir (q_r f4 fc 0) tr := Eq.trans (hF.r hfc (by rw [kfc]; rfl)) hr9
    have z29 : q_ir (q_r f4 so 0) ba := Eq.trans (hF.r hso (by rw [kso]; rfl)) hr10
    have z30 : q_ir (q_r f4 dr 0) nds := Eq.trans (hF.r hdr (by rw [kdr]; rfl)) hr11
    have z31 : q_ir (q_r f4 hist 0) ka := Eq.trans (hF.r hhist (by rw [khist]; rfl)) hr12
    have z32 : q_ir (q_r f4 now 0) ndn := Eq.trans (hF.r hnow (by rw [know]; rfl)) hr13
    have z33 : q_ir (q_r f4 sv 0) nsv := Eq.trans (hF.r hsv (by rw [ksv]; rfl)) hr14
    have z34 : q_ir (q_r f4 scr 0) cmds := Eq.trans (hF.r hscr (by rw [kscr]; rfl)) hr15
    have z35 : q_ir (q_r f4 mo 1) bu := Eq.trans (hF.r hmo (by rw [kmo]; rfl)) hr16
    have z36 : q_ir (q_r f4 mo 13) sr := Eq.trans (hF.r hmo (by rw [kmo]; rfl)) hr17
    have z37 : q_ir (q_r f4 mo 14) sd := Eq.trans (hF.r hmo (by rw [kmo]; rfl)) hr18
    have z38 : q_ir (q_r f4 mo 15) as := Eq.trans (hF.r hmo (by rw [kmo]; rfl)) hr19
    have z39 : q_ir (q_r f4 mo 16) aw := Eq.trans (hF.r hmo (by rw [kmo]; rfl)) hr20
    have z40 : q_ir (q_r f4 mo 17) pa := Eq.trans (hF.r hmo (by rw [kmo]; rfl)) hr21
    have z41 : q_ir (q_r f4 mo 18) nm := Eq.trans (hF.r hmo (by rw [kmo]; rfl)) hr22
    have z42 : q_ir (q_r f4 mo 19) snm := Eq.trans (hF.r hmo (by rw [kmo]; rfl)) hr23
    have z43 : q_ir (q_r f4 mo 20) anm := Eq.trans (hF.r hmo (by rw [kmo]; rfl)) hr24
    have z44 : q_ir (q_r f4 mo 24) hp := Eq.trans (hF.r hmo (by rw [kmo]; rfl)) hr25
    have z45 : q_ir (q_r f4 mo 25) dy := Eq.trans (hF.r hmo (by rw [kmo]; rfl)) hr26
    have z46 : q_ir (q_r f4 mo 29) cs := Eq.trans (hF.r hmo (by rw [kmo]; rfl)) hr27
    have z47 : q_ir (q_r f4 mo 30) c1 := Eq.trans (hF.r hmo (by rw [kmo]; rfl)) hr28
    have z48 : q_ir (q_r f4 mo 31) c2 := Eq.trans (hF.r hmo (by rw [kmo]; rfl)) hr29
    have z49 : q_ir (q_r f4 mo 32) c3 := Eq.trans (hF.r hmo (by rw [kmo]; rfl)) hr30
    have z50 : q_ir (q_r f4 mo 33) bg := Eq.trans (hF.r hmo (by rw [kmo]; rfl)) hr31
    have z51 : q_ir (q_r f4 mo 34) lp := Eq.trans (hF.r hmo (by rw [kmo]; rfl)) hr32
    have z52 : q_ir (q_r f4 mo 38) rp := Eq.trans (hF.r hmo (by rw [kmo]; rfl)) hr33
    have g53 : q_gr f4 sr := q_gr_fr hgr (fun i9 _ => hF.z hsr (by rw [ksr]; rfl))
    have g54 : q_z f4 x 9 = q_z f4 mo 22 := tk_s2_tr hs22 (hF.z hx (by rw [kx]; rfl)) (hF.z hmo (by rw [kmo]; rfl))
    have g55 : q_pk f4 mo pa := q_pk_tr hpk (hF.z hmo (by rw [kmo]; rfl)) (fun i9 => hF.z hpa (by rw [kpa]; rfl))
    have g56 : q_sv f4 mo sd := q_sv_tr hsd9 (hF.z hmo (by rw [kmo]; rfl)) (fun i9 => hF.z hsd (by rw [ksd]; rfl))
    have g57 : tk_bb f4 bu ba tn := tk_bb_tr hbb (fun i9 => hF.z hbu (by rw [kbu]; rfl)) (fun i9 => hF.z hba (by rw [kba]; rfl))
    have g58 : tk_ij K L f4 nds := tk_ij_tr hij (fun i9 => hF.r hnds (by rw [knds]; rfl))
    have g59 : tk_c3 K L f4 cmds := tk_c3_tr hcj (fun i9 => hF.r hcmds (by rw [kcmds]; rfl))
    have g60 : q_z f4 so 2 = q_z f4 mo 10 := tk_e2_tr he2 (hF.z hso (by rw [kso]; rfl)) (hF.z hmo (by rw [kmo]; rfl))
    have g61 : q_z f4 so 3 = q_z f4 mo 11 := tk_e2_tr he3 (hF.z hso (by rw [kso]; rfl)) (hF.z hmo (by rw [kmo]; rfl))
    have g62 : tk_vs K L f4 x sv nsv ls9 := tk_vs_tr hvs (hF.z hx (by rw [kx]; rfl)) (hF.z hsv (by rw [ksv]; rfl)) (fun a9 h9 k9 => hF.j h9 (by rw [k9]; rfl)) (fun i9 => hF.r hnsv (by rw [knsv]; rfl))
    have g63 : tk_nq f4 nm nl9 := tk_nq_tr hrn9 (fun i9 => hF.j hnm (by rw [knm]; rfl))
    have g64 : tk_rs f4 mo sd snm ls9 := tk_rs_tr hrs9 (hF.z hmo (by rw [kmo]; rfl)) (fun i9 h9 k9 => hF.z hsd (by rw [ksd]; exact q_inWr rfl h9 k9)) (fun i9 => hF.j hsnm (by rw [ksnm]; rfl))
    have g65 : q_pc f4 mo pa xc := q_pc_tr hpc (hF.z hmo (by rw [kmo]; rfl)) (fun i9 => hF.z hpa (by rw [kpa]; rfl))
    subst qy5
    have hx9 : x1 = 1 := (Eq.trans (Eq.symm ex1) (hs22.symm.trans t9))
    refine lv_istore (lv' := [(6, .int (q_i 0)), (5, .int (q_i ii)), (4, .ref outD), (3, .ref out), (2, .ref mo), (1, .ref x), (0, .ref b)]) cx.1 cx.2.1 dL_law_1482 hl (by decide) rfl (fun ls hl => ?_)
    refine q_ald_n cx dL_law_1484 rfl (lv_at hl 4 rfl) ?_
    obtain ⟨x66, ex66⟩ : ∃ zz, q_is (q_z f4 sd 0) zz := ⟨_, q_isr _⟩
    obtain ⟨lx66, ux66⟩ : 0 ≤ x66 ∧ x66 ≤ 10 := q_isb ex66 (q_ai hB.2.1 hsd ksd (by decide) rfl (by decide) rfl)
    refine q_cVi (As := []) (rest := []) cx hB (fun q h => hLA q h) hN hmo kmo (by decide) rfl (f_mrestore l g hN hB.2.1 ls9 mo hmo kmo sr hsr ksr sd hsd ksd nm hnm knm snm hsnm ksnm pa hpa kpa x2 (by omega) (by omega) x3 (by omega) (by omega) x66 (by omega) (by omega) z17 z18 (Eq.trans z16 (by omega)) ex66 z36 z37 z41 z42 z40 g53 g55 g56 g64) q_cL_257 q_dX12_restore ⟨by decide, by show cells + 1 ≤ 601024; omega, by show slots + 6 ≤ 7293034; omega⟩ rfl rfl hl.1 rfl (Nat.le_of_ble_eq_true rfl) dL_law_1485 (fun y68 H locs f67 ry68 h69 hF hB => ?_)
    obtain ⟨lz70, uz70, lz71, uz71, z72, z73, z74, t75, t76, g77, g78⟩ := h69
    have z79 : q_is (q_z f67 so 1) tn := Eq.trans (hF.z hso (by rw [kso]; rfl)) z13
    have z80 : q_is (q_z f67 mo 2) tn := Eq.trans (hF.z hmo (by rw [kmo]; rfl)) z14
    have z81 : q_is (q_z f67 mo 22) x1 := Eq.trans (hF.z hmo (by rw [kmo]; rfl)) z16
    have z82 : q_is (q_z f67 sd 0) x66 := Eq.trans (hF.z hsd (by rw [ksd]; rfl)) ex66
    have z83 : q_ir (q_r f67 x 0) so := Eq.trans (hF.r hx (by rw [kx]; rfl)) z19
    have z84 : q_ir (q_r f67 x 1) rd := Eq.trans (hF.r hx (by rw [kx]; rfl)) z20
    have z85 : q_ir (q_r f67 x 2) scr := Eq.trans (hF.r hx (by rw [kx]; rfl)) z21
    have z86 : q_ir (q_r f67 x 3) fc := Eq.trans (hF.r hx (by rw [kx]; rfl)) z22
    have z87 : q_ir (q_r f67 x 4) hist := Eq.trans (hF.r hx (by rw [kx]; rfl)) z23
    have z88 : q_ir (q_r f67 x 5) rep := Eq.trans (hF.r hx (by rw [kx]; rfl)) z24
    have z89 : q_ir (q_r f67 x 6) now := Eq.trans (hF.r hx (by rw [kx]; rfl)) z25
    have z90 : q_ir (q_r f67 x 7) dr := Eq.trans (hF.r hx (by rw [kx]; rfl)) z26
    have z91 : q_ir (q_r f67 x 8) sv := Eq.trans (hF.r hx (by rw [kx]; rfl)) z27
    have z92 : q_ir (q_r f67 fc 0) tr := Eq.trans (hF.r hfc (by rw [kfc]; rfl)) z28
    have z93 : q_ir (q_r f67 so 0) ba := Eq.trans (hF.r hso (by rw [kso]; rfl)) z29
    have z94 : q_ir (q_r f67 dr 0) nds := Eq.trans (hF.r hdr (by rw [kdr]; rfl)) z30
    have z95 : q_ir (q_r f67 hist 0) ka := Eq.trans (hF.r hhist (by rw [khist]; rfl)) z31
    have z96 : q_ir (q_r f67 now 0) ndn := Eq.trans (hF.r hnow (by rw [know]; rfl)) z32
    have z97 : q_ir (q_r f67 sv 0) nsv := Eq.trans (hF.r hsv (by rw [ksv]; rfl)) z33
    have z98 : q_ir (q_r f67 scr 0) cmds := Eq.trans (hF.r hscr (by rw [kscr]; rfl)) z34
    have z99 : q_ir (q_r f67 mo 1) bu := Eq.trans (hF.r hmo (by rw [kmo]; rfl)) z35
    have z100 : q_ir (q_r f67 mo 13) sr := Eq.trans (hF.r hmo (by rw [kmo]; rfl)) z36
    have z101 : q_ir (q_r f67 mo 14) sd := Eq.trans (hF.r hmo (by rw [kmo]; rfl)) z37
    have z102 : q_ir (q_r f67 mo 15) as := Eq.trans (hF.r hmo (by rw [kmo]; rfl)) z38
    have z103 : q_ir (q_r f67 mo 16) aw := Eq.trans (hF.r hmo (by rw [kmo]; rfl)) z39
    have z104 : q_ir (q_r f67 mo 17) pa := Eq.trans (hF.r hmo (by rw [kmo]; rfl)) z40
    have z105 : q_ir (q_r f67 mo 18) nm := Eq.trans (hF.r hmo (by rw [kmo]; rfl)) z41
    have z106 : q_ir (q_r f67 mo 19) snm := Eq.trans (hF.r hmo (by rw [kmo]; rfl)) z42
    have z107 : q_ir (q_r f67 mo 20) anm := Eq.trans (hF.r hmo (by rw [kmo]; rfl)) z43
    have z108 : q_ir (q_r f67 mo 24) hp := Eq.trans (hF.r hmo (by rw [kmo]; rfl)) z44
    have z109 : q_ir (q_r f67 mo 25) dy := Eq.trans (hF.r hmo (by rw [kmo]; rfl)) z45
    have z110 : q_ir (q_r f67 mo 29) cs := Eq.trans (hF.r hmo (by rw [kmo]; rfl)) z46
    have z111 : q_ir (q_r f67 mo 30) c1 := Eq.trans (hF.r hmo (by rw [kmo]; rfl)) z47
    have z112 : q_ir (q_r f67 mo 31) c2 := Eq.trans (hF.r hmo (by rw [kmo]; rfl)) z48
    have z113 : q_ir (q_r f67 mo 32) c3 := Eq.trans (hF.r hmo (by rw [kmo]; rfl)) z49
    have z114 : q_ir (q_r f67 mo 33) bg := Eq.trans (hF.r hmo (by rw [kmo]; rfl)) z50
    have z115 : q_ir (q_r f67 mo 34) lp := Eq.trans (hF.r hmo (by rw [kmo]; rfl)) z51
    have z116 : q_ir (q_r f67 mo 38) rp := Eq.trans (hF.r hmo (by rw [kmo]; rfl)) z52
    have g117 : q_z f67 x 9 = q_z f67 mo 22 := tk_s2_tr g54 (hF.z hx (by rw [kx]; rfl)) (hF.z hmo (by rw [kmo]; rfl))
    have g118 : q_sv f67 mo sd := q_sv_tr g56 (hF.z hmo (by rw [kmo]; rfl)) (fun i9 => hF.z hsd (by rw [ksd]; rfl))
    have g119 : tk_bb f67 bu ba tn := tk_bb_tr g57 (fun i9 => hF.z hbu (by rw [kbu]; rfl)) (fun i9 => hF.z hba (by rw [kba]; rfl))
    have g120 : tk_ij K L f67 nds := tk_ij_tr g58 (fun i9 => hF.r hnds (by rw [knds]; rfl))
    have g121 : tk_c3 K L f67 cmds := tk_c3_tr g59 (fun i9 => hF.r hcmds (by rw [kcmds]; rfl))
    have g122 : q_z f67 so 2 = q_z f67 mo 10 := tk_e2_tr g60 (hF.z hso (by rw [kso]; rfl)) (hF.z hmo (by rw [kmo]; rfl))
    have g123 : q_z f67 so 3 = q_z f67 mo 11 := tk_e2_tr g61 (hF.z hso (by rw [kso]; rfl)) (hF.z hmo (by rw [kmo]; rfl))
    have g124 : tk_vs K L f67 x sv nsv ls9 := tk_vs_tr g12 (hF.z hx (by rw [kx]; rfl)) (hF.z hsv (by rw [ksv]; rfl)) (fun a9 h9 k9 => hF.j h9 (by rw [k9]; rfl)) (fun i9 => hF.r hnsv (by rw [knsv]; rfl))
    have g125 : tk_rs f67 mo sd snm ls9 := tk_rs_tr g64 (hF.z hmo (by rw [kmo]; rfl)) (fun i9 h9 k9 => hF.z hsd (by rw [ksd]; exact q_inWr rfl h9 k9)) (fun i9 => hF.j hsnm (by rw [ksnm]; rfl))
    have g126 : tk_vk K L f67 hist ka now ndn := tk_vk_tr g11 (hF.z hhist (by rw [khist]; rfl)) (hF.z hhist (by rw [khist]; rfl)) (hF.z hnow (by rw [know]; rfl)) (fun a9 h9 k9 => hF.j h9 (by rw [k9]; rfl)) (fun i9 => hF.r hndn (by rw [kndn]; rfl)) (fun a9 h9 k9 => hF.z h9 (by rw [k9]; rfl)) (fun a9 h9 k9 => hF.j h9 (by rw [k9]; rfl)) (fun i9 => hF.r hka (by rw [kka]; rfl)) (fun a9 h9 k9 => hF.r h9 (by rw [k9]; rfl)) (fun a9 h9 k9 i9 => hF.r h9 (by rw [k9]; rfl))
    have g127 : tk_vn K L 5 f67 now ndn ls9 := tk_vn_tr t10 (hF.z hnow (by rw [know]; rfl)) (fun a9 h9 k9 => hF.j h9 (by rw [k9]; rfl)) (fun i9 => hF.r hndn (by rw [kndn]; rfl))
    obtain ⟨x128, ex128⟩ : ∃ zz, q_is (q_z f67 sr 3) zz := ⟨_, q_isr _⟩
    obtain ⟨lx128, ux128⟩ := q_isb ex128 ⟨lz70, uz70⟩
    obtain ⟨x129, ex129⟩ : ∃ zz, q_is (q_z f67 sr 4) zz := ⟨_, q_isr _⟩
    obtain ⟨lx129, ux129⟩ := q_isb ex129 ⟨lz71, uz71⟩
    have hxc9 : (ls9.length : Int) = x66 := t76
    have hpc9 : q_pc f67 mo pa x66 := k_pc0 z74
    refine lv_istore (lv' := [(7, .int (q_i y68)), (6, .int (q_i 0)), (5, .int (q_i ii)), (4, .ref outD), (3, .ref out), (2, .ref mo), (1, .ref x), (0, .ref b)]) cx.1 cx.2.1 dL_law_1488 hl (by decide) rfl (fun ls hl => ?_)
    refine lv_goto (tgt := 1493) cx.1 cx.2.1 dL_law_1490 (by decide) ?_
    refine W.widen (k := cells + 6) (n := slots + 36) (by omega) (by omega) ?_
    exact kk f67 H locs ls tn ls9 ls9 x66 hB ⟨⟨z79, (Eq.trans z80 (by omega)), by omega, by omega⟩, g77, g78, g118, q_isu ex128 (by omega), q_isu ex129 (by omega), tk_bb_le g119 (by omega), z72, by omega, g127, g126, g124, t75, g125, hpc9, g117, g122, g123⟩ (lv_sub hl [2, 3, 4, 5, 6, 7] rfl)
  · obtain ⟨qy5, t130, t131, g132, g133⟩ := h8
    have z134 : q_is (q_z f4 so 1) tn := Eq.trans (hF.z hso (by rw [kso]; rfl)) hn0
    have z135 : q_is (q_z f4 mo 2) tn := Eq.trans (hF.z hmo (by rw [kmo]; rfl)) hn1
    have z136 : q_is (q_z f4 sr 0) xc := Eq.trans (hF.z hsr (by rw [ksr]; rfl)) hsr0
    have z137 : q_is (q_z f4 mo 22) x1 := Eq.trans (hF.z hmo (by rw [kmo]; rfl)) ex1
    have z138 : q_is (q_z f4 sr 3) x2 := Eq.trans (hF.z hsr (by rw [ksr]; rfl)) ex2
    have z139 : q_is (q_z f4 sr 4) x3 := Eq.trans (hF.z hsr (by rw [ksr]; rfl)) ex3
    have z140 : q_ir (q_r f4 x 0) so := Eq.trans (hF.r hx (by rw [kx]; rfl)) hr0
    have z141 : q_ir (q_r f4 x 1) rd := Eq.trans (hF.r hx (by rw [kx]; rfl)) hr1
    have z142 : q_ir (q_r f4 x 2) scr := Eq.trans (hF.r hx (by rw [kx]; rfl)) hr2
    have z143 : q_ir (q_r f4 x 3) fc := Eq.trans (hF.r hx (by rw [kx]; rfl)) hr3
    have z144 : q_ir (q_r f4 x 4) hist := Eq.trans (hF.r hx (by rw [kx]; rfl)) hr4
    have z145 : q_ir (q_r f4 x 5) rep := Eq.trans (hF.r hx (by rw [kx]; rfl)) hr5
    have z146 : q_ir (q_r f4 x 6) now := Eq.trans (hF.r hx (by rw [kx]; rfl)) hr6
    have z147 : q_ir (q_r f4 x 7) dr := Eq.trans (hF.r hx (by rw [kx]; rfl)) hr7
    have z148 : q_ir (q_r f4 x 8) sv := Eq.trans (hF.r hx (by rw [kx]; rfl)) hr8
    have z149 : q_ir (q_r f4 fc 0) tr := Eq.trans (hF.r hfc (by rw [kfc]; rfl)) hr9
    have z150 : q_ir (q_r f4 so 0) ba := Eq.trans (hF.r hso (by rw [kso]; rfl)) hr10
    have z151 : q_ir (q_r f4 dr 0) nds := Eq.trans (hF.r hdr (by rw [kdr]; rfl)) hr11
    have z152 : q_ir (q_r f4 hist 0) ka := Eq.trans (hF.r hhist (by rw [khist]; rfl)) hr12
    have z153 : q_ir (q_r f4 now 0) ndn := Eq.trans (hF.r hnow (by rw [know]; rfl)) hr13
    have z154 : q_ir (q_r f4 sv 0) nsv := Eq.trans (hF.r hsv (by rw [ksv]; rfl)) hr14
    have z155 : q_ir (q_r f4 scr 0) cmds := Eq.trans (hF.r hscr (by rw [kscr]; rfl)) hr15
    have z156 : q_ir (q_r f4 mo 1) bu := Eq.trans (hF.r hmo (by rw [kmo]; rfl)) hr16
    have z157 : q_ir (q_r f4 mo 13) sr := Eq.trans (hF.r hmo (by rw [kmo]; rfl)) hr17
    have z158 : q_ir (q_r f4 mo 14) sd := Eq.trans (hF.r hmo (by rw [kmo]; rfl)) hr18
    have z159 : q_ir (q_r f4 mo 15) as := Eq.trans (hF.r hmo (by rw [kmo]; rfl)) hr19
    have z160 : q_ir (q_r f4 mo 16) aw := Eq.trans (hF.r hmo (by rw [kmo]; rfl)) hr20
    have z161 : q_ir (q_r f4 mo 17) pa := Eq.trans (hF.r hmo (by rw [kmo]; rfl)) hr21
    have z162 : q_ir (q_r f4 mo 18) nm := Eq.trans (hF.r hmo (by rw [kmo]; rfl)) hr22
    have z163 : q_ir (q_r f4 mo 19) snm := Eq.trans (hF.r hmo (by rw [kmo]; rfl)) hr23
    have z164 : q_ir (q_r f4 mo 20) anm := Eq.trans (hF.r hmo (by rw [kmo]; rfl)) hr24
    have z165 : q_ir (q_r f4 mo 24) hp := Eq.trans (hF.r hmo (by rw [kmo]; rfl)) hr25
    have z166 : q_ir (q_r f4 mo 25) dy := Eq.trans (hF.r hmo (by rw [kmo]; rfl)) hr26
    have z167 : q_ir (q_r f4 mo 29) cs := Eq.trans (hF.r hmo (by rw [kmo]; rfl)) hr27
    have z168 : q_ir (q_r f4 mo 30) c1 := Eq.trans (hF.r hmo (by rw [kmo]; rfl)) hr28
    have z169 : q_ir (q_r f4 mo 31) c2 := Eq.trans (hF.r hmo (by rw [kmo]; rfl)) hr29
    have z170 : q_ir (q_r f4 mo 32) c3 := Eq.trans (hF.r hmo (by rw [kmo]; rfl)) hr30
    have z171 : q_ir (q_r f4 mo 33) bg := Eq.trans (hF.r hmo (by rw [kmo]; rfl)) hr31
    have z172 : q_ir (q_r f4 mo 34) lp := Eq.trans (hF.r hmo (by rw [kmo]; rfl)) hr32
    have z173 : q_ir (q_r f4 mo 38) rp := Eq.trans (hF.r hmo (by rw [kmo]; rfl)) hr33
    have g174 : q_gr f4 sr := q_gr_fr hgr (fun i9 _ => hF.z hsr (by rw [ksr]; rfl))
    have g175 : q_z f4 x 9 = q_z f4 mo 22 := tk_s2_tr hs22 (hF.z hx (by rw [kx]; rfl)) (hF.z hmo (by rw [kmo]; rfl))
    have g176 : q_pk f4 mo pa := q_pk_tr hpk (hF.z hmo (by rw [kmo]; rfl)) (fun i9 => hF.z hpa (by rw [kpa]; rfl))
    have g177 : q_sv f4 mo sd := q_sv_tr hsd9 (hF.z hmo (by rw [kmo]; rfl)) (fun i9 => hF.z hsd (by rw [ksd]; rfl))
    have g178 : tk_bb f4 bu ba tn := tk_bb_tr hbb (fun i9 => hF.z hbu (by rw [kbu]; rfl)) (fun i9 => hF.z hba (by rw [kba]; rfl))
    have g179 : tk_ij K L f4 nds := tk_ij_tr hij (fun i9 => hF.r hnds (by rw [knds]; rfl))
    have g180 : tk_c3 K L f4 cmds := tk_c3_tr hcj (fun i9 => hF.r hcmds (by rw [kcmds]; rfl))
    have g181 : q_z f4 so 2 = q_z f4 mo 10 := tk_e2_tr he2 (hF.z hso (by rw [kso]; rfl)) (hF.z hmo (by rw [kmo]; rfl))
    have g182 : q_z f4 so 3 = q_z f4 mo 11 := tk_e2_tr he3 (hF.z hso (by rw [kso]; rfl)) (hF.z hmo (by rw [kmo]; rfl))
    have g183 : tk_vs K L f4 x sv nsv ls9 := tk_vs_tr hvs (hF.z hx (by rw [kx]; rfl)) (hF.z hsv (by rw [ksv]; rfl)) (fun a9 h9 k9 => hF.j h9 (by rw [k9]; rfl)) (fun i9 => hF.r hnsv (by rw [knsv]; rfl))
    have g184 : tk_nq f4 nm nl9 := tk_nq_tr hrn9 (fun i9 => hF.j hnm (by rw [knm]; rfl))
    have g185 : tk_rs f4 mo sd snm ls9 := tk_rs_tr hrs9 (hF.z hmo (by rw [kmo]; rfl)) (fun i9 h9 k9 => hF.z hsd (by rw [ksd]; exact q_inWr rfl h9 k9)) (fun i9 => hF.j hsnm (by rw [ksnm]; rfl))
    have g186 : q_pc f4 mo pa xc := q_pc_tr hpc (hF.z hmo (by rw [kmo]; rfl)) (fun i9 => hF.z hpa (by rw [kpa]; rfl))
    subst qy5
    have hx9 : x1 ≠ 1 := fun h9 => t130 (hs22.trans (Eq.trans ex1 h9))
    have hx8 : x1 = 0 := by omega
    refine lv_istore (lv' := [(6, .int (q_i 1)), (5, .int (q_i ii)), (4, .ref outD), (3, .ref out), (2, .ref mo), (1, .ref x), (0, .ref b)]) cx.1 cx.2.1 dL_law_1482 hl (by decide) rfl (fun ls hl => ?_)
    refine q_ald_n cx dL_law_1484 rfl (lv_at hl 4 rfl) ?_
    refine q_cVi (As := []) (rest := []) cx hB (fun q h => hLA q h) hN hmo kmo (by decide) rfl (r_restore0 l g hN hB.2.1 mo hmo kmo sr hsr ksr sd hsd ksd nm hnm knm snm hsnm ksnm pa hpa kpa x2 (by omega) (by omega) x3 (by omega) (by omega) xc (by omega) (by omega) z138 z139 z136 (Eq.trans z137 (by omega)) z157 z158 z162 z163 z161 g174 g176 g177 g186) q_cL_257 q_dX12_restore ⟨by decide, by show cells + 1 ≤ 601024; omega, by show slots + 6 ≤ 7293034; omega⟩ rfl rfl hl.1 rfl (Nat.le_of_ble_eq_true rfl) dL_law_1485 (fun y188 H locs f187 ry188 h189 hF hB => ?_)
    obtain ⟨ly188, uy188, lz190, uz190, lz191, uz191, z192, g193, g194⟩ := h189
    have z195 : q_is (q_z f187 so 1) tn := Eq.trans (hF.z hso (by rw [kso]; rfl)) z134
    have z196 : q_is (q_z f187 mo 2) tn := Eq.trans (hF.z hmo (by rw [kmo]; rfl)) z135
    have z197 : q_is (q_z f187 sr 0) xc := Eq.trans (hF.z hsr (by rw [ksr]; rfl)) z136
    have z198 : q_is (q_z f187 mo 22) x1 := Eq.trans (hF.z hmo (by rw [kmo]; rfl)) z137
    have z199 : q_is (q_z f187 sr 3) x2 := Eq.trans (hF.z hsr (by rw [ksr]; rfl)) z138
    have z200 : q_is (q_z f187 sr 4) x3 := Eq.trans (hF.z hsr (by rw [ksr]; rfl)) z139
    have z201 : q_ir (q_r f187 x 0) so := Eq.trans (hF.r hx (by rw [kx]; rfl)) z140
    have z202 : q_ir (q_r f187 x 1) rd := Eq.trans (hF.r hx (by rw [kx]; rfl)) z141
    have z203 : q_ir (q_r f187 x 2) scr := Eq.trans (hF.r hx (by rw [kx]; rfl)) z142
    have z204 : q_ir (q_r f187 x 3) fc := Eq.trans (hF.r hx (by rw [kx]; rfl)) z143
    have z205 : q_ir (q_r f187 x 4) hist := Eq.trans (hF.r hx (by rw [kx]; rfl)) z144
    have z206 : q_ir (q_r f187 x 5) rep := Eq.trans (hF.r hx (by rw [kx]; rfl)) z145
    have z207 : q_ir (q_r f187 x 6) now := Eq.trans (hF.r hx (by rw [kx]; rfl)) z146
    have z208 : q_ir (q_r f187 x 7) dr := Eq.trans (hF.r hx (by rw [kx]; rfl)) z147
    have z209 : q_ir (q_r f187 x 8) sv := Eq.trans (hF.r hx (by rw [kx]; rfl)) z148
    have z210 : q_ir (q_r f187 fc 0) tr := Eq.trans (hF.r hfc (by rw [kfc]; rfl)) z149
    have z211 : q_ir (q_r f187 so 0) ba := Eq.trans (hF.r hso (by rw [kso]; rfl)) z150
    have z212 : q_ir (q_r f187 dr 0) nds := Eq.trans (hF.r hdr (by rw [kdr]; rfl)) z151
    have z213 : q_ir (q_r f187 hist 0) ka := Eq.trans (hF.r hhist (by rw [khist]; rfl)) z152
    have z214 : q_ir (q_r f187 now 0) ndn := Eq.trans (hF.r hnow (by rw [know]; rfl)) z153
    have z215 : q_ir (q_r f187 sv 0) nsv := Eq.trans (hF.r hsv (by rw [ksv]; rfl)) z154
    have z216 : q_ir (q_r f187 scr 0) cmds := Eq.trans (hF.r hscr (by rw [kscr]; rfl)) z155
    have z217 : q_ir (q_r f187 mo 1) bu := Eq.trans (hF.r hmo (by rw [kmo]; rfl)) z156
    have z218 : q_ir (q_r f187 mo 13) sr := Eq.trans (hF.r hmo (by rw [kmo]; rfl)) z157
    have z219 : q_ir (q_r f187 mo 14) sd := Eq.trans (hF.r hmo (by rw [kmo]; rfl)) z158
    have z220 : q_ir (q_r f187 mo 15) as := Eq.trans (hF.r hmo (by rw [kmo]; rfl)) z159
    have z221 : q_ir (q_r f187 mo 16) aw := Eq.trans (hF.r hmo (by rw [kmo]; rfl)) z160
    have z222 : q_ir (q_r f187 mo 17) pa := Eq.trans (hF.r hmo (by rw [kmo]; rfl)) z161
    have z223 : q_ir (q_r f187 mo 18) nm := Eq.trans (hF.r hmo (by rw [kmo]; rfl)) z162
    have z224 : q_ir (q_r f187 mo 19) snm := Eq.trans (hF.r hmo (by rw [kmo]; rfl)) z163
    have z225 : q_ir (q_r f187 mo 20) anm := Eq.trans (hF.r hmo (by rw [kmo]; rfl)) z164
    have z226 : q_ir (q_r f187 mo 24) hp := Eq.trans (hF.r hmo (by rw [kmo]; rfl)) z165
    have z227 : q_ir (q_r f187 mo 25) dy := Eq.trans (hF.r hmo (by rw [kmo]; rfl)) z166
    have z228 : q_ir (q_r f187 mo 29) cs := Eq.trans (hF.r hmo (by rw [kmo]; rfl)) z167
    have z229 : q_ir (q_r f187 mo 30) c1 := Eq.trans (hF.r hmo (by rw [kmo]; rfl)) z168
    have z230 : q_ir (q_r f187 mo 31) c2 := Eq.trans (hF.r hmo (by rw [kmo]; rfl)) z169
    have z231 : q_ir (q_r f187 mo 32) c3 := Eq.trans (hF.r hmo (by rw [kmo]; rfl)) z170
    have z232 : q_ir (q_r f187 mo 33) bg := Eq.trans (hF.r hmo (by rw [kmo]; rfl)) z171
    have z233 : q_ir (q_r f187 mo 34) lp := Eq.trans (hF.r hmo (by rw [kmo]; rfl)) z172
    have z234 : q_ir (q_r f187 mo 38) rp := Eq.trans (hF.r hmo (by rw [kmo]; rfl)) z173
    have g235 : q_gr f187 sr := q_gr_fr g174 (fun i9 _ => hF.z hsr (by rw [ksr]; rfl))
    have g236 : q_z f187 x 9 = q_z f187 mo 22 := tk_s2_tr g175 (hF.z hx (by rw [kx]; rfl)) (hF.z hmo (by rw [kmo]; rfl))
    have g237 : q_pk f187 mo pa := q_pk_tr g176 (hF.z hmo (by rw [kmo]; rfl)) (fun i9 => hF.z hpa (by rw [kpa]; rfl))
    have g238 : q_sv f187 mo sd := q_sv_tr g177 (hF.z hmo (by rw [kmo]; rfl)) (fun i9 => hF.z hsd (by rw [ksd]; rfl))
    have g239 : tk_bb f187 bu ba tn := tk_bb_tr g178 (fun i9 => hF.z hbu (by rw [kbu]; rfl)) (fun i9 => hF.z hba (by rw [kba]; rfl))
    have g240 : tk_ij K L f187 nds := tk_ij_tr g179 (fun i9 => hF.r hnds (by rw [knds]; rfl))
    have g241 : tk_c3 K L f187 cmds := tk_c3_tr g180 (fun i9 => hF.r hcmds (by rw [kcmds]; rfl))
    have g242 : q_z f187 so 2 = q_z f187 mo 10 := tk_e2_tr g181 (hF.z hso (by rw [kso]; rfl)) (hF.z hmo (by rw [kmo]; rfl))
    have g243 : q_z f187 so 3 = q_z f187 mo 11 := tk_e2_tr g182 (hF.z hso (by rw [kso]; rfl)) (hF.z hmo (by rw [kmo]; rfl))
    have g244 : tk_vs K L f187 x sv nsv ls9 := tk_vs_tr g133 (hF.z hx (by rw [kx]; rfl)) (hF.z hsv (by rw [ksv]; rfl)) (fun a9 h9 k9 => hF.j h9 (by rw [k9]; rfl)) (fun i9 => hF.r hnsv (by rw [knsv]; rfl))
    have g245 : tk_nq f187 nm nl9 := tk_nq_tr g184 (fun i9 => hF.j hnm (by rw [knm]; rfl))
    have g246 : tk_rs f187 mo sd snm ls9 := tk_rs_tr g185 (hF.z hmo (by rw [kmo]; rfl)) (fun i9 h9 k9 => hF.z hsd (by rw [ksd]; exact q_inWr rfl h9 k9)) (fun i9 => hF.j hsnm (by rw [ksnm]; rfl))
    have g247 : q_pc f187 mo pa xc := q_pc_tr g186 (hF.z hmo (by rw [kmo]; rfl)) (fun i9 => hF.z hpa (by rw [kpa]; rfl))
    have g248 : tk_vk K L f187 hist ka now ndn := tk_vk_tr g132 (hF.z hhist (by rw [khist]; rfl)) (hF.z hhist (by rw [khist]; rfl)) (hF.z hnow (by rw [know]; rfl)) (fun a9 h9 k9 => hF.j h9 (by rw [k9]; rfl)) (fun i9 => hF.r hndn (by rw [kndn]; rfl)) (fun a9 h9 k9 => hF.z h9 (by rw [k9]; rfl)) (fun a9 h9 k9 => hF.j h9 (by rw [k9]; rfl)) (fun i9 => hF.r hka (by rw [kka]; rfl)) (fun a9 h9 k9 => hF.r h9 (by rw [k9]; rfl)) (fun a9 h9 k9 i9 => hF.r h9 (by rw [k9]; rfl))
    have g249 : tk_vn K L 5 f187 now ndn nl9 := tk_vn_tr t131 (hF.z hnow (by rw [know]; rfl)) (fun a9 h9 k9 => hF.j h9 (by rw [k9]; rfl)) (fun i9 => hF.r hndn (by rw [kndn]; rfl))
    obtain ⟨x250, ex250⟩ : ∃ zz, q_is (q_z f187 sr 3) zz := ⟨_, q_isr _⟩
    obtain ⟨lx250, ux250⟩ := q_isb ex250 ⟨lz190, uz190⟩
    obtain ⟨x251, ex251⟩ : ∃ zz, q_is (q_z f187 sr 4) zz := ⟨_, q_isr _⟩
    obtain ⟨lx251, ux251⟩ := q_isb ex251 ⟨lz191, uz191⟩
    refine lv_istore (lv' := [(7, .int (q_i y188)), (6, .int (q_i 1)), (5, .int (q_i ii)), (4, .ref outD), (3, .ref out), (2, .ref mo), (1, .ref x), (0, .ref b)]) cx.1 cx.2.1 dL_law_1488 hl (by decide) rfl (fun ls hl => ?_)
    refine lv_goto (tgt := 1493) cx.1 cx.2.1 dL_law_1490 (by decide) ?_
    refine W.widen (k := cells + 6) (n := slots + 36) (by omega) (by omega) ?_
    exact kk f187 H locs ls tn nl9 ls9 xc hB ⟨⟨z195, (Eq.trans z196 (by omega)), by omega, by omega⟩, g235, g193, g238, q_isu ex250 (by omega), q_isu ex251 (by omega), tk_bb_le g239 (by omega), z192, by omega, g249, g248, g244, g245, g246, g194, g236, g242, g243⟩ (lv_sub hl [2, 3, 4, 5, 6, 7] rfl)
set_option maxHeartbeats 4000000 in
set_option maxRecDepth 100000 in
theorem law_loop {p : Program} {l : Launch} {e : Env} {s : State} {m : MethodId} {below : List Frame} {meth : Method} {c : Code} {b N9 : Nat} {xs : Nat → Int32} (hfl : l.stackTraces = false) (hN9 : N9 ≤ 3072) (C0 : lw_At p s m meth c b N9 xs) (cx : CallFix p m c cL_law 10 s #[Value.ref b] q_al RL) {g : q_G} {ad : Nat → Nat} {K : Nat → Nat} {L : List Nat} (hN : L.Nodup) (hLA : ∀ q, q ∈ L → s.heap.size ≤ q) (hX : q_X ad (fun q => q ∈ L) s) {f0 : Nat → va_E} {x : Nat} (hx : x ∈ L) (kx : K x = 11) {so : Nat} (hso : so ∈ L) (kso : K so = 8) {rd : Nat} (hrd : rd ∈ L) (krd : K rd = 9) {scr : Nat} (hscr : scr ∈ L) (kscr : K scr = 7) {fc : Nat} (hfc : fc ∈ L) (kfc : K fc = 1) {hist : Nat} (hhist : hist ∈ L) (khist : K hist = 2) {rep : Nat} (hrep : rep ∈ L) (krep : K rep = 6) {now : Nat} (hnow : now ∈ L) (know : K now = 10) {dr : Nat} (hdr : dr ∈ L) (kdr : K dr = 13) {sv : Nat} (hsv : sv ∈ L) (ksv : K sv = 14) {tr : Nat} (htr : tr ∈ L) (ktr : K tr = 15) {ba : Nat} (hba : ba ∈ L) (kba : K ba = 142) {nds : Nat} (hnds : nds ∈ L) (knds : K nds = 111) {ka : Nat} (hka : ka ∈ L) (kka : K ka = 140) {ndn : Nat} (hndn : ndn ∈ L) (kndn : K ndn = 110) {nsv : Nat} (hnsv : nsv ∈ L) (knsv : K nsv = 112) {cmds : Nat} (hcmds : cmds ∈ L) (kcmds : K cmds = 141) {mo : Nat} (hmo : mo ∈ L) (kmo : K mo = 12) {bu : Nat} (hbu : bu ∈ L) (kbu : K bu = 150) {sr : Nat} (hsr : sr ∈ L) (ksr : K sr = 151) {sd : Nat} (hsd : sd ∈ L) (ksd : K sd = 152) {as : Nat} (has : as ∈ L) (kas : K as = 153) {aw : Nat} (haw : aw ∈ L) (kaw : K aw = 154) {pa : Nat} (hpa : pa ∈ L) (kpa : K pa = 155) {nm : Nat} (hnm : nm ∈ L) (knm : K nm = 156) {snm : Nat} (hsnm : snm ∈ L) (ksnm : K snm = 157) {anm : Nat} (hanm : anm ∈ L) (kanm : K anm = 158) {hp : Nat} (hhp : hp ∈ L) (khp : K hp = 159) {dy : Nat} (hdy : dy ∈ L) (kdy : K dy = 160) {cs : Nat} (hcs : cs ∈ L) (kcs : K cs = 161) {c1 : Nat} (hc1 : c1 ∈ L) (kc1 : K c1 = 162) {c2 : Nat} (hc2 : c2 ∈ L) (kc2 : K c2 = 163) {c3 : Nat} (hc3 : c3 ∈ L) (kc3 : K c3 = 164) {bg : Nat} (hbg : bg ∈ L) (kbg : K bg = 165) {lp : Nat} (hlp : lp ∈ L) (klp : K lp = 166) {rp : Nat} (hrp : rp ∈ L) (krp : K rp = 167) {out : Nat} (hout : out ∈ L) (kout : K out = 168) {outD : Nat} (houtD : outD ∈ L) (koutD : K outD = 169) (hr0 : q_ir (q_r f0 x 0) so) (hr1 : q_ir (q_r f0 x 1) rd) (hr2 : q_ir (q_r f0 x 2) scr) (hr3 : q_ir (q_r f0 x 3) fc) (hr4 : q_ir (q_r f0 x 4) hist) (hr5 : q_ir (q_r f0 x 5) rep) (hr6 : q_ir (q_r f0 x 6) now) (hr7 : q_ir (q_r f0 x 7) dr) (hr8 : q_ir (q_r f0 x 8) sv) (hr9 : q_ir (q_r f0 fc 0) tr) (hr10 : q_ir (q_r f0 so 0) ba) (hr11 : q_ir (q_r f0 dr 0) nds) (hr12 : q_ir (q_r f0 hist 0) ka) (hr13 : q_ir (q_r f0 now 0) ndn) (hr14 : q_ir (q_r f0 sv 0) nsv) (hr15 : q_ir (q_r f0 scr 0) cmds) (hr16 : q_ir (q_r f0 mo 1) bu) (hr17 : q_ir (q_r f0 mo 13) sr) (hr18 : q_ir (q_r f0 mo 14) sd) (hr19 : q_ir (q_r f0 mo 15) as) (hr20 : q_ir (q_r f0 mo 16) aw) (hr21 : q_ir (q_r f0 mo 17) pa) (hr22 : q_ir (q_r f0 mo 18) nm) (hr23 : q_ir (q_r f0 mo 19) snm) (hr24 : q_ir (q_r f0 mo 20) anm) (hr25 : q_ir (q_r f0 mo 24) hp) (hr26 : q_ir (q_r f0 mo 25) dy) (hr27 : q_ir (q_r f0 mo 29) cs) (hr28 : q_ir (q_r f0 mo 30) c1) (hr29 : q_ir (q_r f0 mo 31) c2) (hr30 : q_ir (q_r f0 mo 32) c3) (hr31 : q_ir (q_r f0 mo 33) bg) (hr32 : q_ir (q_r f0 mo 34) lp) (hr33 : q_ir (q_r f0 mo 38) rp) (hij : tk_ij K L f0 nds) (hcj : tk_c3 K L f0 cmds) : ∀ (n : Nat) (ii tn : Int) (nl9 ls9 : List (List Int)) (xc : Int) (f : Nat → va_E) (H : Heap) (locs : List Loc) (ls : Array Slot) (cells slots : Nat), Int.toNat (N9 - ii) < n → q_B g K L (fun q => s.heap.size ≤ q) [(0, 0, 6), (2, 1, 2), (3, 0, 4), (4, 0, 7), (5, 0, 9), (6, 1, 1), (7, 1, 4), (8, 1, 9), (9, 0, 2), (10, 3, 15), (11, 9, 9), (12, 0, 0), (12, 2, 12), (12, 21, 23), (12, 26, 28), (12, 35, 37), (12, 39, 40), (13, 3, 15), (14, 3, 15), (15, 3, 15), (16, 3, 15), (17, 0, 9), (18, 0, 9), (19, 0, 9), (20, 0, 9), (21, 0, 4), (22, 0, 4), (23, 0, 4), (24, 0, 4), (25, 0, 7), (26, 0, 7), (27, 0, 7), (28, 0, 7), (142, 0, 599), (143, 0, 599), (150, 0, 599), (151, 0, 657), (152, 0, 657), (153, 0, 657), (154, 0, 657), (155, 0, 3947), (156, 0, 9), (157, 0, 9), (158, 0, 9), (159, 0, 9), (160, 0, 9), (161, 0, 59), (162, 0, 58), (163, 0, 58), (164, 0, 58), (165, 0, 1), (166, 0, 1), (167, 0, 479), (168, 0, 0), (169, 0, 0)] f0 f s H locs → q_Iv6 K L f x so mo sr pa sd bu ba now ndn hist ka sv nsv nm snm tn nl9 ls9 xc → lv_has ls 10 [(5, .int (q_i ii)), (4, .ref outD), (3, .ref out), (2, .ref mo), (1, .ref x), (0, .ref b)] → 0 ≤ ii → ii ≤ 3078 → cells + Int.toNat (N9 - ii) ≤ 9000 → slots + 6 * Int.toNat (N9 - ii) ≤ 90000 → W p l e room_1 s m #[Value.ref b] below meth c H locs (cells) (slots) (lw_Z below #[Value.ref b] s) (F0 m 28 ls []) := by
  have hXs := C0.2.2.2.2.2.2.1
  have hbl := C0.2.2.2.2.2.2.2.1
  have hbA := q_bA hbl
  intro n
  induction n with
  | zero => intro ii tn nl9 ls9 xc f H locs ls cells slots h; exact absurd h (Nat.not_lt_zero _)
  | succ n ih =>
    intro ii tn nl9 ls9 xc f H locs ls cells slots hmu hB hI hl hi0 hi9 hce hse
    refine lv_iload cx.1 cx.2.1 dL_law_28 (lv_at hl 0 rfl) ?_
    refine q_ald_n cx dL_law_30 rfl (lv_at hl 5 rfl) ?_
    refine va_slen cx.1 cx.2.1 hXs hbl hbA hB.1.2.2.2 dL_law_31 ?_
    rw [q_lenN]
    refine q_bipush cx dL_law_32 rfl ?_
    refine q_isub cx dL_law_34 ?_
    refine q_icgt (tgt := 1499) cx ⟨by omega, by omega⟩ ⟨by omega, by omega⟩ dL_law_35 (by decide) (fun h9 => ?_) (fun h9 => ?_)
    · refine q_iconst cx dL_law_1499 ?_
      exact q_lawret C0 hB (by omega) (by omega) dL_law_1500
    · have kk : ∀ (f1 : Nat → va_E) (H1 : Heap) (locs1 : List Loc) (ls1 : Array Slot) (tn1 : Int) (nl1 ls1_ : List (List Int)) (xc1 : Int), q_B g K L (fun q => s.heap.size ≤ q) [(0, 0, 6), (2, 1, 2), (3, 0, 4), (4, 0, 7), (5, 0, 9), (6, 1, 1), (7, 1, 4), (8, 1, 9), (9, 0, 2), (10, 3, 15), (11, 9, 9), (12, 0, 0), (12, 2, 12), (12, 21, 23), (12, 26, 28), (12, 35, 37), (12, 39, 40), (13, 3, 15), (14, 3, 15), (15, 3, 15), (16, 3, 15), (17, 0, 9), (18, 0, 9), (19, 0, 9), (20, 0, 9), (21, 0, 4), (22, 0, 4), (23, 0, 4), (24, 0, 4), (25, 0, 7), (26, 0, 7), (27, 0, 7), (28, 0, 7), (142, 0, 599), (143, 0, 599), (150, 0, 599), (151, 0, 657), (152, 0, 657), (153, 0, 657), (154, 0, 657), (155, 0, 3947), (156, 0, 9), (157, 0, 9), (158, 0, 9), (159, 0, 9), (160, 0, 9), (161, 0, 59), (162, 0, 58), (163, 0, 58), (164, 0, 58), (165, 0, 1), (166, 0, 1), (167, 0, 479), (168, 0, 0), (169, 0, 0)] f0 f1 s H1 locs1 → q_Iv6 K L f1 x so mo sr pa sd bu ba now ndn hist ka sv nsv nm snm tn1 nl1 ls1_ xc1 → lv_has ls1 10 [(5, .int (q_i ii)), (4, .ref outD), (3, .ref out), (2, .ref mo), (1, .ref x), (0, .ref b)] → W p l e room_1 s m #[Value.ref b] below meth c H1 locs1 (cells + 6) (slots + 36) (lw_Z below #[Value.ref b] s) (F0 m 1493 ls1 []) := by
        intro f1 H1 locs1 ls1 tn1 nl1 ls1_ xc1 hB1 hI1 hl1
        refine q_iinc (lv' := [(5, .int (q_i (ii + 6))), (4, .ref outD), (3, .ref out), (2, .ref mo), (1, .ref x), (0, .ref b)]) cx dL_law_1493 hl1 (k := 0) rfl (by decide) rfl (fun ls2 hl2 => ?_)
        refine lv_goto (tgt := 28) cx.1 cx.2.1 dL_law_1496 (by decide) ?_
        exact ih (ii + 6) tn1 nl1 ls1_ xc1 f1 H1 locs1 ls2 (cells + 6) (slots + 36) (by omega) hB1 hI1 hl2 (by omega) (by omega) (by omega) (by omega)
      refine q_ald_n cx dL_law_38 rfl (lv_at hl 5 rfl) ?_
      refine lv_iload cx.1 cx.2.1 dL_law_39 (lv_at hl 0 rfl) ?_
      refine va_sld cx.1 cx.2.1 hXs hbl hbA hB.1.2.2.2 (q_in (by omega) (by omega) (by omega)) dL_law_41 ?_
      refine q_bipush cx dL_law_42 rfl ?_
      refine q_iandm cx 6 (by decide) rfl dL_law_44 (fun z lz uz ez => ?_)
      by_cases cs0 : z = 0
      · refine lv_tableIn (tgt := 220) cx.1 cx.2.1 dL_law_45 (by rw [q_toInt ⟨by omega, by omega⟩]; omega) (by rw [q_toInt ⟨by omega, by omega⟩]; omega) (off := 175) (by rw [q_toInt ⟨by omega, by omega⟩, cs0]; rfl) (by decide) ?_
        exact law_c220 hfl hN9 C0 cx hN hLA hX hx kx hso kso hrd krd hscr kscr hfc kfc hhist khist hrep krep hnow know hdr kdr hsv ksv htr ktr hba kba hnds knds hka kka hndn kndn hnsv knsv hcmds kcmds hmo kmo hbu kbu hsr ksr hsd ksd has kas haw kaw hpa kpa hnm knm hsnm ksnm hanm kanm hhp khp hdy kdy hcs kcs hc1 kc1 hc2 kc2 hc3 kc3 hbg kbg hlp klp hrp krp hout kout houtD koutD hr0 hr1 hr2 hr3 hr4 hr5 hr6 hr7 hr8 hr9 hr10 hr11 hr12 hr13 hr14 hr15 hr16 hr17 hr18 hr19 hr20 hr21 hr22 hr23 hr24 hr25 hr26 hr27 hr28 hr29 hr30 hr31 hr32 hr33 hij hcj hB hI hl hi0 (by omega) (by omega) (by omega) kk
      by_cases cs1 : z = 1
      · refine lv_tableIn (tgt := 296) cx.1 cx.2.1 dL_law_45 (by rw [q_toInt ⟨by omega, by omega⟩]; omega) (by rw [q_toInt ⟨by omega, by omega⟩]; omega) (off := 251) (by rw [q_toInt ⟨by omega, by omega⟩, cs1]; rfl) (by decide) ?_
        exact law_c296 hfl hN9 C0 cx hN hLA hX hx kx hso kso hrd krd hscr kscr hfc kfc hhist khist hrep krep hnow know hdr kdr hsv ksv htr ktr hba kba hnds knds hka kka hndn kndn hnsv knsv hcmds kcmds hmo kmo hbu kbu hsr ksr hsd ksd has kas haw kaw hpa kpa hnm knm hsnm ksnm hanm kanm hhp khp hdy kdy hcs kcs hc1 kc1 hc2 kc2 hc3 kc3 hbg kbg hlp klp hrp krp hout kout houtD koutD hr0 hr1 hr2 hr3 hr4 hr5 hr6 hr7 hr8 hr9 hr10 hr11 hr12 hr13 hr14 hr15 hr16 hr17 hr18 hr19 hr20 hr21 hr22 hr23 hr24 hr25 hr26 hr27 hr28 hr29 hr30 hr31 hr32 hr33 hij hcj hB hI hl hi0 (by omega) (by omega) (by omega) kk
      by_cases cs2 : z = 2
      · refine lv_tableIn (tgt := 324) cx.1 cx.2.1 dL_law_45 (by rw [q_toInt ⟨by omega, by omega⟩]; omega) (by rw [q_toInt ⟨by omega, by omega⟩]; omega) (off := 279) (by rw [q_toInt ⟨by omega, by omega⟩, cs2]; rfl) (by decide) ?_
        exact law_c324 hfl hN9 C0 cx hN hLA hX hx kx hso kso hrd krd hscr kscr hfc kfc hhist khist hrep krep hnow know hdr kdr hsv ksv htr ktr hba kba hnds knds hka kka hndn kndn hnsv knsv hcmds kcmds hmo kmo hbu kbu hsr ksr hsd ksd has kas haw kaw hpa kpa hnm knm hsnm ksnm hanm kanm hhp khp hdy kdy hcs kcs hc1 kc1 hc2 kc2 hc3 kc3 hbg kbg hlp klp hrp krp hout kout houtD koutD hr0 hr1 hr2 hr3 hr4 hr5 hr6 hr7 hr8 hr9 hr10 hr11 hr12 hr13 hr14 hr15 hr16 hr17 hr18 hr19 hr20 hr21 hr22 hr23 hr24 hr25 hr26 hr27 hr28 hr29 hr30 hr31 hr32 hr33 hij hcj hB hI hl hi0 (by omega) (by omega) (by omega) kk
      by_cases cs3 : z = 3
      · refine lv_tableIn (tgt := 340) cx.1 cx.2.1 dL_law_45 (by rw [q_toInt ⟨by omega, by omega⟩]; omega) (by rw [q_toInt ⟨by omega, by omega⟩]; omega) (off := 295) (by rw [q_toInt ⟨by omega, by omega⟩, cs3]; rfl) (by decide) ?_
        exact law_c340 hfl hN9 C0 cx hN hLA hX hx kx hso kso hrd krd hscr kscr hfc kfc hhist khist hrep krep hnow know hdr kdr hsv ksv htr ktr hba kba hnds knds hka kka hndn kndn hnsv knsv hcmds kcmds hmo kmo hbu kbu hsr ksr hsd ksd has kas haw kaw hpa kpa hnm knm hsnm ksnm hanm kanm hhp khp hdy kdy hcs kcs hc1 kc1 hc2 kc2 hc3 kc3 hbg kbg hlp klp hrp krp hout kout houtD koutD hr0 hr1 hr2 hr3 hr4 hr5 hr6 hr7 hr8 hr9 hr10 hr11 hr12 hr13 hr14 hr15 hr16 hr17 hr18 hr19 hr20 hr21 hr22 hr23 hr24 hr25 hr26 hr27 hr28 hr29 hr30 hr31 hr32 hr33 hij hcj hB hI hl hi0 (by omega) (by omega) (by omega) kk
      by_cases cs4 : z = 4
      · refine lv_tableIn (tgt := 356) cx.1 cx.2.1 dL_law_45 (by rw [q_toInt ⟨by omega, by omega⟩]; omega) (by rw [q_toInt ⟨by omega, by omega⟩]; omega) (off := 311) (by rw [q_toInt ⟨by omega, by omega⟩, cs4]; rfl) (by decide) ?_
        exact law_c356 hfl hN9 C0 cx hN hLA hX hx kx hso kso hrd krd hscr kscr hfc kfc hhist khist hrep krep hnow know hdr kdr hsv ksv htr ktr hba kba hnds knds hka kka hndn kndn hnsv knsv hcmds kcmds hmo kmo hbu kbu hsr ksr hsd ksd has kas haw kaw hpa kpa hnm knm hsnm ksnm hanm kanm hhp khp hdy kdy hcs kcs hc1 kc1 hc2 kc2 hc3 kc3 hbg kbg hlp klp hrp krp hout kout houtD koutD hr0 hr1 hr2 hr3 hr4 hr5 hr6 hr7 hr8 hr9 hr10 hr11 hr12 hr13 hr14 hr15 hr16 hr17 hr18 hr19 hr20 hr21 hr22 hr23 hr24 hr25 hr26 hr27 hr28 hr29 hr30 hr31 hr32 hr33 hij hcj hB hI hl hi0 (by omega) (by omega) (by omega) kk
      by_cases cs5 : z = 5
      · refine lv_tableIn (tgt := 369) cx.1 cx.2.1 dL_law_45 (by rw [q_toInt ⟨by omega, by omega⟩]; omega) (by rw [q_toInt ⟨by omega, by omega⟩]; omega) (off := 324) (by rw [q_toInt ⟨by omega, by omega⟩, cs5]; rfl) (by decide) ?_
        exact law_c369 hfl hN9 C0 cx hN hLA hX hx kx hso kso hrd krd hscr kscr hfc kfc hhist khist hrep krep hnow know hdr kdr hsv ksv htr ktr hba kba hnds knds hka kka hndn kndn hnsv knsv hcmds kcmds hmo kmo hbu kbu hsr ksr hsd ksd has kas haw kaw hpa kpa hnm knm hsnm ksnm hanm kanm hhp khp hdy kdy hcs kcs hc1 kc1 hc2 kc2 hc3 kc3 hbg kbg hlp klp hrp krp hout kout houtD koutD hr0 hr1 hr2 hr3 hr4 hr5 hr6 hr7 hr8 hr9 hr10 hr11 hr12 hr13 hr14 hr15 hr16 hr17 hr18 hr19 hr20 hr21 hr22 hr23 hr24 hr25 hr26 hr27 hr28 hr29 hr30 hr31 hr32 hr33 hij hcj hB hI hl hi0 (by omega) (by omega) (by omega) kk
      by_cases cs6 : z = 6
      · refine lv_tableIn (tgt := 382) cx.1 cx.2.1 dL_law_45 (by rw [q_toInt ⟨by omega, by omega⟩]; omega) (by rw [q_toInt ⟨by omega, by omega⟩]; omega) (off := 337) (by rw [q_toInt ⟨by omega, by omega⟩, cs6]; rfl) (by decide) ?_
        exact law_c382 hfl hN9 C0 cx hN hLA hX hx kx hso kso hrd krd hscr kscr hfc kfc hhist khist hrep krep hnow know hdr kdr hsv ksv htr ktr hba kba hnds knds hka kka hndn kndn hnsv knsv hcmds kcmds hmo kmo hbu kbu hsr ksr hsd ksd has kas haw kaw hpa kpa hnm knm hsnm ksnm hanm kanm hhp khp hdy kdy hcs kcs hc1 kc1 hc2 kc2 hc3 kc3 hbg kbg hlp klp hrp krp hout kout houtD koutD hr0 hr1 hr2 hr3 hr4 hr5 hr6 hr7 hr8 hr9 hr10 hr11 hr12 hr13 hr14 hr15 hr16 hr17 hr18 hr19 hr20 hr21 hr22 hr23 hr24 hr25 hr26 hr27 hr28 hr29 hr30 hr31 hr32 hr33 hij hcj hB hI hl hi0 (by omega) (by omega) (by omega) kk
      by_cases cs7 : z = 7
      · refine lv_tableIn (tgt := 410) cx.1 cx.2.1 dL_law_45 (by rw [q_toInt ⟨by omega, by omega⟩]; omega) (by rw [q_toInt ⟨by omega, by omega⟩]; omega) (off := 365) (by rw [q_toInt ⟨by omega, by omega⟩, cs7]; rfl) (by decide) ?_
        exact law_c410 hfl hN9 C0 cx hN hLA hX hx kx hso kso hrd krd hscr kscr hfc kfc hhist khist hrep krep hnow know hdr kdr hsv ksv htr ktr hba kba hnds knds hka kka hndn kndn hnsv knsv hcmds kcmds hmo kmo hbu kbu hsr ksr hsd ksd has kas haw kaw hpa kpa hnm knm hsnm ksnm hanm kanm hhp khp hdy kdy hcs kcs hc1 kc1 hc2 kc2 hc3 kc3 hbg kbg hlp klp hrp krp hout kout houtD koutD hr0 hr1 hr2 hr3 hr4 hr5 hr6 hr7 hr8 hr9 hr10 hr11 hr12 hr13 hr14 hr15 hr16 hr17 hr18 hr19 hr20 hr21 hr22 hr23 hr24 hr25 hr26 hr27 hr28 hr29 hr30 hr31 hr32 hr33 hij hcj hB hI hl hi0 (by omega) (by omega) (by omega) kk
      by_cases cs8 : z = 8
      · refine lv_tableIn (tgt := 450) cx.1 cx.2.1 dL_law_45 (by rw [q_toInt ⟨by omega, by omega⟩]; omega) (by rw [q_toInt ⟨by omega, by omega⟩]; omega) (off := 405) (by rw [q_toInt ⟨by omega, by omega⟩, cs8]; rfl) (by decide) ?_
        exact law_c450 hfl hN9 C0 cx hN hLA hX hx kx hso kso hrd krd hscr kscr hfc kfc hhist khist hrep krep hnow know hdr kdr hsv ksv htr ktr hba kba hnds knds hka kka hndn kndn hnsv knsv hcmds kcmds hmo kmo hbu kbu hsr ksr hsd ksd has kas haw kaw hpa kpa hnm knm hsnm ksnm hanm kanm hhp khp hdy kdy hcs kcs hc1 kc1 hc2 kc2 hc3 kc3 hbg kbg hlp klp hrp krp hout kout houtD koutD hr0 hr1 hr2 hr3 hr4 hr5 hr6 hr7 hr8 hr9 hr10 hr11 hr12 hr13 hr14 hr15 hr16 hr17 hr18 hr19 hr20 hr21 hr22 hr23 hr24 hr25 hr26 hr27 hr28 hr29 hr30 hr31 hr32 hr33 hij hcj hB hI hl hi0 (by omega) (by omega) (by omega) kk
      by_cases cs9 : z = 9
      · refine lv_tableIn (tgt := 490) cx.1 cx.2.1 dL_law_45 (by rw [q_toInt ⟨by omega, by omega⟩]; omega) (by rw [q_toInt ⟨by omega, by omega⟩]; omega) (off := 445) (by rw [q_toInt ⟨by omega, by omega⟩, cs9]; rfl) (by decide) ?_
        exact law_c490 hfl hN9 C0 cx hN hLA hX hx kx hso kso hrd krd hscr kscr hfc kfc hhist khist hrep krep hnow know hdr kdr hsv ksv htr ktr hba kba hnds knds hka kka hndn kndn hnsv knsv hcmds kcmds hmo kmo hbu kbu hsr ksr hsd ksd has kas haw kaw hpa kpa hnm knm hsnm ksnm hanm kanm hhp khp hdy kdy hcs kcs hc1 kc1 hc2 kc2 hc3 kc3 hbg kbg hlp klp hrp krp hout kout houtD koutD hr0 hr1 hr2 hr3 hr4 hr5 hr6 hr7 hr8 hr9 hr10 hr11 hr12 hr13 hr14 hr15 hr16 hr17 hr18 hr19 hr20 hr21 hr22 hr23 hr24 hr25 hr26 hr27 hr28 hr29 hr30 hr31 hr32 hr33 hij hcj hB hI hl hi0 (by omega) (by omega) (by omega) kk
      by_cases cs10 : z = 10
      · refine lv_tableIn (tgt := 530) cx.1 cx.2.1 dL_law_45 (by rw [q_toInt ⟨by omega, by omega⟩]; omega) (by rw [q_toInt ⟨by omega, by omega⟩]; omega) (off := 485) (by rw [q_toInt ⟨by omega, by omega⟩, cs10]; rfl) (by decide) ?_
        exact law_c530 hfl hN9 C0 cx hN hLA hX hx kx hso kso hrd krd hscr kscr hfc kfc hhist khist hrep krep hnow know hdr kdr hsv ksv htr ktr hba kba hnds knds hka kka hndn kndn hnsv knsv hcmds kcmds hmo kmo hbu kbu hsr ksr hsd ksd has kas haw kaw hpa kpa hnm knm hsnm ksnm hanm kanm hhp khp hdy kdy hcs kcs hc1 kc1 hc2 kc2 hc3 kc3 hbg kbg hlp klp hrp krp hout kout houtD koutD hr0 hr1 hr2 hr3 hr4 hr5 hr6 hr7 hr8 hr9 hr10 hr11 hr12 hr13 hr14 hr15 hr16 hr17 hr18 hr19 hr20 hr21 hr22 hr23 hr24 hr25 hr26 hr27 hr28 hr29 hr30 hr31 hr32 hr33 hij hcj hB hI hl hi0 (by omega) (by omega) (by omega) kk
      by_cases cs11 : z = 11
      · refine lv_tableIn (tgt := 570) cx.1 cx.2.1 dL_law_45 (by rw [q_toInt ⟨by omega, by omega⟩]; omega) (by rw [q_toInt ⟨by omega, by omega⟩]; omega) (off := 525) (by rw [q_toInt ⟨by omega, by omega⟩, cs11]; rfl) (by decide) ?_
        exact law_c570 hfl hN9 C0 cx hN hLA hX hx kx hso kso hrd krd hscr kscr hfc kfc hhist khist hrep krep hnow know hdr kdr hsv ksv htr ktr hba kba hnds knds hka kka hndn kndn hnsv knsv hcmds kcmds hmo kmo hbu kbu hsr ksr hsd ksd has kas haw kaw hpa kpa hnm knm hsnm ksnm hanm kanm hhp khp hdy kdy hcs kcs hc1 kc1 hc2 kc2 hc3 kc3 hbg kbg hlp klp hrp krp hout kout houtD koutD hr0 hr1 hr2 hr3 hr4 hr5 hr6 hr7 hr8 hr9 hr10 hr11 hr12 hr13 hr14 hr15 hr16 hr17 hr18 hr19 hr20 hr21 hr22 hr23 hr24 hr25 hr26 hr27 hr28 hr29 hr30 hr31 hr32 hr33 hij hcj hB hI hl hi0 (by omega) (by omega) (by omega) kk
      by_cases cs12 : z = 12
      · refine lv_tableIn (tgt := 610) cx.1 cx.2.1 dL_law_45 (by rw [q_toInt ⟨by omega, by omega⟩]; omega) (by rw [q_toInt ⟨by omega, by omega⟩]; omega) (off := 565) (by rw [q_toInt ⟨by omega, by omega⟩, cs12]; rfl) (by decide) ?_
        exact law_c610 hfl hN9 C0 cx hN hLA hX hx kx hso kso hrd krd hscr kscr hfc kfc hhist khist hrep krep hnow know hdr kdr hsv ksv htr ktr hba kba hnds knds hka kka hndn kndn hnsv knsv hcmds kcmds hmo kmo hbu kbu hsr ksr hsd ksd has kas haw kaw hpa kpa hnm knm hsnm ksnm hanm kanm hhp khp hdy kdy hcs kcs hc1 kc1 hc2 kc2 hc3 kc3 hbg kbg hlp klp hrp krp hout kout houtD koutD hr0 hr1 hr2 hr3 hr4 hr5 hr6 hr7 hr8 hr9 hr10 hr11 hr12 hr13 hr14 hr15 hr16 hr17 hr18 hr19 hr20 hr21 hr22 hr23 hr24 hr25 hr26 hr27 hr28 hr29 hr30 hr31 hr32 hr33 hij hcj hB hI hl hi0 (by omega) (by omega) (by omega) kk
      by_cases cs13 : z = 13
      · refine lv_tableIn (tgt := 639) cx.1 cx.2.1 dL_law_45 (by rw [q_toInt ⟨by omega, by omega⟩]; omega) (by rw [q_toInt ⟨by omega, by omega⟩]; omega) (off := 594) (by rw [q_toInt ⟨by omega, by omega⟩, cs13]; rfl) (by decide) ?_
        exact law_c639 hfl hN9 C0 cx hN hLA hX hx kx hso kso hrd krd hscr kscr hfc kfc hhist khist hrep krep hnow know hdr kdr hsv ksv htr ktr hba kba hnds knds hka kka hndn kndn hnsv knsv hcmds kcmds hmo kmo hbu kbu hsr ksr hsd ksd has kas haw kaw hpa kpa hnm knm hsnm ksnm hanm kanm hhp khp hdy kdy hcs kcs hc1 kc1 hc2 kc2 hc3 kc3 hbg kbg hlp klp hrp krp hout kout houtD koutD hr0 hr1 hr2 hr3 hr4 hr5 hr6 hr7 hr8 hr9 hr10 hr11 hr12 hr13 hr14 hr15 hr16 hr17 hr18 hr19 hr20 hr21 hr22 hr23 hr24 hr25 hr26 hr27 hr28 hr29 hr30 hr31 hr32 hr33 hij hcj hB hI hl hi0 (by omega) (by omega) (by omega) kk
      by_cases cs14 : z = 14
      · refine lv_tableIn (tgt := 654) cx.1 cx.2.1 dL_law_45 (by rw [q_toInt ⟨by omega, by omega⟩]; omega) (by rw [q_toInt ⟨by omega, by omega⟩]; omega) (off := 609) (by rw [q_toInt ⟨by omega, by omega⟩, cs14]; rfl) (by decide) ?_
        exact law_c654 hfl hN9 C0 cx hN hLA hX hx kx hso kso hrd krd hscr kscr hfc kfc hhist khist hrep krep hnow know hdr kdr hsv ksv htr ktr hba kba hnds knds hka kka hndn kndn hnsv knsv hcmds kcmds hmo kmo hbu kbu hsr ksr hsd ksd has kas haw kaw hpa kpa hnm knm hsnm ksnm hanm kanm hhp khp hdy kdy hcs kcs hc1 kc1 hc2 kc2 hc3 kc3 hbg kbg hlp klp hrp krp hout kout houtD koutD hr0 hr1 hr2 hr3 hr4 hr5 hr6 hr7 hr8 hr9 hr10 hr11 hr12 hr13 hr14 hr15 hr16 hr17 hr18 hr19 hr20 hr21 hr22 hr23 hr24 hr25 hr26 hr27 hr28 hr29 hr30 hr31 hr32 hr33 hij hcj hB hI hl hi0 (by omega) (by omega) (by omega) kk
      by_cases cs15 : z = 15
      · refine lv_tableIn (tgt := 682) cx.1 cx.2.1 dL_law_45 (by rw [q_toInt ⟨by omega, by omega⟩]; omega) (by rw [q_toInt ⟨by omega, by omega⟩]; omega) (off := 637) (by rw [q_toInt ⟨by omega, by omega⟩, cs15]; rfl) (by decide) ?_
        exact law_c682 hfl hN9 C0 cx hN hLA hX hx kx hso kso hrd krd hscr kscr hfc kfc hhist khist hrep krep hnow know hdr kdr hsv ksv htr ktr hba kba hnds knds hka kka hndn kndn hnsv knsv hcmds kcmds hmo kmo hbu kbu hsr ksr hsd ksd has kas haw kaw hpa kpa hnm knm hsnm ksnm hanm kanm hhp khp hdy kdy hcs kcs hc1 kc1 hc2 kc2 hc3 kc3 hbg kbg hlp klp hrp krp hout kout houtD koutD hr0 hr1 hr2 hr3 hr4 hr5 hr6 hr7 hr8 hr9 hr10 hr11 hr12 hr13 hr14 hr15 hr16 hr17 hr18 hr19 hr20 hr21 hr22 hr23 hr24 hr25 hr26 hr27 hr28 hr29 hr30 hr31 hr32 hr33 hij hcj hB hI hl hi0 (by omega) (by omega) (by omega) kk
      by_cases cs16 : z = 16
      · refine lv_tableIn (tgt := 722) cx.1 cx.2.1 dL_law_45 (by rw [q_toInt ⟨by omega, by omega⟩]; omega) (by rw [q_toInt ⟨by omega, by omega⟩]; omega) (off := 677) (by rw [q_toInt ⟨by omega, by omega⟩, cs16]; rfl) (by decide) ?_
        exact law_c722 hfl hN9 C0 cx hN hLA hX hx kx hso kso hrd krd hscr kscr hfc kfc hhist khist hrep krep hnow know hdr kdr hsv ksv htr ktr hba kba hnds knds hka kka hndn kndn hnsv knsv hcmds kcmds hmo kmo hbu kbu hsr ksr hsd ksd has kas haw kaw hpa kpa hnm knm hsnm ksnm hanm kanm hhp khp hdy kdy hcs kcs hc1 kc1 hc2 kc2 hc3 kc3 hbg kbg hlp klp hrp krp hout kout houtD koutD hr0 hr1 hr2 hr3 hr4 hr5 hr6 hr7 hr8 hr9 hr10 hr11 hr12 hr13 hr14 hr15 hr16 hr17 hr18 hr19 hr20 hr21 hr22 hr23 hr24 hr25 hr26 hr27 hr28 hr29 hr30 hr31 hr32 hr33 hij hcj hB hI hl hi0 (by omega) (by omega) (by omega) kk
      by_cases cs17 : z = 17
      · refine lv_tableIn (tgt := 735) cx.1 cx.2.1 dL_law_45 (by rw [q_toInt ⟨by omega, by omega⟩]; omega) (by rw [q_toInt ⟨by omega, by omega⟩]; omega) (off := 690) (by rw [q_toInt ⟨by omega, by omega⟩, cs17]; rfl) (by decide) ?_
        exact law_c735 hfl hN9 C0 cx hN hLA hX hx kx hso kso hrd krd hscr kscr hfc kfc hhist khist hrep krep hnow know hdr kdr hsv ksv htr ktr hba kba hnds knds hka kka hndn kndn hnsv knsv hcmds kcmds hmo kmo hbu kbu hsr ksr hsd ksd has kas haw kaw hpa kpa hnm knm hsnm ksnm hanm kanm hhp khp hdy kdy hcs kcs hc1 kc1 hc2 kc2 hc3 kc3 hbg kbg hlp klp hrp krp hout kout houtD koutD hr0 hr1 hr2 hr3 hr4 hr5 hr6 hr7 hr8 hr9 hr10 hr11 hr12 hr13 hr14 hr15 hr16 hr17 hr18 hr19 hr20 hr21 hr22 hr23 hr24 hr25 hr26 hr27 hr28 hr29 hr30 hr31 hr32 hr33 hij hcj hB hI hl hi0 (by omega) (by omega) (by omega) kk
      by_cases cs18 : z = 18
      · refine lv_tableIn (tgt := 748) cx.1 cx.2.1 dL_law_45 (by rw [q_toInt ⟨by omega, by omega⟩]; omega) (by rw [q_toInt ⟨by omega, by omega⟩]; omega) (off := 703) (by rw [q_toInt ⟨by omega, by omega⟩, cs18]; rfl) (by decide) ?_
        exact law_c748 hfl hN9 C0 cx hN hLA hX hx kx hso kso hrd krd hscr kscr hfc kfc hhist khist hrep krep hnow know hdr kdr hsv ksv htr ktr hba kba hnds knds hka kka hndn kndn hnsv knsv hcmds kcmds hmo kmo hbu kbu hsr ksr hsd ksd has kas haw kaw hpa kpa hnm knm hsnm ksnm hanm kanm hhp khp hdy kdy hcs kcs hc1 kc1 hc2 kc2 hc3 kc3 hbg kbg hlp klp hrp krp hout kout houtD koutD hr0 hr1 hr2 hr3 hr4 hr5 hr6 hr7 hr8 hr9 hr10 hr11 hr12 hr13 hr14 hr15 hr16 hr17 hr18 hr19 hr20 hr21 hr22 hr23 hr24 hr25 hr26 hr27 hr28 hr29 hr30 hr31 hr32 hr33 hij hcj hB hI hl hi0 (by omega) (by omega) (by omega) kk
      by_cases cs19 : z = 19
      · refine lv_tableIn (tgt := 788) cx.1 cx.2.1 dL_law_45 (by rw [q_toInt ⟨by omega, by omega⟩]; omega) (by rw [q_toInt ⟨by omega, by omega⟩]; omega) (off := 743) (by rw [q_toInt ⟨by omega, by omega⟩, cs19]; rfl) (by decide) ?_
        exact law_c788 hfl hN9 C0 cx hN hLA hX hx kx hso kso hrd krd hscr kscr hfc kfc hhist khist hrep krep hnow know hdr kdr hsv ksv htr ktr hba kba hnds knds hka kka hndn kndn hnsv knsv hcmds kcmds hmo kmo hbu kbu hsr ksr hsd ksd has kas haw kaw hpa kpa hnm knm hsnm ksnm hanm kanm hhp khp hdy kdy hcs kcs hc1 kc1 hc2 kc2 hc3 kc3 hbg kbg hlp klp hrp krp hout kout houtD koutD hr0 hr1 hr2 hr3 hr4 hr5 hr6 hr7 hr8 hr9 hr10 hr11 hr12 hr13 hr14 hr15 hr16 hr17 hr18 hr19 hr20 hr21 hr22 hr23 hr24 hr25 hr26 hr27 hr28 hr29 hr30 hr31 hr32 hr33 hij hcj hB hI hl hi0 (by omega) (by omega) (by omega) kk
      by_cases cs20 : z = 20
      · refine lv_tableIn (tgt := 828) cx.1 cx.2.1 dL_law_45 (by rw [q_toInt ⟨by omega, by omega⟩]; omega) (by rw [q_toInt ⟨by omega, by omega⟩]; omega) (off := 783) (by rw [q_toInt ⟨by omega, by omega⟩, cs20]; rfl) (by decide) ?_
        exact law_c828 hfl hN9 C0 cx hN hLA hX hx kx hso kso hrd krd hscr kscr hfc kfc hhist khist hrep krep hnow know hdr kdr hsv ksv htr ktr hba kba hnds knds hka kka hndn kndn hnsv knsv hcmds kcmds hmo kmo hbu kbu hsr ksr hsd ksd has kas haw kaw hpa kpa hnm knm hsnm ksnm hanm kanm hhp khp hdy kdy hcs kcs hc1 kc1 hc2 kc2 hc3 kc3 hbg kbg hlp klp hrp krp hout kout houtD koutD hr0 hr1 hr2 hr3 hr4 hr5 hr6 hr7 hr8 hr9 hr10 hr11 hr12 hr13 hr14 hr15 hr16 hr17 hr18 hr19 hr20 hr21 hr22 hr23 hr24 hr25 hr26 hr27 hr28 hr29 hr30 hr31 hr32 hr33 hij hcj hB hI hl hi0 (by omega) (by omega) (by omega) kk
      by_cases cs21 : z = 21
      · refine lv_tableIn (tgt := 841) cx.1 cx.2.1 dL_law_45 (by rw [q_toInt ⟨by omega, by omega⟩]; omega) (by rw [q_toInt ⟨by omega, by omega⟩]; omega) (off := 796) (by rw [q_toInt ⟨by omega, by omega⟩, cs21]; rfl) (by decide) ?_
        exact law_c841 hfl hN9 C0 cx hN hLA hX hx kx hso kso hrd krd hscr kscr hfc kfc hhist khist hrep krep hnow know hdr kdr hsv ksv htr ktr hba kba hnds knds hka kka hndn kndn hnsv knsv hcmds kcmds hmo kmo hbu kbu hsr ksr hsd ksd has kas haw kaw hpa kpa hnm knm hsnm ksnm hanm kanm hhp khp hdy kdy hcs kcs hc1 kc1 hc2 kc2 hc3 kc3 hbg kbg hlp klp hrp krp hout kout houtD koutD hr0 hr1 hr2 hr3 hr4 hr5 hr6 hr7 hr8 hr9 hr10 hr11 hr12 hr13 hr14 hr15 hr16 hr17 hr18 hr19 hr20 hr21 hr22 hr23 hr24 hr25 hr26 hr27 hr28 hr29 hr30 hr31 hr32 hr33 hij hcj hB hI hl hi0 (by omega) (by omega) (by omega) kk
      by_cases cs22 : z = 22
      · refine lv_tableIn (tgt := 869) cx.1 cx.2.1 dL_law_45 (by rw [q_toInt ⟨by omega, by omega⟩]; omega) (by rw [q_toInt ⟨by omega, by omega⟩]; omega) (off := 824) (by rw [q_toInt ⟨by omega, by omega⟩, cs22]; rfl) (by decide) ?_
        exact law_c869 hfl hN9 C0 cx hN hLA hX hx kx hso kso hrd krd hscr kscr hfc kfc hhist khist hrep krep hnow know hdr kdr hsv ksv htr ktr hba kba hnds knds hka kka hndn kndn hnsv knsv hcmds kcmds hmo kmo hbu kbu hsr ksr hsd ksd has kas haw kaw hpa kpa hnm knm hsnm ksnm hanm kanm hhp khp hdy kdy hcs kcs hc1 kc1 hc2 kc2 hc3 kc3 hbg kbg hlp klp hrp krp hout kout houtD koutD hr0 hr1 hr2 hr3 hr4 hr5 hr6 hr7 hr8 hr9 hr10 hr11 hr12 hr13 hr14 hr15 hr16 hr17 hr18 hr19 hr20 hr21 hr22 hr23 hr24 hr25 hr26 hr27 hr28 hr29 hr30 hr31 hr32 hr33 hij hcj hB hI hl hi0 (by omega) (by omega) (by omega) kk
      by_cases cs23 : z = 23
      · refine lv_tableIn (tgt := 937) cx.1 cx.2.1 dL_law_45 (by rw [q_toInt ⟨by omega, by omega⟩]; omega) (by rw [q_toInt ⟨by omega, by omega⟩]; omega) (off := 892) (by rw [q_toInt ⟨by omega, by omega⟩, cs23]; rfl) (by decide) ?_
        exact law_c937 hfl hN9 C0 cx hN hLA hX hx kx hso kso hrd krd hscr kscr hfc kfc hhist khist hrep krep hnow know hdr kdr hsv ksv htr ktr hba kba hnds knds hka kka hndn kndn hnsv knsv hcmds kcmds hmo kmo hbu kbu hsr ksr hsd ksd has kas haw kaw hpa kpa hnm knm hsnm ksnm hanm kanm hhp khp hdy kdy hcs kcs hc1 kc1 hc2 kc2 hc3 kc3 hbg kbg hlp klp hrp krp hout kout houtD koutD hr0 hr1 hr2 hr3 hr4 hr5 hr6 hr7 hr8 hr9 hr10 hr11 hr12 hr13 hr14 hr15 hr16 hr17 hr18 hr19 hr20 hr21 hr22 hr23 hr24 hr25 hr26 hr27 hr28 hr29 hr30 hr31 hr32 hr33 hij hcj hB hI hl hi0 (by omega) (by omega) (by omega) kk
      by_cases cs24 : z = 24
      · refine lv_tableIn (tgt := 965) cx.1 cx.2.1 dL_law_45 (by rw [q_toInt ⟨by omega, by omega⟩]; omega) (by rw [q_toInt ⟨by omega, by omega⟩]; omega) (off := 920) (by rw [q_toInt ⟨by omega, by omega⟩, cs24]; rfl) (by decide) ?_
        exact law_c965 hfl hN9 C0 cx hN hLA hX hx kx hso kso hrd krd hscr kscr hfc kfc hhist khist hrep krep hnow know hdr kdr hsv ksv htr ktr hba kba hnds knds hka kka hndn kndn hnsv knsv hcmds kcmds hmo kmo hbu kbu hsr ksr hsd ksd has kas haw kaw hpa kpa hnm knm hsnm ksnm hanm kanm hhp khp hdy kdy hcs kcs hc1 kc1 hc2 kc2 hc3 kc3 hbg kbg hlp klp hrp krp hout kout houtD koutD hr0 hr1 hr2 hr3 hr4 hr5 hr6 hr7 hr8 hr9 hr10 hr11 hr12 hr13 hr14 hr15 hr16 hr17 hr18 hr19 hr20 hr21 hr22 hr23 hr24 hr25 hr26 hr27 hr28 hr29 hr30 hr31 hr32 hr33 hij hcj hB hI hl hi0 (by omega) (by omega) (by omega) kk
      by_cases cs25 : z = 25
      · refine lv_tableIn (tgt := 1005) cx.1 cx.2.1 dL_law_45 (by rw [q_toInt ⟨by omega, by omega⟩]; omega) (by rw [q_toInt ⟨by omega, by omega⟩]; omega) (off := 960) (by rw [q_toInt ⟨by omega, by omega⟩, cs25]; rfl) (by decide) ?_
        exact law_c1005 hfl hN9 C0 cx hN hLA hX hx kx hso kso hrd krd hscr kscr hfc kfc hhist khist hrep krep hnow know hdr kdr hsv ksv htr ktr hba kba hnds knds hka kka hndn kndn hnsv knsv hcmds kcmds hmo kmo hbu kbu hsr ksr hsd ksd has kas haw kaw hpa kpa hnm knm hsnm ksnm hanm kanm hhp khp hdy kdy hcs kcs hc1 kc1 hc2 kc2 hc3 kc3 hbg kbg hlp klp hrp krp hout kout houtD koutD hr0 hr1 hr2 hr3 hr4 hr5 hr6 hr7 hr8 hr9 hr10 hr11 hr12 hr13 hr14 hr15 hr16 hr17 hr18 hr19 hr20 hr21 hr22 hr23 hr24 hr25 hr26 hr27 hr28 hr29 hr30 hr31 hr32 hr33 hij hcj hB hI hl hi0 (by omega) (by omega) (by omega) kk
      by_cases cs26 : z = 26
      · refine lv_tableIn (tgt := 1018) cx.1 cx.2.1 dL_law_45 (by rw [q_toInt ⟨by omega, by omega⟩]; omega) (by rw [q_toInt ⟨by omega, by omega⟩]; omega) (off := 973) (by rw [q_toInt ⟨by omega, by omega⟩, cs26]; rfl) (by decide) ?_
        exact law_c1018 hfl hN9 C0 cx hN hLA hX hx kx hso kso hrd krd hscr kscr hfc kfc hhist khist hrep krep hnow know hdr kdr hsv ksv htr ktr hba kba hnds knds hka kka hndn kndn hnsv knsv hcmds kcmds hmo kmo hbu kbu hsr ksr hsd ksd has kas haw kaw hpa kpa hnm knm hsnm ksnm hanm kanm hhp khp hdy kdy hcs kcs hc1 kc1 hc2 kc2 hc3 kc3 hbg kbg hlp klp hrp krp hout kout houtD koutD hr0 hr1 hr2 hr3 hr4 hr5 hr6 hr7 hr8 hr9 hr10 hr11 hr12 hr13 hr14 hr15 hr16 hr17 hr18 hr19 hr20 hr21 hr22 hr23 hr24 hr25 hr26 hr27 hr28 hr29 hr30 hr31 hr32 hr33 hij hcj hB hI hl hi0 (by omega) (by omega) (by omega) kk
      by_cases cs27 : z = 27
      · refine lv_tableIn (tgt := 1046) cx.1 cx.2.1 dL_law_45 (by rw [q_toInt ⟨by omega, by omega⟩]; omega) (by rw [q_toInt ⟨by omega, by omega⟩]; omega) (off := 1001) (by rw [q_toInt ⟨by omega, by omega⟩, cs27]; rfl) (by decide) ?_
        exact law_c1046 hfl hN9 C0 cx hN hLA hX hx kx hso kso hrd krd hscr kscr hfc kfc hhist khist hrep krep hnow know hdr kdr hsv ksv htr ktr hba kba hnds knds hka kka hndn kndn hnsv knsv hcmds kcmds hmo kmo hbu kbu hsr ksr hsd ksd has kas haw kaw hpa kpa hnm knm hsnm ksnm hanm kanm hhp khp hdy kdy hcs kcs hc1 kc1 hc2 kc2 hc3 kc3 hbg kbg hlp klp hrp krp hout kout houtD koutD hr0 hr1 hr2 hr3 hr4 hr5 hr6 hr7 hr8 hr9 hr10 hr11 hr12 hr13 hr14 hr15 hr16 hr17 hr18 hr19 hr20 hr21 hr22 hr23 hr24 hr25 hr26 hr27 hr28 hr29 hr30 hr31 hr32 hr33 hij hcj hB hI hl hi0 (by omega) (by omega) (by omega) kk
      by_cases cs28 : z = 28
      · refine lv_tableIn (tgt := 1086) cx.1 cx.2.1 dL_law_45 (by rw [q_toInt ⟨by omega, by omega⟩]; omega) (by rw [q_toInt ⟨by omega, by omega⟩]; omega) (off := 1041) (by rw [q_toInt ⟨by omega, by omega⟩, cs28]; rfl) (by decide) ?_
        exact law_c1086 hfl hN9 C0 cx hN hLA hX hx kx hso kso hrd krd hscr kscr hfc kfc hhist khist hrep krep hnow know hdr kdr hsv ksv htr ktr hba kba hnds knds hka kka hndn kndn hnsv knsv hcmds kcmds hmo kmo hbu kbu hsr ksr hsd ksd has kas haw kaw hpa kpa hnm knm hsnm ksnm hanm kanm hhp khp hdy kdy hcs kcs hc1 kc1 hc2 kc2 hc3 kc3 hbg kbg hlp klp hrp krp hout kout houtD koutD hr0 hr1 hr2 hr3 hr4 hr5 hr6 hr7 hr8 hr9 hr10 hr11 hr12 hr13 hr14 hr15 hr16 hr17 hr18 hr19 hr20 hr21 hr22 hr23 hr24 hr25 hr26 hr27 hr28 hr29 hr30 hr31 hr32 hr33 hij hcj hB hI hl hi0 (by omega) (by omega) (by omega) kk
      by_cases cs29 : z = 29
      · refine lv_tableIn (tgt := 1114) cx.1 cx.2.1 dL_law_45 (by rw [q_toInt ⟨by omega, by omega⟩]; omega) (by rw [q_toInt ⟨by omega, by omega⟩]; omega) (off := 1069) (by rw [q_toInt ⟨by omega, by omega⟩, cs29]; rfl) (by decide) ?_
        exact law_c1114 hfl hN9 C0 cx hN hLA hX hx kx hso kso hrd krd hscr kscr hfc kfc hhist khist hrep krep hnow know hdr kdr hsv ksv htr ktr hba kba hnds knds hka kka hndn kndn hnsv knsv hcmds kcmds hmo kmo hbu kbu hsr ksr hsd ksd has kas haw kaw hpa kpa hnm knm hsnm ksnm hanm kanm hhp khp hdy kdy hcs kcs hc1 kc1 hc2 kc2 hc3 kc3 hbg kbg hlp klp hrp krp hout kout houtD koutD hr0 hr1 hr2 hr3 hr4 hr5 hr6 hr7 hr8 hr9 hr10 hr11 hr12 hr13 hr14 hr15 hr16 hr17 hr18 hr19 hr20 hr21 hr22 hr23 hr24 hr25 hr26 hr27 hr28 hr29 hr30 hr31 hr32 hr33 hij hcj hB hI hl hi0 (by omega) (by omega) (by omega) kk
      by_cases cs30 : z = 30
      · refine lv_tableIn (tgt := 1194) cx.1 cx.2.1 dL_law_45 (by rw [q_toInt ⟨by omega, by omega⟩]; omega) (by rw [q_toInt ⟨by omega, by omega⟩]; omega) (off := 1149) (by rw [q_toInt ⟨by omega, by omega⟩, cs30]; rfl) (by decide) ?_
        exact law_c1194 hfl hN9 C0 cx hN hLA hX hx kx hso kso hrd krd hscr kscr hfc kfc hhist khist hrep krep hnow know hdr kdr hsv ksv htr ktr hba kba hnds knds hka kka hndn kndn hnsv knsv hcmds kcmds hmo kmo hbu kbu hsr ksr hsd ksd has kas haw kaw hpa kpa hnm knm hsnm ksnm hanm kanm hhp khp hdy kdy hcs kcs hc1 kc1 hc2 kc2 hc3 kc3 hbg kbg hlp klp hrp krp hout kout houtD koutD hr0 hr1 hr2 hr3 hr4 hr5 hr6 hr7 hr8 hr9 hr10 hr11 hr12 hr13 hr14 hr15 hr16 hr17 hr18 hr19 hr20 hr21 hr22 hr23 hr24 hr25 hr26 hr27 hr28 hr29 hr30 hr31 hr32 hr33 hij hcj hB hI hl hi0 (by omega) (by omega) (by omega) kk
      by_cases cs31 : z = 31
      · refine lv_tableIn (tgt := 1234) cx.1 cx.2.1 dL_law_45 (by rw [q_toInt ⟨by omega, by omega⟩]; omega) (by rw [q_toInt ⟨by omega, by omega⟩]; omega) (off := 1189) (by rw [q_toInt ⟨by omega, by omega⟩, cs31]; rfl) (by decide) ?_
        exact law_c1234 hfl hN9 C0 cx hN hLA hX hx kx hso kso hrd krd hscr kscr hfc kfc hhist khist hrep krep hnow know hdr kdr hsv ksv htr ktr hba kba hnds knds hka kka hndn kndn hnsv knsv hcmds kcmds hmo kmo hbu kbu hsr ksr hsd ksd has kas haw kaw hpa kpa hnm knm hsnm ksnm hanm kanm hhp khp hdy kdy hcs kcs hc1 kc1 hc2 kc2 hc3 kc3 hbg kbg hlp klp hrp krp hout kout houtD koutD hr0 hr1 hr2 hr3 hr4 hr5 hr6 hr7 hr8 hr9 hr10 hr11 hr12 hr13 hr14 hr15 hr16 hr17 hr18 hr19 hr20 hr21 hr22 hr23 hr24 hr25 hr26 hr27 hr28 hr29 hr30 hr31 hr32 hr33 hij hcj hB hI hl hi0 (by omega) (by omega) (by omega) kk
      by_cases cs32 : z = 32
      · refine lv_tableIn (tgt := 1302) cx.1 cx.2.1 dL_law_45 (by rw [q_toInt ⟨by omega, by omega⟩]; omega) (by rw [q_toInt ⟨by omega, by omega⟩]; omega) (off := 1257) (by rw [q_toInt ⟨by omega, by omega⟩, cs32]; rfl) (by decide) ?_
        exact law_c1302 hfl hN9 C0 cx hN hLA hX hx kx hso kso hrd krd hscr kscr hfc kfc hhist khist hrep krep hnow know hdr kdr hsv ksv htr ktr hba kba hnds knds hka kka hndn kndn hnsv knsv hcmds kcmds hmo kmo hbu kbu hsr ksr hsd ksd has kas haw kaw hpa kpa hnm knm hsnm ksnm hanm kanm hhp khp hdy kdy hcs kcs hc1 kc1 hc2 kc2 hc3 kc3 hbg kbg hlp klp hrp krp hout kout houtD koutD hr0 hr1 hr2 hr3 hr4 hr5 hr6 hr7 hr8 hr9 hr10 hr11 hr12 hr13 hr14 hr15 hr16 hr17 hr18 hr19 hr20 hr21 hr22 hr23 hr24 hr25 hr26 hr27 hr28 hr29 hr30 hr31 hr32 hr33 hij hcj hB hI hl hi0 (by omega) (by omega) (by omega) kk
      by_cases cs33 : z = 33
      · refine lv_tableIn (tgt := 1342) cx.1 cx.2.1 dL_law_45 (by rw [q_toInt ⟨by omega, by omega⟩]; omega) (by rw [q_toInt ⟨by omega, by omega⟩]; omega) (off := 1297) (by rw [q_toInt ⟨by omega, by omega⟩, cs33]; rfl) (by decide) ?_
        exact law_c1342 hfl hN9 C0 cx hN hLA hX hx kx hso kso hrd krd hscr kscr hfc kfc hhist khist hrep krep hnow know hdr kdr hsv ksv htr ktr hba kba hnds knds hka kka hndn kndn hnsv knsv hcmds kcmds hmo kmo hbu kbu hsr ksr hsd ksd has kas haw kaw hpa kpa hnm knm hsnm ksnm hanm kanm hhp khp hdy kdy hcs kcs hc1 kc1 hc2 kc2 hc3 kc3 hbg kbg hlp klp hrp krp hout kout houtD koutD hr0 hr1 hr2 hr3 hr4 hr5 hr6 hr7 hr8 hr9 hr10 hr11 hr12 hr13 hr14 hr15 hr16 hr17 hr18 hr19 hr20 hr21 hr22 hr23 hr24 hr25 hr26 hr27 hr28 hr29 hr30 hr31 hr32 hr33 hij hcj hB hI hl hi0 (by omega) (by omega) (by omega) kk
      by_cases cs34 : z = 34
      · refine lv_tableIn (tgt := 1382) cx.1 cx.2.1 dL_law_45 (by rw [q_toInt ⟨by omega, by omega⟩]; omega) (by rw [q_toInt ⟨by omega, by omega⟩]; omega) (off := 1337) (by rw [q_toInt ⟨by omega, by omega⟩, cs34]; rfl) (by decide) ?_
        exact law_c1382 hfl hN9 C0 cx hN hLA hX hx kx hso kso hrd krd hscr kscr hfc kfc hhist khist hrep krep hnow know hdr kdr hsv ksv htr ktr hba kba hnds knds hka kka hndn kndn hnsv knsv hcmds kcmds hmo kmo hbu kbu hsr ksr hsd ksd has kas haw kaw hpa kpa hnm knm hsnm ksnm hanm kanm hhp khp hdy kdy hcs kcs hc1 kc1 hc2 kc2 hc3 kc3 hbg kbg hlp klp hrp krp hout kout houtD koutD hr0 hr1 hr2 hr3 hr4 hr5 hr6 hr7 hr8 hr9 hr10 hr11 hr12 hr13 hr14 hr15 hr16 hr17 hr18 hr19 hr20 hr21 hr22 hr23 hr24 hr25 hr26 hr27 hr28 hr29 hr30 hr31 hr32 hr33 hij hcj hB hI hl hi0 (by omega) (by omega) (by omega) kk
      by_cases cs35 : z = 35
      · refine lv_tableIn (tgt := 1410) cx.1 cx.2.1 dL_law_45 (by rw [q_toInt ⟨by omega, by omega⟩]; omega) (by rw [q_toInt ⟨by omega, by omega⟩]; omega) (off := 1365) (by rw [q_toInt ⟨by omega, by omega⟩, cs35]; rfl) (by decide) ?_
        exact law_c1410 hfl hN9 C0 cx hN hLA hX hx kx hso kso hrd krd hscr kscr hfc kfc hhist khist hrep krep hnow know hdr kdr hsv ksv htr ktr hba kba hnds knds hka kka hndn kndn hnsv knsv hcmds kcmds hmo kmo hbu kbu hsr ksr hsd ksd has kas haw kaw hpa kpa hnm knm hsnm ksnm hanm kanm hhp khp hdy kdy hcs kcs hc1 kc1 hc2 kc2 hc3 kc3 hbg kbg hlp klp hrp krp hout kout houtD koutD hr0 hr1 hr2 hr3 hr4 hr5 hr6 hr7 hr8 hr9 hr10 hr11 hr12 hr13 hr14 hr15 hr16 hr17 hr18 hr19 hr20 hr21 hr22 hr23 hr24 hr25 hr26 hr27 hr28 hr29 hr30 hr31 hr32 hr33 hij hcj hB hI hl hi0 (by omega) (by omega) (by omega) kk
      by_cases cs36 : z = 36
      · refine lv_tableIn (tgt := 1423) cx.1 cx.2.1 dL_law_45 (by rw [q_toInt ⟨by omega, by omega⟩]; omega) (by rw [q_toInt ⟨by omega, by omega⟩]; omega) (off := 1378) (by rw [q_toInt ⟨by omega, by omega⟩, cs36]; rfl) (by decide) ?_
        exact law_c1423 hfl hN9 C0 cx hN hLA hX hx kx hso kso hrd krd hscr kscr hfc kfc hhist khist hrep krep hnow know hdr kdr hsv ksv htr ktr hba kba hnds knds hka kka hndn kndn hnsv knsv hcmds kcmds hmo kmo hbu kbu hsr ksr hsd ksd has kas haw kaw hpa kpa hnm knm hsnm ksnm hanm kanm hhp khp hdy kdy hcs kcs hc1 kc1 hc2 kc2 hc3 kc3 hbg kbg hlp klp hrp krp hout kout houtD koutD hr0 hr1 hr2 hr3 hr4 hr5 hr6 hr7 hr8 hr9 hr10 hr11 hr12 hr13 hr14 hr15 hr16 hr17 hr18 hr19 hr20 hr21 hr22 hr23 hr24 hr25 hr26 hr27 hr28 hr29 hr30 hr31 hr32 hr33 hij hcj hB hI hl hi0 (by omega) (by omega) (by omega) kk
      by_cases cs37 : z = 37
      · refine lv_tableIn (tgt := 1451) cx.1 cx.2.1 dL_law_45 (by rw [q_toInt ⟨by omega, by omega⟩]; omega) (by rw [q_toInt ⟨by omega, by omega⟩]; omega) (off := 1406) (by rw [q_toInt ⟨by omega, by omega⟩, cs37]; rfl) (by decide) ?_
        exact law_c1451 hfl hN9 C0 cx hN hLA hX hx kx hso kso hrd krd hscr kscr hfc kfc hhist khist hrep krep hnow know hdr kdr hsv ksv htr ktr hba kba hnds knds hka kka hndn kndn hnsv knsv hcmds kcmds hmo kmo hbu kbu hsr ksr hsd ksd has kas haw kaw hpa kpa hnm knm hsnm ksnm hanm kanm hhp khp hdy kdy hcs kcs hc1 kc1 hc2 kc2 hc3 kc3 hbg kbg hlp klp hrp krp hout kout houtD koutD hr0 hr1 hr2 hr3 hr4 hr5 hr6 hr7 hr8 hr9 hr10 hr11 hr12 hr13 hr14 hr15 hr16 hr17 hr18 hr19 hr20 hr21 hr22 hr23 hr24 hr25 hr26 hr27 hr28 hr29 hr30 hr31 hr32 hr33 hij hcj hB hI hl hi0 (by omega) (by omega) (by omega) kk
      by_cases cs38 : z = 38
      · refine lv_tableIn (tgt := 1464) cx.1 cx.2.1 dL_law_45 (by rw [q_toInt ⟨by omega, by omega⟩]; omega) (by rw [q_toInt ⟨by omega, by omega⟩]; omega) (off := 1419) (by rw [q_toInt ⟨by omega, by omega⟩, cs38]; rfl) (by decide) ?_
        exact law_c1464 hfl hN9 C0 cx hN hLA hX hx kx hso kso hrd krd hscr kscr hfc kfc hhist khist hrep krep hnow know hdr kdr hsv ksv htr ktr hba kba hnds knds hka kka hndn kndn hnsv knsv hcmds kcmds hmo kmo hbu kbu hsr ksr hsd ksd has kas haw kaw hpa kpa hnm knm hsnm ksnm hanm kanm hhp khp hdy kdy hcs kcs hc1 kc1 hc2 kc2 hc3 kc3 hbg kbg hlp klp hrp krp hout kout houtD koutD hr0 hr1 hr2 hr3 hr4 hr5 hr6 hr7 hr8 hr9 hr10 hr11 hr12 hr13 hr14 hr15 hr16 hr17 hr18 hr19 hr20 hr21 hr22 hr23 hr24 hr25 hr26 hr27 hr28 hr29 hr30 hr31 hr32 hr33 hij hcj hB hI hl hi0 (by omega) (by omega) (by omega) kk
      by_cases cs39 : z = 39
      · refine lv_tableIn (tgt := 1477) cx.1 cx.2.1 dL_law_45 (by rw [q_toInt ⟨by omega, by omega⟩]; omega) (by rw [q_toInt ⟨by omega, by omega⟩]; omega) (off := 1432) (by rw [q_toInt ⟨by omega, by omega⟩, cs39]; rfl) (by decide) ?_
        exact law_c1477 hfl hN9 C0 cx hN hLA hX hx kx hso kso hrd krd hscr kscr hfc kfc hhist khist hrep krep hnow know hdr kdr hsv ksv htr ktr hba kba hnds knds hka kka hndn kndn hnsv knsv hcmds kcmds hmo kmo hbu kbu hsr ksr hsd ksd has kas haw kaw hpa kpa hnm knm hsnm ksnm hanm kanm hhp khp hdy kdy hcs kcs hc1 kc1 hc2 kc2 hc3 kc3 hbg kbg hlp klp hrp krp hout kout houtD koutD hr0 hr1 hr2 hr3 hr4 hr5 hr6 hr7 hr8 hr9 hr10 hr11 hr12 hr13 hr14 hr15 hr16 hr17 hr18 hr19 hr20 hr21 hr22 hr23 hr24 hr25 hr26 hr27 hr28 hr29 hr30 hr31 hr32 hr33 hij hcj hB hI hl hi0 (by omega) (by omega) (by omega) kk
      refine lv_tableOut (tgt := 1493) cx.1 cx.2.1 dL_law_45 (by rw [q_toInt ⟨by omega, by omega⟩]; omega) (by decide) ?_
      exact W.widen (k := cells + 6) (n := slots + 36) (by omega) (by omega) (kk f H locs ls tn nl9 ls9 xc hB hI hl)
