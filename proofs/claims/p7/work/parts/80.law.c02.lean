set_option maxHeartbeats 4000000 in
set_option maxRecDepth 100000 in
theorem law_c324 {p : Program} {l : Launch} {e : Env} {s : State} {m : MethodId} {below : List Frame} {meth : Method} {c : Code} {b N9 : Nat} {xs : Nat → Int32} (hfl : l.stackTraces = false) (hN9 : N9 ≤ 3072) (C0 : lw_At p s m meth c b N9 xs) (cx : CallFix p m c cL_law 10 s #[Value.ref b] q_al RL) {g : q_G} {ad : Nat → Nat} {K : Nat → Nat} {L : List Nat} (hN : L.Nodup) (hLA : ∀ q, q ∈ L → s.heap.size ≤ q) (hX : q_X ad (fun q => q ∈ L) s) {f0 : Nat → va_E} {x : Nat} (hx : x ∈ L) (kx : K x = 11) {so : Nat} (hso : so ∈ L) (kso : K so = 8) {rd : Nat} (hrd : rd ∈ L) (krd : K rd = 9) {scr : Nat} (hscr : scr ∈ L) (kscr : K scr = 7) {fc : Nat} (hfc : fc ∈ L) (kfc : K fc = 1) {hist : Nat} (hhist : hist ∈ L) (khist : K hist = 2) {rep : Nat} (hrep : rep ∈ L) (krep : K rep = 6) {now : Nat} (hnow : now ∈ L) (know : K now = 10) {dr : Nat} (hdr : dr ∈ L) (kdr : K dr = 13) {sv : Nat} (hsv : sv ∈ L) (ksv : K sv = 14) {tr : Nat} (htr : tr ∈ L) (ktr : K tr = 15) {ba : Nat} (hba : ba ∈ L) (kba : K ba = 142) {nds : Nat} (hnds : nds ∈ L) (knds : K nds = 111) {ka : Nat} (hka : ka ∈ L) (kka : K ka = 140) {ndn : Nat} (hndn : ndn ∈ L) (kndn : K ndn = 110) {nsv : Nat} (hnsv : nsv ∈ L) (knsv : K nsv = 112) {cmds : Nat} (hcmds : cmds ∈ L) (kcmds : K cmds = 141) {mo : Nat} (hmo : mo ∈ L) (kmo : K mo = 12) {bu : Nat} (hbu : bu ∈ L) (kbu : K bu = 150) {sr : Nat} (hsr : sr ∈ L) (ksr : K sr = 151) {sd : Nat} (hsd : sd ∈ L) (ksd : K sd = 152) {as : Nat} (has : as ∈ L) (kas : K as = 153) {aw : Nat} (haw : aw ∈ L) (kaw : K aw = 154) {pa : Nat} (hpa : pa ∈ L) (kpa : K pa = 155) {nm : Nat} (hnm : nm ∈ L) (knm : K nm = 156) {snm : Nat} (hsnm : snm ∈ L) (ksnm : K snm = 157) {anm : Nat} (hanm : anm ∈ L) (kanm : K anm = 158) {hp : Nat} (hhp : hp ∈ L) (khp : K hp = 159) {dy : Nat} (hdy : dy ∈ L) (kdy : K dy = 160) {cs : Nat} (hcs : cs ∈ L) (kcs : K cs = 161) {c1 : Nat} (hc1 : c1 ∈ L) (kc1 : K c1 = 162) {c2 : Nat} (hc2 : c2 ∈ L) (kc2 : K c2 = 163) {c3 : Nat} (hc3 : c3 ∈ L) (kc3 : K c3 = 164) {bg : Nat} (hbg : bg ∈ L) (kbg : K bg = 165) {lp : Nat} (hlp : lp ∈ L) (klp : K lp = 166) {rp : Nat} (hrp : rp ∈ L) (krp : K rp = 167) {out : Nat} (hout : out ∈ L) (kout : K out = 168) {outD : Nat} (houtD : outD ∈ L) (koutD : K outD = 169) (hr0 : q_ir (q_r f0 x 0) so) (hr1 : q_ir (q_r f0 x 1) rd) (hr2 : q_ir (q_r f0 x 2) scr) (hr3 : q_ir (q_r f0 x 3) fc) (hr4 : q_ir (q_r f0 x 4) hist) (hr5 : q_ir (q_r f0 x 5) rep) (hr6 : q_ir (q_r f0 x 6) now) (hr7 : q_ir (q_r f0 x 7) dr) (hr8 : q_ir (q_r f0 x 8) sv) (hr9 : q_ir (q_r f0 fc 0) tr) (hr10 : q_ir (q_r f0 so 0) ba) (hr11 : q_ir (q_r f0 dr 0) nds) (hr12 : q_ir (q_r f0 hist 0) ka) (hr13 : q_ir (q_r f0 now 0) ndn) (hr14 : q_ir (q_r f0 sv 0) nsv) (hr15 : q_ir (q_r f0 scr 0) cmds) (hr16 : q_ir (q_r f0 mo 1) bu) (hr17 : q_ir (q_r f0 mo 13) sr) (hr18 : q_ir (q_r f0 mo 14) sd) (hr19 : q_ir (q_r f0 mo 15) as) (hr20 : q_ir (q_r f0 mo 16) aw) (hr21 : q_ir (q_r f0 mo 17) pa) (hr22 : q_ir (q_r f0 mo 18) nm) (hr23 : q_ir (q_r f0 mo 19) snm) (hr24 : q_ir (q_r f0 mo 20) anm) (hr25 : q_ir (q_r f0 mo 24) hp) (hr26 : q_ir (q_r f0 mo 25) dy) (hr27 : q_ir (q_r f0 mo 29) cs) (hr28 : q_ir (q_r f0 mo 30) c1) (hr29 : q_ir (q_r f0 mo 31) c2) (hr30 : q_ir (q_r f0 mo 32) c3) (hr31 : q_ir (q_r f0 mo 33) bg) (hr32 : q_ir (q_r f0 mo 34) lp) (hr33 : q_ir (q_r f0 mo 38) rp) (hij : tk_ij K L f0 nds) (hcj : tk_c3 K L f0 cmds) {f : Nat → va_E} {H : Heap} {locs : List Loc} {ls : Array Slot} {cells slots : Nat} {ii tn : Int} {nl9 ls9 : List (List Int)} {xc : Int} (hB : q_B g K L (fun q => s.heap.size ≤ q) [(0, 0, 6), (2, 1, 2), (3, 0, 4), (4, 0, 7), (5, 0, 9), (6, 1, 1), (7, 1, 4), (8, 1, 9), (9, 0, 2), (10, 3, 15), (11, 9, 9), (12, 0, 0), (12, 2, 12), (12, 21, 23), (12, 26, 28), (12, 35, 37), (12, 39, 40), (13, 3, 15), (14, 3, 15), (15, 3, 15), (16, 3, 15), (17, 0, 9), (18, 0, 9), (19, 0, 9), (20, 0, 9), (21, 0, 4), (22, 0, 4), (23, 0, 4), (24, 0, 4), (25, 0, 7), (26, 0, 7), (27, 0, 7), (28, 0, 7), (142, 0, 599), (143, 0, 599), (150, 0, 599), (151, 0, 657), (152, 0, 657), (153, 0, 657), (154, 0, 657), (155, 0, 3947), (156, 0, 9), (157, 0, 9), (158, 0, 9), (159, 0, 9), (160, 0, 9), (161, 0, 59), (162, 0, 58), (163, 0, 58), (164, 0, 58), (165, 0, 1), (166, 0, 1), (167, 0, 479), (168, 0, 0), (169, 0, 0)] f0 f s H locs) (hI : q_Iv6 K L f x so mo sr pa sd bu ba now ndn hist ka sv nsv nm snm tn nl9 ls9 xc) (hl : lv_has ls 10 [(5, .int (q_i ii)), (4, .ref outD), (3, .ref out), (2, .ref mo), (1, .ref x), (0, .ref b)]) (hi0 : 0 ≤ ii) (hi6 : ii + 6 ≤ N9) (hce : cells + 6 ≤ 10000) (hse : slots + 36 ≤ 100000) (kk : ∀ (f1 : Nat → va_E) (H1 : Heap) (locs1 : List Loc) (ls1 : Array Slot) (tn1 : Int) (nl1 ls1_ : List (List Int)) (xc1 : Int), q_B g K L (fun q => s.heap.size ≤ q) [(0, 0, 6), (2, 1, 2), (3, 0, 4), (4, 0, 7), (5, 0, 9), (6, 1, 1), (7, 1, 4), (8, 1, 9), (9, 0, 2), (10, 3, 15), (11, 9, 9), (12, 0, 0), (12, 2, 12), (12, 21, 23), (12, 26, 28), (12, 35, 37), (12, 39, 40), (13, 3, 15), (14, 3, 15), (15, 3, 15), (16, 3, 15), (17, 0, 9), (18, 0, 9), (19, 0, 9), (20, 0, 9), (21, 0, 4), (22, 0, 4), (23, 0, 4), (24, 0, 4), (25, 0, 7), (26, 0, 7), (27, 0, 7), (28, 0, 7), (142, 0, 599), (143, 0, 599), (150, 0, 599), (151, 0, 657), (152, 0, 657), (153, 0, 657), (154, 0, 657), (155, 0, 3947), (156, 0, 9), (157, 0, 9), (158, 0, 9), (159, 0, 9), (160, 0, 9), (161, 0, 59), (162, 0, 58), (163, 0, 58), (164, 0, 58), (165, 0, 1), (166, 0, 1), (167, 0, 479), (168, 0, 0), (169, 0, 0)] f0 f1 s H1 locs1 → q_Iv6 K L f1 x so mo sr pa sd bu ba now ndn hist ka sv nsv nm snm tn1 nl1 ls1_ xc1 → lv_has ls1 10 [(5, .int (q_i ii)), (4, .ref outD), (3, .ref out), (2, .ref mo), (1, .ref x), (0, .ref b)] → W p l e room_1 s m #[Value.ref b] below meth c H1 locs1 (cells + 6) (slots + 36) (lw_Z below #[Value.ref b] s) (F0 m 1493 ls1 [])) : W p l e room_1 s m #[Value.ref b] below meth c H locs (cells) (slots) (lw_Z below #[Value.ref b] s) (F0 m 324 ls []) := by
  have hXs := C0.2.2.2.2.2.2.1
  have hbl := C0.2.2.2.2.2.2.2.1
  have hbA := q_bA hbl
  obtain ⟨⟨hn0, hn1, ltn, utn⟩, hgr, hpk, hsd9, ht3, ht4, hbb, hsr0, hxc, hvn, hvk, hvs, hrn9, hrs9, hpc, hs22, he2, he3⟩ := hI
  have lxc : 0 ≤ xc := by omega
  have uxc : xc ≤ 10 := by have h7 := hvn.2.1.2; omega
  have hr0 : q_ir (q_r f x 0) so := Eq.trans (hB.2.2.r hx (by rw [kx]; rfl)) hr0
  have hr1 : q_ir (q_r f x 1) rd := Eq.trans (hB.2.2.r hx (by rw [kx]; rfl)) hr1
  have hr2 : q_ir (q_r f x 2) scr := Eq.trans (hB.2.2.r hx (by rw [kx]; rfl)) hr2
  have hr3 : q_ir (q_r f x 3) fc := Eq.trans (hB.2.2.r hx (by rw [kx]; rfl)) hr3
  have hr4 : q_ir (q_r f x 4) hist := Eq.trans (hB.2.2.r hx (by rw [kx]; rfl)) hr4
  have hr5 : q_ir (q_r f x 5) rep := Eq.trans (hB.2.2.r hx (by rw [kx]; rfl)) hr5
  have hr6 : q_ir (q_r f x 6) now := Eq.trans (hB.2.2.r hx (by rw [kx]; rfl)) hr6
  have hr7 : q_ir (q_r f x 7) dr := Eq.trans (hB.2.2.r hx (by rw [kx]; rfl)) hr7
  have hr8 : q_ir (q_r f x 8) sv := Eq.trans (hB.2.2.r hx (by rw [kx]; rfl)) hr8
  have hr9 : q_ir (q_r f fc 0) tr := Eq.trans (hB.2.2.r hfc (by rw [kfc]; rfl)) hr9
  have hr10 : q_ir (q_r f so 0) ba := Eq.trans (hB.2.2.r hso (by rw [kso]; rfl)) hr10
  have hr11 : q_ir (q_r f dr 0) nds := Eq.trans (hB.2.2.r hdr (by rw [kdr]; rfl)) hr11
  have hr12 : q_ir (q_r f hist 0) ka := Eq.trans (hB.2.2.r hhist (by rw [khist]; rfl)) hr12
  have hr13 : q_ir (q_r f now 0) ndn := Eq.trans (hB.2.2.r hnow (by rw [know]; rfl)) hr13
  have hr14 : q_ir (q_r f sv 0) nsv := Eq.trans (hB.2.2.r hsv (by rw [ksv]; rfl)) hr14
  have hr15 : q_ir (q_r f scr 0) cmds := Eq.trans (hB.2.2.r hscr (by rw [kscr]; rfl)) hr15
  have hr16 : q_ir (q_r f mo 1) bu := Eq.trans (hB.2.2.r hmo (by rw [kmo]; rfl)) hr16
  have hr17 : q_ir (q_r f mo 13) sr := Eq.trans (hB.2.2.r hmo (by rw [kmo]; rfl)) hr17
  have hr18 : q_ir (q_r f mo 14) sd := Eq.trans (hB.2.2.r hmo (by rw [kmo]; rfl)) hr18
  have hr19 : q_ir (q_r f mo 15) as := Eq.trans (hB.2.2.r hmo (by rw [kmo]; rfl)) hr19
  have hr20 : q_ir (q_r f mo 16) aw := Eq.trans (hB.2.2.r hmo (by rw [kmo]; rfl)) hr20
  have hr21 : q_ir (q_r f mo 17) pa := Eq.trans (hB.2.2.r hmo (by rw [kmo]; rfl)) hr21
  have hr22 : q_ir (q_r f mo 18) nm := Eq.trans (hB.2.2.r hmo (by rw [kmo]; rfl)) hr22
  have hr23 : q_ir (q_r f mo 19) snm := Eq.trans (hB.2.2.r hmo (by rw [kmo]; rfl)) hr23
  have hr24 : q_ir (q_r f mo 20) anm := Eq.trans (hB.2.2.r hmo (by rw [kmo]; rfl)) hr24
  have hr25 : q_ir (q_r f mo 24) hp := Eq.trans (hB.2.2.r hmo (by rw [kmo]; rfl)) hr25
  have hr26 : q_ir (q_r f mo 25) dy := Eq.trans (hB.2.2.r hmo (by rw [kmo]; rfl)) hr26
  have hr27 : q_ir (q_r f mo 29) cs := Eq.trans (hB.2.2.r hmo (by rw [kmo]; rfl)) hr27
  have hr28 : q_ir (q_r f mo 30) c1 := Eq.trans (hB.2.2.r hmo (by rw [kmo]; rfl)) hr28
  have hr29 : q_ir (q_r f mo 31) c2 := Eq.trans (hB.2.2.r hmo (by rw [kmo]; rfl)) hr29
  have hr30 : q_ir (q_r f mo 32) c3 := Eq.trans (hB.2.2.r hmo (by rw [kmo]; rfl)) hr30
  have hr31 : q_ir (q_r f mo 33) bg := Eq.trans (hB.2.2.r hmo (by rw [kmo]; rfl)) hr31
  have hr32 : q_ir (q_r f mo 34) lp := Eq.trans (hB.2.2.r hmo (by rw [kmo]; rfl)) hr32
  have hr33 : q_ir (q_r f mo 38) rp := Eq.trans (hB.2.2.r hmo (by rw [kmo]; rfl)) hr33
  have hij : tk_ij K L f nds := tk_ij_tr hij (fun i9 => hB.2.2.r hnds (by rw [knds]; rfl))
  have hcj : tk_c3 K L f cmds := tk_c3_tr hcj (fun i9 => hB.2.2.r hcmds (by rw [kcmds]; rfl))
  obtain ⟨B, hBd⟩ : ∃ B9 : Nat → Int, ∀ i9 : Nat, B9 i9 = q_z f ba i9 := ⟨_, fun _ => rfl⟩
  have htb : tk_tb f ba B tn := fun i9 h9 => (hBd i9).symm
  have hub : tk_ub f bu B tn := tk_bb_ub hbb hB.2.1 hba kba hBd utn
  obtain ⟨x1, ex1⟩ : ∃ zz, q_is (q_z f sr 3) zz := ⟨_, q_isr _⟩
  obtain ⟨lx1, ux1⟩ : 0 ≤ x1 ∧ x1 ≤ 9999 := q_isb ex1 ⟨(hgr 3 (by decide)).1, ht3⟩
  obtain ⟨x2, ex2⟩ : ∃ zz, q_is (q_z f sr 4) zz := ⟨_, q_isr _⟩
  obtain ⟨lx2, ux2⟩ : 0 ≤ x2 ∧ x2 ≤ 60 := q_isb ex2 ⟨(hgr 4 (by decide)).1, ht4⟩
  refine q_ald_n cx dL_law_324 rfl (lv_at hl 4 rfl) ?_
  refine q_ald_n cx dL_law_325 rfl (lv_at hl 2 rfl) ?_
  refine q_cWS (As := [.ref x, .ref out]) (rest := []) cx hX hB (fun q h => hLA q h) (fun q h1 h2 => absurd h1 (Nat.not_le_of_lt h2)) hN (f_wreadText l g ad hN hB.2.1 hfl B nl9 x hx kx out hout kout so hso kso rd hrd krd scr hscr kscr fc hfc kfc hist hhist khist rep hrep krep now hnow know dr hdr kdr sv hsv ksv tr htr ktr ba hba kba nds hnds knds ka hka kka ndn hndn kndn nsv hnsv knsv tn (by omega) (by omega) hn0 hr0 hr1 hr2 hr3 hr4 hr5 hr6 hr7 hr8 hr9 hr10 hr11 hr12 hr13 hr14 htb hij hvn hvk) q_cL_128 q_dL_readText ⟨by decide, by show cells + 1 ≤ 601024; omega, by show slots + 6 ≤ 7293034; omega⟩ rfl rfl hl.1 rfl (Nat.le_of_ble_eq_true rfl) dL_law_326 (fun v9 H locs f3 h5 hF hB => ?_)
  obtain ⟨y4, rfl, ry4, h5⟩ := h5
  refine W.eq (g2 := F0 m 329 ls [.int (q_i y4)]) rfl ?_
  rcases h5 with h6 | h7
  · obtain ⟨qy4, z8, z9, z10, t11, g12⟩ := h6
    have z13 : q_is (q_z f3 mo 2) tn := Eq.trans (hF.z hmo (by rw [kmo]; rfl)) hn1
    have z14 : q_is (q_z f3 sr 0) xc := Eq.trans (hF.z hsr (by rw [ksr]; rfl)) hsr0
    have z15 : q_is (q_z f3 sr 3) x1 := Eq.trans (hF.z hsr (by rw [ksr]; rfl)) ex1
    have z16 : q_is (q_z f3 sr 4) x2 := Eq.trans (hF.z hsr (by rw [ksr]; rfl)) ex2
    have z17 : q_ir (q_r f3 x 0) so := Eq.trans (hF.r hx (by rw [kx]; rfl)) hr0
    have z18 : q_ir (q_r f3 x 1) rd := Eq.trans (hF.r hx (by rw [kx]; rfl)) hr1
    have z19 : q_ir (q_r f3 x 2) scr := Eq.trans (hF.r hx (by rw [kx]; rfl)) hr2
    have z20 : q_ir (q_r f3 x 3) fc := Eq.trans (hF.r hx (by rw [kx]; rfl)) hr3
    have z21 : q_ir (q_r f3 x 4) hist := Eq.trans (hF.r hx (by rw [kx]; rfl)) hr4
    have z22 : q_ir (q_r f3 x 5) rep := Eq.trans (hF.r hx (by rw [kx]; rfl)) hr5
    have z23 : q_ir (q_r f3 x 6) now := Eq.trans (hF.r hx (by rw [kx]; rfl)) hr6
    have z24 : q_ir (q_r f3 x 7) dr := Eq.trans (hF.r hx (by rw [kx]; rfl)) hr7
    have z25 : q_ir (q_r f3 x 8) sv := Eq.trans (hF.r hx (by rw [kx]; rfl)) hr8
    have z26 : q_ir (q_r f3 fc 0) tr := Eq.trans (hF.r hfc (by rw [kfc]; rfl)) hr9
    have z27 : q_ir (q_r f3 so 0) ba := Eq.trans (hF.r hso (by rw [kso]; rfl)) hr10
    have z28 : q_ir (q_r f3 dr 0) nds := Eq.trans (hF.r hdr (by rw [kdr]; rfl)) hr11
    have z29 : q_ir (q_r f3 hist 0) ka := Eq.trans (hF.r hhist (by rw [khist]; rfl)) hr12
    have z30 : q_ir (q_r f3 now 0) ndn := Eq.trans (hF.r hnow (by rw [know]; rfl)) hr13
    have z31 : q_ir (q_r f3 sv 0) nsv := Eq.trans (hF.r hsv (by rw [ksv]; rfl)) hr14
    have z32 : q_ir (q_r f3 scr 0) cmds := Eq.trans (hF.r hscr (by rw [kscr]; rfl)) hr15
    have z33 : q_ir (q_r f3 mo 1) bu := Eq.trans (hF.r hmo (by rw [kmo]; rfl)) hr16
    have z34 : q_ir (q_r f3 mo 13) sr := Eq.trans (hF.r hmo (by rw [kmo]; rfl)) hr17
    have z35 : q_ir (q_r f3 mo 14) sd := Eq.trans (hF.r hmo (by rw [kmo]; rfl)) hr18
    have z36 : q_ir (q_r f3 mo 15) as := Eq.trans (hF.r hmo (by rw [kmo]; rfl)) hr19
    have z37 : q_ir (q_r f3 mo 16) aw := Eq.trans (hF.r hmo (by rw [kmo]; rfl)) hr20
    have z38 : q_ir (q_r f3 mo 17) pa := Eq.trans (hF.r hmo (by rw [kmo]; rfl)) hr21
    have z39 : q_ir (q_r f3 mo 18) nm := Eq.trans (hF.r hmo (by rw [kmo]; rfl)) hr22
    have z40 : q_ir (q_r f3 mo 19) snm := Eq.trans (hF.r hmo (by rw [kmo]; rfl)) hr23
    have z41 : q_ir (q_r f3 mo 20) anm := Eq.trans (hF.r hmo (by rw [kmo]; rfl)) hr24
    have z42 : q_ir (q_r f3 mo 24) hp := Eq.trans (hF.r hmo (by rw [kmo]; rfl)) hr25
    have z43 : q_ir (q_r f3 mo 25) dy := Eq.trans (hF.r hmo (by rw [kmo]; rfl)) hr26
    have z44 : q_ir (q_r f3 mo 29) cs := Eq.trans (hF.r hmo (by rw [kmo]; rfl)) hr27
    have z45 : q_ir (q_r f3 mo 30) c1 := Eq.trans (hF.r hmo (by rw [kmo]; rfl)) hr28
    have z46 : q_ir (q_r f3 mo 31) c2 := Eq.trans (hF.r hmo (by rw [kmo]; rfl)) hr29
    have z47 : q_ir (q_r f3 mo 32) c3 := Eq.trans (hF.r hmo (by rw [kmo]; rfl)) hr30
    have z48 : q_ir (q_r f3 mo 33) bg := Eq.trans (hF.r hmo (by rw [kmo]; rfl)) hr31
    have z49 : q_ir (q_r f3 mo 34) lp := Eq.trans (hF.r hmo (by rw [kmo]; rfl)) hr32
    have z50 : q_ir (q_r f3 mo 38) rp := Eq.trans (hF.r hmo (by rw [kmo]; rfl)) hr33
    have g51 : q_gr f3 sr := q_gr_fr hgr (fun i9 _ => hF.z hsr (by rw [ksr]; rfl))
    have g52 : q_z f3 x 9 = q_z f3 mo 22 := tk_s2_tr hs22 (hF.z hx (by rw [kx]; rfl)) (hF.z hmo (by rw [kmo]; rfl))
    have g53 : q_pk f3 mo pa := q_pk_tr hpk (hF.z hmo (by rw [kmo]; rfl)) (fun i9 => hF.z hpa (by rw [kpa]; rfl))
    have g54 : q_sv f3 mo sd := q_sv_tr hsd9 (hF.z hmo (by rw [kmo]; rfl)) (fun i9 => hF.z hsd (by rw [ksd]; rfl))
    have g55 : tk_bb f3 bu ba tn := tk_bb_tr hbb (fun i9 => hF.z hbu (by rw [kbu]; rfl)) (fun i9 => hF.z hba (by rw [kba]; rfl))
    have g56 : tk_ij K L f3 nds := tk_ij_tr hij (fun i9 => hF.r hnds (by rw [knds]; rfl))
    have g57 : tk_c3 K L f3 cmds := tk_c3_tr hcj (fun i9 => hF.r hcmds (by rw [kcmds]; rfl))
    have g58 : tk_vs K L f3 x sv nsv ls9 := tk_vs_tr hvs (hF.z hx (by rw [kx]; rfl)) (hF.z hsv (by rw [ksv]; rfl)) (fun a9 h9 k9 => hF.j h9 (by rw [k9]; rfl)) (fun i9 => hF.r hnsv (by rw [knsv]; rfl))
    have g59 : tk_nq f3 nm nl9 := tk_nq_tr hrn9 (fun i9 => hF.j hnm (by rw [knm]; rfl))
    have g60 : tk_rs f3 mo sd snm ls9 := tk_rs_tr hrs9 (hF.z hmo (by rw [kmo]; rfl)) (fun i9 h9 k9 => hF.z hsd (by rw [ksd]; exact q_inWr rfl h9 k9)) (fun i9 => hF.j hsnm (by rw [ksnm]; rfl))
    have g61 : q_pc f3 mo pa xc := q_pc_tr hpc (hF.z hmo (by rw [kmo]; rfl)) (fun i9 => hF.z hpa (by rw [kpa]; rfl))
    have g62 : tk_tb f3 ba B tn := tk_tb_tr htb (fun i9 => hF.z hba (by rw [kba]; rfl))
    have g63 : tk_ub f3 bu B tn := tk_ub_tr hub (fun i9 => hF.z hbu (by rw [kbu]; rfl))
    subst qy4
    obtain ⟨A9, hA9, hle9, hj9, hv9⟩ := t11
    obtain ⟨nA, enA⟩ : ∃ zz : Int, ((tk_nd A9).length : Int) = zz := ⟨_, rfl⟩
    rw [enA] at hj9
    have lnA : 0 ≤ nA := by omega
    have unA : nA ≤ 10 := by omega
    refine lv_istore (lv' := [(6, .int (q_i 0)), (5, .int (q_i ii)), (4, .ref outD), (3, .ref out), (2, .ref mo), (1, .ref x), (0, .ref b)]) cx.1 cx.2.1 dL_law_329 hl (by decide) rfl (fun ls hl => ?_)
    refine q_ald_n cx dL_law_331 rfl (lv_at hl 4 rfl) ?_
    refine q_cVi (As := []) (rest := []) cx hB (fun q h => hLA q h) hN hmo kmo (by decide) rfl (f_mreadText l g hN hB.2.1 B nl9 mo hmo kmo sr hsr ksr as has kas nm hnm knm anm hanm kanm bu hbu kbu pa hpa kpa x1 (by omega) (by omega) x2 (by omega) (by omega) xc (by omega) (by omega) tn (by omega) (by omega) z15 z16 z14 z13 z34 z36 z39 z41 z33 z38 g51 g53 g61 g63 g59) q_cL_131 q_dX12_readText ⟨by decide, by show cells + 1 ≤ 601024; omega, by show slots + 6 ≤ 7293034; omega⟩ rfl rfl hl.1 rfl (Nat.le_of_ble_eq_true rfl) dL_law_332 (fun y65 H locs f64 ry65 h66 hF hB => ?_)
    rcases h66 with h67 | h68
    · obtain ⟨ly65, uy65, lz69, uz69, lz70, uz70, z71, z72, z73, z74, z75, t76, g77, g78⟩ := h67
      have z79 : q_j f64 out 0 = (q_l nA) := (hF.j hout (by rw [kout]; rfl)).trans hj9
      have z80 : q_is (q_z f64 so 1) 0 := Eq.trans (hF.z hso (by rw [kso]; rfl)) z8
      have z81 : q_is (q_z f64 so 2) 0 := Eq.trans (hF.z hso (by rw [kso]; rfl)) z9
      have z82 : q_is (q_z f64 so 3) (-1) := Eq.trans (hF.z hso (by rw [kso]; rfl)) z10
      have z83 : q_ir (q_r f64 x 0) so := Eq.trans (hF.r hx (by rw [kx]; rfl)) z17
      have z84 : q_ir (q_r f64 x 1) rd := Eq.trans (hF.r hx (by rw [kx]; rfl)) z18
      have z85 : q_ir (q_r f64 x 2) scr := Eq.trans (hF.r hx (by rw [kx]; rfl)) z19
      have z86 : q_ir (q_r f64 x 3) fc := Eq.trans (hF.r hx (by rw [kx]; rfl)) z20
      have z87 : q_ir (q_r f64 x 4) hist := Eq.trans (hF.r hx (by rw [kx]; rfl)) z21
      have z88 : q_ir (q_r f64 x 5) rep := Eq.trans (hF.r hx (by rw [kx]; rfl)) z22
      have z89 : q_ir (q_r f64 x 6) now := Eq.trans (hF.r hx (by rw [kx]; rfl)) z23
      have z90 : q_ir (q_r f64 x 7) dr := Eq.trans (hF.r hx (by rw [kx]; rfl)) z24
      have z91 : q_ir (q_r f64 x 8) sv := Eq.trans (hF.r hx (by rw [kx]; rfl)) z25
      have z92 : q_ir (q_r f64 fc 0) tr := Eq.trans (hF.r hfc (by rw [kfc]; rfl)) z26
      have z93 : q_ir (q_r f64 so 0) ba := Eq.trans (hF.r hso (by rw [kso]; rfl)) z27
      have z94 : q_ir (q_r f64 dr 0) nds := Eq.trans (hF.r hdr (by rw [kdr]; rfl)) z28
      have z95 : q_ir (q_r f64 hist 0) ka := Eq.trans (hF.r hhist (by rw [khist]; rfl)) z29
      have z96 : q_ir (q_r f64 now 0) ndn := Eq.trans (hF.r hnow (by rw [know]; rfl)) z30
      have z97 : q_ir (q_r f64 sv 0) nsv := Eq.trans (hF.r hsv (by rw [ksv]; rfl)) z31
      have z98 : q_ir (q_r f64 scr 0) cmds := Eq.trans (hF.r hscr (by rw [kscr]; rfl)) z32
      have z99 : q_ir (q_r f64 mo 1) bu := Eq.trans (hF.r hmo (by rw [kmo]; rfl)) z33
      have z100 : q_ir (q_r f64 mo 13) sr := Eq.trans (hF.r hmo (by rw [kmo]; rfl)) z34
      have z101 : q_ir (q_r f64 mo 14) sd := Eq.trans (hF.r hmo (by rw [kmo]; rfl)) z35
      have z102 : q_ir (q_r f64 mo 15) as := Eq.trans (hF.r hmo (by rw [kmo]; rfl)) z36
      have z103 : q_ir (q_r f64 mo 16) aw := Eq.trans (hF.r hmo (by rw [kmo]; rfl)) z37
      have z104 : q_ir (q_r f64 mo 17) pa := Eq.trans (hF.r hmo (by rw [kmo]; rfl)) z38
      have z105 : q_ir (q_r f64 mo 18) nm := Eq.trans (hF.r hmo (by rw [kmo]; rfl)) z39
      have z106 : q_ir (q_r f64 mo 19) snm := Eq.trans (hF.r hmo (by rw [kmo]; rfl)) z40
      have z107 : q_ir (q_r f64 mo 20) anm := Eq.trans (hF.r hmo (by rw [kmo]; rfl)) z41
      have z108 : q_ir (q_r f64 mo 24) hp := Eq.trans (hF.r hmo (by rw [kmo]; rfl)) z42
      have z109 : q_ir (q_r f64 mo 25) dy := Eq.trans (hF.r hmo (by rw [kmo]; rfl)) z43
      have z110 : q_ir (q_r f64 mo 29) cs := Eq.trans (hF.r hmo (by rw [kmo]; rfl)) z44
      have z111 : q_ir (q_r f64 mo 30) c1 := Eq.trans (hF.r hmo (by rw [kmo]; rfl)) z45
      have z112 : q_ir (q_r f64 mo 31) c2 := Eq.trans (hF.r hmo (by rw [kmo]; rfl)) z46
      have z113 : q_ir (q_r f64 mo 32) c3 := Eq.trans (hF.r hmo (by rw [kmo]; rfl)) z47
      have z114 : q_ir (q_r f64 mo 33) bg := Eq.trans (hF.r hmo (by rw [kmo]; rfl)) z48
      have z115 : q_ir (q_r f64 mo 34) lp := Eq.trans (hF.r hmo (by rw [kmo]; rfl)) z49
      have z116 : q_ir (q_r f64 mo 38) rp := Eq.trans (hF.r hmo (by rw [kmo]; rfl)) z50
      have g117 : q_z f64 x 9 = q_z f64 mo 22 := tk_s2_tr g52 (hF.z hx (by rw [kx]; rfl)) (hF.z hmo (by rw [kmo]; rfl))
      have g118 : q_sv f64 mo sd := q_sv_tr g54 (hF.z hmo (by rw [kmo]; rfl)) (fun i9 => hF.z hsd (by rw [ksd]; rfl))
      have g119 : tk_bb f64 bu ba tn := tk_bb_tr g55 (fun i9 => hF.z hbu (by rw [kbu]; rfl)) (fun i9 => hF.z hba (by rw [kba]; rfl))
      have g120 : tk_ij K L f64 nds := tk_ij_tr g56 (fun i9 => hF.r hnds (by rw [knds]; rfl))
      have g121 : tk_c3 K L f64 cmds := tk_c3_tr g57 (fun i9 => hF.r hcmds (by rw [kcmds]; rfl))
      have g122 : tk_vs K L f64 x sv nsv ls9 := tk_vs_tr g58 (hF.z hx (by rw [kx]; rfl)) (hF.z hsv (by rw [ksv]; rfl)) (fun a9 h9 k9 => hF.j h9 (by rw [k9]; rfl)) (fun i9 => hF.r hnsv (by rw [knsv]; rfl))
      have g123 : tk_rs f64 mo sd snm ls9 := tk_rs_tr g60 (hF.z hmo (by rw [kmo]; rfl)) (fun i9 h9 k9 => hF.z hsd (by rw [ksd]; exact q_inWr rfl h9 k9)) (fun i9 => hF.j hsnm (by rw [ksnm]; rfl))
      have g124 : tk_tb f64 ba B tn := tk_tb_tr g62 (fun i9 => hF.z hba (by rw [kba]; rfl))
      have g125 : tk_ub f64 bu B tn := tk_ub_tr g63 (fun i9 => hF.z hbu (by rw [kbu]; rfl))
      have g126 : tk_vk K L f64 hist ka now ndn := tk_vk_tr g12 (hF.z hhist (by rw [khist]; rfl)) (hF.z hhist (by rw [khist]; rfl)) (hF.z hnow (by rw [know]; rfl)) (fun a9 h9 k9 => hF.j h9 (by rw [k9]; rfl)) (fun i9 => hF.r hndn (by rw [kndn]; rfl)) (fun a9 h9 k9 => hF.z h9 (by rw [k9]; rfl)) (fun a9 h9 k9 => hF.j h9 (by rw [k9]; rfl)) (fun i9 => hF.r hka (by rw [kka]; rfl)) (fun a9 h9 k9 => hF.r h9 (by rw [k9]; rfl)) (fun a9 h9 k9 i9 => hF.r h9 (by rw [k9]; rfl))
      have g127 : tk_vn K L 5 f64 now ndn (tk_nd A9) := tk_vn_tr hv9 (hF.z hnow (by rw [know]; rfl)) (fun a9 h9 k9 => hF.j h9 (by rw [k9]; rfl)) (fun i9 => hF.r hndn (by rw [kndn]; rfl))
      obtain ⟨x128, ex128⟩ : ∃ zz, q_is (q_z f64 sr 3) zz := ⟨_, q_isr _⟩
      obtain ⟨lx128, ux128⟩ := q_isb ex128 ⟨lz69, uz69⟩
      obtain ⟨x129, ex129⟩ : ∃ zz, q_is (q_z f64 sr 4) zz := ⟨_, q_isr _⟩
      obtain ⟨lx129, ux129⟩ := q_isb ex129 ⟨lz70, uz70⟩
      obtain ⟨A8, hA8, hz8, hr8, hc8⟩ := t76
      obtain rfl : A8 = A9 := tk_inj (hA8.symm.trans hA9)
      have hz9 : y65 = nA := by rw [hz8, ← enA]
      have hsr9 : q_is (q_z f64 sr 0) nA := hc8.symm.trans enA
      have hpc9 : q_pc f64 mo pa nA := k_pc0 z75
      refine lv_istore (lv' := [(7, .int (q_i y65)), (6, .int (q_i 0)), (5, .int (q_i ii)), (4, .ref outD), (3, .ref out), (2, .ref mo), (1, .ref x), (0, .ref b)]) cx.1 cx.2.1 dL_law_335 hl (by decide) rfl (fun ls hl => ?_)
      refine lv_goto (tgt := 1493) cx.1 cx.2.1 dL_law_337 (by decide) ?_
      refine W.widen (k := cells + 6) (n := slots + 36) (by omega) (by omega) ?_
      exact kk f64 H locs ls 0 (tk_nd A8) ls9 nA hB ⟨⟨z80, (Eq.trans z71 (by omega)), by omega, by omega⟩, g77, g78, g118, q_isu ex128 (by omega), q_isu ex129 (by omega), tk_bb_le g119 (by omega), hsr9, by omega, g127, g126, g122, hr8, g123, hpc9, g117, (Eq.trans z81 (Eq.trans (by omega) (Eq.symm z73))), (Eq.trans z82 (Eq.trans (by omega) (Eq.symm z74)))⟩ (lv_sub hl [2, 3, 4, 5, 6, 7] rfl)
    · obtain ⟨qy65, lz130, uz130, lz131, uz131, z132, z133, z134, t135, t136, t137, g138, g139⟩ := h68
      have z140 : q_j f64 out 0 = (q_l nA) := (hF.j hout (by rw [kout]; rfl)).trans hj9
      have z141 : q_is (q_z f64 so 1) 0 := Eq.trans (hF.z hso (by rw [kso]; rfl)) z8
      have z142 : q_is (q_z f64 so 2) 0 := Eq.trans (hF.z hso (by rw [kso]; rfl)) z9
      have z143 : q_is (q_z f64 so 3) (-1) := Eq.trans (hF.z hso (by rw [kso]; rfl)) z10
      have z144 : q_ir (q_r f64 x 0) so := Eq.trans (hF.r hx (by rw [kx]; rfl)) z17
      have z145 : q_ir (q_r f64 x 1) rd := Eq.trans (hF.r hx (by rw [kx]; rfl)) z18
      have z146 : q_ir (q_r f64 x 2) scr := Eq.trans (hF.r hx (by rw [kx]; rfl)) z19
      have z147 : q_ir (q_r f64 x 3) fc := Eq.trans (hF.r hx (by rw [kx]; rfl)) z20
      have z148 : q_ir (q_r f64 x 4) hist := Eq.trans (hF.r hx (by rw [kx]; rfl)) z21
      have z149 : q_ir (q_r f64 x 5) rep := Eq.trans (hF.r hx (by rw [kx]; rfl)) z22
      have z150 : q_ir (q_r f64 x 6) now := Eq.trans (hF.r hx (by rw [kx]; rfl)) z23
      have z151 : q_ir (q_r f64 x 7) dr := Eq.trans (hF.r hx (by rw [kx]; rfl)) z24
      have z152 : q_ir (q_r f64 x 8) sv := Eq.trans (hF.r hx (by rw [kx]; rfl)) z25
      have z153 : q_ir (q_r f64 fc 0) tr := Eq.trans (hF.r hfc (by rw [kfc]; rfl)) z26
      have z154 : q_ir (q_r f64 so 0) ba := Eq.trans (hF.r hso (by rw [kso]; rfl)) z27
      have z155 : q_ir (q_r f64 dr 0) nds := Eq.trans (hF.r hdr (by rw [kdr]; rfl)) z28
      have z156 : q_ir (q_r f64 hist 0) ka := Eq.trans (hF.r hhist (by rw [khist]; rfl)) z29
      have z157 : q_ir (q_r f64 now 0) ndn := Eq.trans (hF.r hnow (by rw [know]; rfl)) z30
      have z158 : q_ir (q_r f64 sv 0) nsv := Eq.trans (hF.r hsv (by rw [ksv]; rfl)) z31
      have z159 : q_ir (q_r f64 scr 0) cmds := Eq.trans (hF.r hscr (by rw [kscr]; rfl)) z32
      have z160 : q_ir (q_r f64 mo 1) bu := Eq.trans (hF.r hmo (by rw [kmo]; rfl)) z33
      have z161 : q_ir (q_r f64 mo 13) sr := Eq.trans (hF.r hmo (by rw [kmo]; rfl)) z34
      have z162 : q_ir (q_r f64 mo 14) sd := Eq.trans (hF.r hmo (by rw [kmo]; rfl)) z35
      have z163 : q_ir (q_r f64 mo 15) as := Eq.trans (hF.r hmo (by rw [kmo]; rfl)) z36
      have z164 : q_ir (q_r f64 mo 16) aw := Eq.trans (hF.r hmo (by rw [kmo]; rfl)) z37
      have z165 : q_ir (q_r f64 mo 17) pa := Eq.trans (hF.r hmo (by rw [kmo]; rfl)) z38
      have z166 : q_ir (q_r f64 mo 18) nm := Eq.trans (hF.r hmo (by rw [kmo]; rfl)) z39
      have z167 : q_ir (q_r f64 mo 19) snm := Eq.trans (hF.r hmo (by rw [kmo]; rfl)) z40
      have z168 : q_ir (q_r f64 mo 20) anm := Eq.trans (hF.r hmo (by rw [kmo]; rfl)) z41
      have z169 : q_ir (q_r f64 mo 24) hp := Eq.trans (hF.r hmo (by rw [kmo]; rfl)) z42
      have z170 : q_ir (q_r f64 mo 25) dy := Eq.trans (hF.r hmo (by rw [kmo]; rfl)) z43
      have z171 : q_ir (q_r f64 mo 29) cs := Eq.trans (hF.r hmo (by rw [kmo]; rfl)) z44
      have z172 : q_ir (q_r f64 mo 30) c1 := Eq.trans (hF.r hmo (by rw [kmo]; rfl)) z45
      have z173 : q_ir (q_r f64 mo 31) c2 := Eq.trans (hF.r hmo (by rw [kmo]; rfl)) z46
      have z174 : q_ir (q_r f64 mo 32) c3 := Eq.trans (hF.r hmo (by rw [kmo]; rfl)) z47
      have z175 : q_ir (q_r f64 mo 33) bg := Eq.trans (hF.r hmo (by rw [kmo]; rfl)) z48
      have z176 : q_ir (q_r f64 mo 34) lp := Eq.trans (hF.r hmo (by rw [kmo]; rfl)) z49
      have z177 : q_ir (q_r f64 mo 38) rp := Eq.trans (hF.r hmo (by rw [kmo]; rfl)) z50
      have g178 : q_z f64 x 9 = q_z f64 mo 22 := tk_s2_tr g52 (hF.z hx (by rw [kx]; rfl)) (hF.z hmo (by rw [kmo]; rfl))
      have g179 : q_sv f64 mo sd := q_sv_tr g54 (hF.z hmo (by rw [kmo]; rfl)) (fun i9 => hF.z hsd (by rw [ksd]; rfl))
      have g180 : tk_bb f64 bu ba tn := tk_bb_tr g55 (fun i9 => hF.z hbu (by rw [kbu]; rfl)) (fun i9 => hF.z hba (by rw [kba]; rfl))
      have g181 : tk_ij K L f64 nds := tk_ij_tr g56 (fun i9 => hF.r hnds (by rw [knds]; rfl))
      have g182 : tk_c3 K L f64 cmds := tk_c3_tr g57 (fun i9 => hF.r hcmds (by rw [kcmds]; rfl))
      have g183 : tk_vs K L f64 x sv nsv ls9 := tk_vs_tr g58 (hF.z hx (by rw [kx]; rfl)) (hF.z hsv (by rw [ksv]; rfl)) (fun a9 h9 k9 => hF.j h9 (by rw [k9]; rfl)) (fun i9 => hF.r hnsv (by rw [knsv]; rfl))
      have g184 : tk_rs f64 mo sd snm ls9 := tk_rs_tr g60 (hF.z hmo (by rw [kmo]; rfl)) (fun i9 h9 k9 => hF.z hsd (by rw [ksd]; exact q_inWr rfl h9 k9)) (fun i9 => hF.j hsnm (by rw [ksnm]; rfl))
      have g185 : tk_tb f64 ba B tn := tk_tb_tr g62 (fun i9 => hF.z hba (by rw [kba]; rfl))
      have g186 : tk_ub f64 bu B tn := tk_ub_tr g63 (fun i9 => hF.z hbu (by rw [kbu]; rfl))
      have g187 : tk_vk K L f64 hist ka now ndn := tk_vk_tr g12 (hF.z hhist (by rw [khist]; rfl)) (hF.z hhist (by rw [khist]; rfl)) (hF.z hnow (by rw [know]; rfl)) (fun a9 h9 k9 => hF.j h9 (by rw [k9]; rfl)) (fun i9 => hF.r hndn (by rw [kndn]; rfl)) (fun a9 h9 k9 => hF.z h9 (by rw [k9]; rfl)) (fun a9 h9 k9 => hF.j h9 (by rw [k9]; rfl)) (fun i9 => hF.r hka (by rw [kka]; rfl)) (fun a9 h9 k9 => hF.r h9 (by rw [k9]; rfl)) (fun a9 h9 k9 i9 => hF.r h9 (by rw [k9]; rfl))
      have g188 : tk_vn K L 5 f64 now ndn (tk_nd A9) := tk_vn_tr hv9 (hF.z hnow (by rw [know]; rfl)) (fun a9 h9 k9 => hF.j h9 (by rw [k9]; rfl)) (fun i9 => hF.r hndn (by rw [kndn]; rfl))
      obtain ⟨x189, ex189⟩ : ∃ zz, q_is (q_z f64 sr 3) zz := ⟨_, q_isr _⟩
      obtain ⟨lx189, ux189⟩ := q_isb ex189 ⟨lz130, uz130⟩
      obtain ⟨x190, ex190⟩ : ∃ zz, q_is (q_z f64 sr 4) zz := ⟨_, q_isr _⟩
      obtain ⟨lx190, ux190⟩ := q_isb ex190 ⟨lz131, uz131⟩
      subst qy65
      exact tk_no (t135.symm.trans hA9)
  · obtain ⟨qy4, z191, t192, t193, g194⟩ := h7
    have z195 : q_is (q_z f3 mo 2) tn := Eq.trans (hF.z hmo (by rw [kmo]; rfl)) hn1
    have z196 : q_is (q_z f3 sr 0) xc := Eq.trans (hF.z hsr (by rw [ksr]; rfl)) hsr0
    have z197 : q_is (q_z f3 sr 3) x1 := Eq.trans (hF.z hsr (by rw [ksr]; rfl)) ex1
    have z198 : q_is (q_z f3 sr 4) x2 := Eq.trans (hF.z hsr (by rw [ksr]; rfl)) ex2
    have z199 : q_ir (q_r f3 x 0) so := Eq.trans (hF.r hx (by rw [kx]; rfl)) hr0
    have z200 : q_ir (q_r f3 x 1) rd := Eq.trans (hF.r hx (by rw [kx]; rfl)) hr1
    have z201 : q_ir (q_r f3 x 2) scr := Eq.trans (hF.r hx (by rw [kx]; rfl)) hr2
    have z202 : q_ir (q_r f3 x 3) fc := Eq.trans (hF.r hx (by rw [kx]; rfl)) hr3
    have z203 : q_ir (q_r f3 x 4) hist := Eq.trans (hF.r hx (by rw [kx]; rfl)) hr4
    have z204 : q_ir (q_r f3 x 5) rep := Eq.trans (hF.r hx (by rw [kx]; rfl)) hr5
    have z205 : q_ir (q_r f3 x 6) now := Eq.trans (hF.r hx (by rw [kx]; rfl)) hr6
    have z206 : q_ir (q_r f3 x 7) dr := Eq.trans (hF.r hx (by rw [kx]; rfl)) hr7
    have z207 : q_ir (q_r f3 x 8) sv := Eq.trans (hF.r hx (by rw [kx]; rfl)) hr8
    have z208 : q_ir (q_r f3 fc 0) tr := Eq.trans (hF.r hfc (by rw [kfc]; rfl)) hr9
    have z209 : q_ir (q_r f3 so 0) ba := Eq.trans (hF.r hso (by rw [kso]; rfl)) hr10
    have z210 : q_ir (q_r f3 dr 0) nds := Eq.trans (hF.r hdr (by rw [kdr]; rfl)) hr11
    have z211 : q_ir (q_r f3 hist 0) ka := Eq.trans (hF.r hhist (by rw [khist]; rfl)) hr12
    have z212 : q_ir (q_r f3 now 0) ndn := Eq.trans (hF.r hnow (by rw [know]; rfl)) hr13
    have z213 : q_ir (q_r f3 sv 0) nsv := Eq.trans (hF.r hsv (by rw [ksv]; rfl)) hr14
    have z214 : q_ir (q_r f3 scr 0) cmds := Eq.trans (hF.r hscr (by rw [kscr]; rfl)) hr15
    have z215 : q_ir (q_r f3 mo 1) bu := Eq.trans (hF.r hmo (by rw [kmo]; rfl)) hr16
    have z216 : q_ir (q_r f3 mo 13) sr := Eq.trans (hF.r hmo (by rw [kmo]; rfl)) hr17
    have z217 : q_ir (q_r f3 mo 14) sd := Eq.trans (hF.r hmo (by rw [kmo]; rfl)) hr18
    have z218 : q_ir (q_r f3 mo 15) as := Eq.trans (hF.r hmo (by rw [kmo]; rfl)) hr19
    have z219 : q_ir (q_r f3 mo 16) aw := Eq.trans (hF.r hmo (by rw [kmo]; rfl)) hr20
    have z220 : q_ir (q_r f3 mo 17) pa := Eq.trans (hF.r hmo (by rw [kmo]; rfl)) hr21
    have z221 : q_ir (q_r f3 mo 18) nm := Eq.trans (hF.r hmo (by rw [kmo]; rfl)) hr22
    have z222 : q_ir (q_r f3 mo 19) snm := Eq.trans (hF.r hmo (by rw [kmo]; rfl)) hr23
    have z223 : q_ir (q_r f3 mo 20) anm := Eq.trans (hF.r hmo (by rw [kmo]; rfl)) hr24
    have z224 : q_ir (q_r f3 mo 24) hp := Eq.trans (hF.r hmo (by rw [kmo]; rfl)) hr25
    have z225 : q_ir (q_r f3 mo 25) dy := Eq.trans (hF.r hmo (by rw [kmo]; rfl)) hr26
    have z226 : q_ir (q_r f3 mo 29) cs := Eq.trans (hF.r hmo (by rw [kmo]; rfl)) hr27
    have z227 : q_ir (q_r f3 mo 30) c1 := Eq.trans (hF.r hmo (by rw [kmo]; rfl)) hr28
    have z228 : q_ir (q_r f3 mo 31) c2 := Eq.trans (hF.r hmo (by rw [kmo]; rfl)) hr29
    have z229 : q_ir (q_r f3 mo 32) c3 := Eq.trans (hF.r hmo (by rw [kmo]; rfl)) hr30
    have z230 : q_ir (q_r f3 mo 33) bg := Eq.trans (hF.r hmo (by rw [kmo]; rfl)) hr31
    have z231 : q_ir (q_r f3 mo 34) lp := Eq.trans (hF.r hmo (by rw [kmo]; rfl)) hr32
    have z232 : q_ir (q_r f3 mo 38) rp := Eq.trans (hF.r hmo (by rw [kmo]; rfl)) hr33
    have g233 : q_gr f3 sr := q_gr_fr hgr (fun i9 _ => hF.z hsr (by rw [ksr]; rfl))
    have g234 : q_z f3 x 9 = q_z f3 mo 22 := tk_s2_tr hs22 (hF.z hx (by rw [kx]; rfl)) (hF.z hmo (by rw [kmo]; rfl))
    have g235 : q_pk f3 mo pa := q_pk_tr hpk (hF.z hmo (by rw [kmo]; rfl)) (fun i9 => hF.z hpa (by rw [kpa]; rfl))
    have g236 : q_sv f3 mo sd := q_sv_tr hsd9 (hF.z hmo (by rw [kmo]; rfl)) (fun i9 => hF.z hsd (by rw [ksd]; rfl))
    have g237 : tk_bb f3 bu ba tn := tk_bb_tr hbb (fun i9 => hF.z hbu (by rw [kbu]; rfl)) (fun i9 => hF.z hba (by rw [kba]; rfl))
    have g238 : tk_ij K L f3 nds := tk_ij_tr hij (fun i9 => hF.r hnds (by rw [knds]; rfl))
    have g239 : tk_c3 K L f3 cmds := tk_c3_tr hcj (fun i9 => hF.r hcmds (by rw [kcmds]; rfl))
    have g240 : tk_vs K L f3 x sv nsv ls9 := tk_vs_tr hvs (hF.z hx (by rw [kx]; rfl)) (hF.z hsv (by rw [ksv]; rfl)) (fun a9 h9 k9 => hF.j h9 (by rw [k9]; rfl)) (fun i9 => hF.r hnsv (by rw [knsv]; rfl))
    have g241 : tk_nq f3 nm nl9 := tk_nq_tr hrn9 (fun i9 => hF.j hnm (by rw [knm]; rfl))
    have g242 : tk_rs f3 mo sd snm ls9 := tk_rs_tr hrs9 (hF.z hmo (by rw [kmo]; rfl)) (fun i9 h9 k9 => hF.z hsd (by rw [ksd]; exact q_inWr rfl h9 k9)) (fun i9 => hF.j hsnm (by rw [ksnm]; rfl))
    have g243 : q_pc f3 mo pa xc := q_pc_tr hpc (hF.z hmo (by rw [kmo]; rfl)) (fun i9 => hF.z hpa (by rw [kpa]; rfl))
    have g244 : tk_tb f3 ba B tn := tk_tb_tr htb (fun i9 => hF.z hba (by rw [kba]; rfl))
    have g245 : tk_ub f3 bu B tn := tk_ub_tr hub (fun i9 => hF.z hbu (by rw [kbu]; rfl))
    subst qy4
    obtain ⟨x246, ex246⟩ : ∃ zz, q_is (q_z f3 so 2) zz := ⟨_, q_isr _⟩
    obtain ⟨lx246, ux246⟩ := q_isb ex246 (q_fib hB.2.1 hso kso (by decide) rfl)
    obtain ⟨x247, ex247⟩ : ∃ zz, q_is (q_z f3 so 3) zz := ⟨_, q_isr _⟩
    obtain ⟨lx247, ux247⟩ := q_isb ex247 (q_fib hB.2.1 hso kso (by decide) rfl)
    refine lv_istore (lv' := [(6, .int (q_i 1)), (5, .int (q_i ii)), (4, .ref outD), (3, .ref out), (2, .ref mo), (1, .ref x), (0, .ref b)]) cx.1 cx.2.1 dL_law_329 hl (by decide) rfl (fun ls hl => ?_)
    refine q_ald_n cx dL_law_331 rfl (lv_at hl 4 rfl) ?_
    refine q_cVi (As := []) (rest := []) cx hB (fun q h => hLA q h) hN hmo kmo (by decide) rfl (f_mreadText l g hN hB.2.1 B nl9 mo hmo kmo sr hsr ksr as has kas nm hnm knm anm hanm kanm bu hbu kbu pa hpa kpa x1 (by omega) (by omega) x2 (by omega) (by omega) xc (by omega) (by omega) tn (by omega) (by omega) z197 z198 z196 z195 z216 z218 z221 z223 z215 z220 g233 g235 g243 g245 g241) q_cL_131 q_dX12_readText ⟨by decide, by show cells + 1 ≤ 601024; omega, by show slots + 6 ≤ 7293034; omega⟩ rfl rfl hl.1 rfl (Nat.le_of_ble_eq_true rfl) dL_law_332 (fun y249 H locs f248 ry249 h250 hF hB => ?_)
    rcases h250 with h251 | h252
    · obtain ⟨ly249, uy249, lz253, uz253, lz254, uz254, z255, z256, z257, z258, z259, t260, g261, g262⟩ := h251
      have z263 : q_is (q_z f248 so 1) 0 := Eq.trans (hF.z hso (by rw [kso]; rfl)) z191
      have z264 : q_is (q_z f248 so 2) x246 := Eq.trans (hF.z hso (by rw [kso]; rfl)) ex246
      have z265 : q_is (q_z f248 so 3) x247 := Eq.trans (hF.z hso (by rw [kso]; rfl)) ex247
      have z266 : q_ir (q_r f248 x 0) so := Eq.trans (hF.r hx (by rw [kx]; rfl)) z199
      have z267 : q_ir (q_r f248 x 1) rd := Eq.trans (hF.r hx (by rw [kx]; rfl)) z200
      have z268 : q_ir (q_r f248 x 2) scr := Eq.trans (hF.r hx (by rw [kx]; rfl)) z201
      have z269 : q_ir (q_r f248 x 3) fc := Eq.trans (hF.r hx (by rw [kx]; rfl)) z202
      have z270 : q_ir (q_r f248 x 4) hist := Eq.trans (hF.r hx (by rw [kx]; rfl)) z203
      have z271 : q_ir (q_r f248 x 5) rep := Eq.trans (hF.r hx (by rw [kx]; rfl)) z204
      have z272 : q_ir (q_r f248 x 6) now := Eq.trans (hF.r hx (by rw [kx]; rfl)) z205
      have z273 : q_ir (q_r f248 x 7) dr := Eq.trans (hF.r hx (by rw [kx]; rfl)) z206
      have z274 : q_ir (q_r f248 x 8) sv := Eq.trans (hF.r hx (by rw [kx]; rfl)) z207
      have z275 : q_ir (q_r f248 fc 0) tr := Eq.trans (hF.r hfc (by rw [kfc]; rfl)) z208
      have z276 : q_ir (q_r f248 so 0) ba := Eq.trans (hF.r hso (by rw [kso]; rfl)) z209
      have z277 : q_ir (q_r f248 dr 0) nds := Eq.trans (hF.r hdr (by rw [kdr]; rfl)) z210
      have z278 : q_ir (q_r f248 hist 0) ka := Eq.trans (hF.r hhist (by rw [khist]; rfl)) z211
      have z279 : q_ir (q_r f248 now 0) ndn := Eq.trans (hF.r hnow (by rw [know]; rfl)) z212
      have z280 : q_ir (q_r f248 sv 0) nsv := Eq.trans (hF.r hsv (by rw [ksv]; rfl)) z213
      have z281 : q_ir (q_r f248 scr 0) cmds := Eq.trans (hF.r hscr (by rw [kscr]; rfl)) z214
      have z282 : q_ir (q_r f248 mo 1) bu := Eq.trans (hF.r hmo (by rw [kmo]; rfl)) z215
      have z283 : q_ir (q_r f248 mo 13) sr := Eq.trans (hF.r hmo (by rw [kmo]; rfl)) z216
      have z284 : q_ir (q_r f248 mo 14) sd := Eq.trans (hF.r hmo (by rw [kmo]; rfl)) z217
      have z285 : q_ir (q_r f248 mo 15) as := Eq.trans (hF.r hmo (by rw [kmo]; rfl)) z218
      have z286 : q_ir (q_r f248 mo 16) aw := Eq.trans (hF.r hmo (by rw [kmo]; rfl)) z219
      have z287 : q_ir (q_r f248 mo 17) pa := Eq.trans (hF.r hmo (by rw [kmo]; rfl)) z220
      have z288 : q_ir (q_r f248 mo 18) nm := Eq.trans (hF.r hmo (by rw [kmo]; rfl)) z221
      have z289 : q_ir (q_r f248 mo 19) snm := Eq.trans (hF.r hmo (by rw [kmo]; rfl)) z222
      have z290 : q_ir (q_r f248 mo 20) anm := Eq.trans (hF.r hmo (by rw [kmo]; rfl)) z223
      have z291 : q_ir (q_r f248 mo 24) hp := Eq.trans (hF.r hmo (by rw [kmo]; rfl)) z224
      have z292 : q_ir (q_r f248 mo 25) dy := Eq.trans (hF.r hmo (by rw [kmo]; rfl)) z225
      have z293 : q_ir (q_r f248 mo 29) cs := Eq.trans (hF.r hmo (by rw [kmo]; rfl)) z226
      have z294 : q_ir (q_r f248 mo 30) c1 := Eq.trans (hF.r hmo (by rw [kmo]; rfl)) z227
      have z295 : q_ir (q_r f248 mo 31) c2 := Eq.trans (hF.r hmo (by rw [kmo]; rfl)) z228
      have z296 : q_ir (q_r f248 mo 32) c3 := Eq.trans (hF.r hmo (by rw [kmo]; rfl)) z229
      have z297 : q_ir (q_r f248 mo 33) bg := Eq.trans (hF.r hmo (by rw [kmo]; rfl)) z230
      have z298 : q_ir (q_r f248 mo 34) lp := Eq.trans (hF.r hmo (by rw [kmo]; rfl)) z231
      have z299 : q_ir (q_r f248 mo 38) rp := Eq.trans (hF.r hmo (by rw [kmo]; rfl)) z232
      have g300 : q_z f248 x 9 = q_z f248 mo 22 := tk_s2_tr g234 (hF.z hx (by rw [kx]; rfl)) (hF.z hmo (by rw [kmo]; rfl))
      have g301 : q_sv f248 mo sd := q_sv_tr g236 (hF.z hmo (by rw [kmo]; rfl)) (fun i9 => hF.z hsd (by rw [ksd]; rfl))
      have g302 : tk_bb f248 bu ba tn := tk_bb_tr g237 (fun i9 => hF.z hbu (by rw [kbu]; rfl)) (fun i9 => hF.z hba (by rw [kba]; rfl))
      have g303 : tk_ij K L f248 nds := tk_ij_tr g238 (fun i9 => hF.r hnds (by rw [knds]; rfl))
      have g304 : tk_c3 K L f248 cmds := tk_c3_tr g239 (fun i9 => hF.r hcmds (by rw [kcmds]; rfl))
      have g305 : tk_vs K L f248 x sv nsv ls9 := tk_vs_tr g240 (hF.z hx (by rw [kx]; rfl)) (hF.z hsv (by rw [ksv]; rfl)) (fun a9 h9 k9 => hF.j h9 (by rw [k9]; rfl)) (fun i9 => hF.r hnsv (by rw [knsv]; rfl))
      have g306 : tk_rs f248 mo sd snm ls9 := tk_rs_tr g242 (hF.z hmo (by rw [kmo]; rfl)) (fun i9 h9 k9 => hF.z hsd (by rw [ksd]; exact q_inWr rfl h9 k9)) (fun i9 => hF.j hsnm (by rw [ksnm]; rfl))
      have g307 : tk_tb f248 ba B tn := tk_tb_tr g244 (fun i9 => hF.z hba (by rw [kba]; rfl))
      have g308 : tk_ub f248 bu B tn := tk_ub_tr g245 (fun i9 => hF.z hbu (by rw [kbu]; rfl))
      have g309 : tk_vk K L f248 hist ka now ndn := tk_vk_tr g194 (hF.z hhist (by rw [khist]; rfl)) (hF.z hhist (by rw [khist]; rfl)) (hF.z hnow (by rw [know]; rfl)) (fun a9 h9 k9 => hF.j h9 (by rw [k9]; rfl)) (fun i9 => hF.r hndn (by rw [kndn]; rfl)) (fun a9 h9 k9 => hF.z h9 (by rw [k9]; rfl)) (fun a9 h9 k9 => hF.j h9 (by rw [k9]; rfl)) (fun i9 => hF.r hka (by rw [kka]; rfl)) (fun a9 h9 k9 => hF.r h9 (by rw [k9]; rfl)) (fun a9 h9 k9 i9 => hF.r h9 (by rw [k9]; rfl))
      have g310 : tk_vn K L 5 f248 now ndn nl9 := tk_vn_tr t193 (hF.z hnow (by rw [know]; rfl)) (fun a9 h9 k9 => hF.j h9 (by rw [k9]; rfl)) (fun i9 => hF.r hndn (by rw [kndn]; rfl))
      obtain ⟨x311, ex311⟩ : ∃ zz, q_is (q_z f248 sr 3) zz := ⟨_, q_isr _⟩
      obtain ⟨lx311, ux311⟩ := q_isb ex311 ⟨lz253, uz253⟩
      obtain ⟨x312, ex312⟩ : ∃ zz, q_is (q_z f248 sr 4) zz := ⟨_, q_isr _⟩
      obtain ⟨lx312, ux312⟩ := q_isb ex312 ⟨lz254, uz254⟩
      obtain ⟨A8, hA8, hz8, hr8, hc8⟩ := t260
      exact tk_no ((tk_erx t192 ex246 ex247).symm.trans hA8)
    · obtain ⟨qy249, lz313, uz313, lz314, uz314, z315, z316, z317, t318, t319, t320, g321, g322⟩ := h252
      have z323 : q_is (q_z f248 so 1) 0 := Eq.trans (hF.z hso (by rw [kso]; rfl)) z191
      have z324 : q_is (q_z f248 so 2) x246 := Eq.trans (hF.z hso (by rw [kso]; rfl)) ex246
      have z325 : q_is (q_z f248 so 3) x247 := Eq.trans (hF.z hso (by rw [kso]; rfl)) ex247
      have z326 : q_ir (q_r f248 x 0) so := Eq.trans (hF.r hx (by rw [kx]; rfl)) z199
      have z327 : q_ir (q_r f248 x 1) rd := Eq.trans (hF.r hx (by rw [kx]; rfl)) z200
      have z328 : q_ir (q_r f248 x 2) scr := Eq.trans (hF.r hx (by rw [kx]; rfl)) z201
      have z329 : q_ir (q_r f248 x 3) fc := Eq.trans (hF.r hx (by rw [kx]; rfl)) z202
      have z330 : q_ir (q_r f248 x 4) hist := Eq.trans (hF.r hx (by rw [kx]; rfl)) z203
      have z331 : q_ir (q_r f248 x 5) rep := Eq.trans (hF.r hx (by rw [kx]; rfl)) z204
      have z332 : q_ir (q_r f248 x 6) now := Eq.trans (hF.r hx (by rw [kx]; rfl)) z205
      have z333 : q_ir (q_r f248 x 7) dr := Eq.trans (hF.r hx (by rw [kx]; rfl)) z206
      have z334 : q_ir (q_r f248 x 8) sv := Eq.trans (hF.r hx (by rw [kx]; rfl)) z207
      have z335 : q_ir (q_r f248 fc 0) tr := Eq.trans (hF.r hfc (by rw [kfc]; rfl)) z208
      have z336 : q_ir (q_r f248 so 0) ba := Eq.trans (hF.r hso (by rw [kso]; rfl)) z209
      have z337 : q_ir (q_r f248 dr 0) nds := Eq.trans (hF.r hdr (by rw [kdr]; rfl)) z210
      have z338 : q_ir (q_r f248 hist 0) ka := Eq.trans (hF.r hhist (by rw [khist]; rfl)) z211
      have z339 : q_ir (q_r f248 now 0) ndn := Eq.trans (hF.r hnow (by rw [know]; rfl)) z212
      have z340 : q_ir (q_r f248 sv 0) nsv := Eq.trans (hF.r hsv (by rw [ksv]; rfl)) z213
      have z341 : q_ir (q_r f248 scr 0) cmds := Eq.trans (hF.r hscr (by rw [kscr]; rfl)) z214
      have z342 : q_ir (q_r f248 mo 1) bu := Eq.trans (hF.r hmo (by rw [kmo]; rfl)) z215
      have z343 : q_ir (q_r f248 mo 13) sr := Eq.trans (hF.r hmo (by rw [kmo]; rfl)) z216
      have z344 : q_ir (q_r f248 mo 14) sd := Eq.trans (hF.r hmo (by rw [kmo]; rfl)) z217
      have z345 : q_ir (q_r f248 mo 15) as := Eq.trans (hF.r hmo (by rw [kmo]; rfl)) z218
      have z346 : q_ir (q_r f248 mo 16) aw := Eq.trans (hF.r hmo (by rw [kmo]; rfl)) z219
      have z347 : q_ir (q_r f248 mo 17) pa := Eq.trans (hF.r hmo (by rw [kmo]; rfl)) z220
      have z348 : q_ir (q_r f248 mo 18) nm := Eq.trans (hF.r hmo (by rw [kmo]; rfl)) z221
      have z349 : q_ir (q_r f248 mo 19) snm := Eq.trans (hF.r hmo (by rw [kmo]; rfl)) z222
      have z350 : q_ir (q_r f248 mo 20) anm := Eq.trans (hF.r hmo (by rw [kmo]; rfl)) z223
      have z351 : q_ir (q_r f248 mo 24) hp := Eq.trans (hF.r hmo (by rw [kmo]; rfl)) z224
      have z352 : q_ir (q_r f248 mo 25) dy := Eq.trans (hF.r hmo (by rw [kmo]; rfl)) z225
      have z353 : q_ir (q_r f248 mo 29) cs := Eq.trans (hF.r hmo (by rw [kmo]; rfl)) z226
      have z354 : q_ir (q_r f248 mo 30) c1 := Eq.trans (hF.r hmo (by rw [kmo]; rfl)) z227
      have z355 : q_ir (q_r f248 mo 31) c2 := Eq.trans (hF.r hmo (by rw [kmo]; rfl)) z228
      have z356 : q_ir (q_r f248 mo 32) c3 := Eq.trans (hF.r hmo (by rw [kmo]; rfl)) z229
      have z357 : q_ir (q_r f248 mo 33) bg := Eq.trans (hF.r hmo (by rw [kmo]; rfl)) z230
      have z358 : q_ir (q_r f248 mo 34) lp := Eq.trans (hF.r hmo (by rw [kmo]; rfl)) z231
      have z359 : q_ir (q_r f248 mo 38) rp := Eq.trans (hF.r hmo (by rw [kmo]; rfl)) z232
      have g360 : q_z f248 x 9 = q_z f248 mo 22 := tk_s2_tr g234 (hF.z hx (by rw [kx]; rfl)) (hF.z hmo (by rw [kmo]; rfl))
      have g361 : q_sv f248 mo sd := q_sv_tr g236 (hF.z hmo (by rw [kmo]; rfl)) (fun i9 => hF.z hsd (by rw [ksd]; rfl))
      have g362 : tk_bb f248 bu ba tn := tk_bb_tr g237 (fun i9 => hF.z hbu (by rw [kbu]; rfl)) (fun i9 => hF.z hba (by rw [kba]; rfl))
      have g363 : tk_ij K L f248 nds := tk_ij_tr g238 (fun i9 => hF.r hnds (by rw [knds]; rfl))
      have g364 : tk_c3 K L f248 cmds := tk_c3_tr g239 (fun i9 => hF.r hcmds (by rw [kcmds]; rfl))
      have g365 : tk_vs K L f248 x sv nsv ls9 := tk_vs_tr g240 (hF.z hx (by rw [kx]; rfl)) (hF.z hsv (by rw [ksv]; rfl)) (fun a9 h9 k9 => hF.j h9 (by rw [k9]; rfl)) (fun i9 => hF.r hnsv (by rw [knsv]; rfl))
      have g366 : tk_rs f248 mo sd snm ls9 := tk_rs_tr g242 (hF.z hmo (by rw [kmo]; rfl)) (fun i9 h9 k9 => hF.z hsd (by rw [ksd]; exact q_inWr rfl h9 k9)) (fun i9 => hF.j hsnm (by rw [ksnm]; rfl))
      have g367 : tk_tb f248 ba B tn := tk_tb_tr g244 (fun i9 => hF.z hba (by rw [kba]; rfl))
      have g368 : tk_ub f248 bu B tn := tk_ub_tr g245 (fun i9 => hF.z hbu (by rw [kbu]; rfl))
      have g369 : tk_vk K L f248 hist ka now ndn := tk_vk_tr g194 (hF.z hhist (by rw [khist]; rfl)) (hF.z hhist (by rw [khist]; rfl)) (hF.z hnow (by rw [know]; rfl)) (fun a9 h9 k9 => hF.j h9 (by rw [k9]; rfl)) (fun i9 => hF.r hndn (by rw [kndn]; rfl)) (fun a9 h9 k9 => hF.z h9 (by rw [k9]; rfl)) (fun a9 h9 k9 => hF.j h9 (by rw [k9]; rfl)) (fun i9 => hF.r hka (by rw [kka]; rfl)) (fun a9 h9 k9 => hF.r h9 (by rw [k9]; rfl)) (fun a9 h9 k9 i9 => hF.r h9 (by rw [k9]; rfl))
      have g370 : tk_vn K L 5 f248 now ndn nl9 := tk_vn_tr t193 (hF.z hnow (by rw [know]; rfl)) (fun a9 h9 k9 => hF.j h9 (by rw [k9]; rfl)) (fun i9 => hF.r hndn (by rw [kndn]; rfl))
      obtain ⟨x371, ex371⟩ : ∃ zz, q_is (q_z f248 sr 3) zz := ⟨_, q_isr _⟩
      obtain ⟨lx371, ux371⟩ := q_isb ex371 ⟨lz313, uz313⟩
      obtain ⟨x372, ex372⟩ : ∃ zz, q_is (q_z f248 sr 4) zz := ⟨_, q_isr _⟩
      obtain ⟨lx372, ux372⟩ := q_isb ex372 ⟨lz314, uz314⟩
      subst qy249
      obtain ⟨x374, ex374⟩ : ∃ zz, q_is (q_z f248 mo 10) zz := ⟨_, q_isr _⟩
      obtain ⟨lx374, ux374⟩ := q_isb ex374 (q_fib hB.2.1 hmo kmo (by decide) rfl)
      obtain ⟨x375, ex375⟩ : ∃ zz, q_is (q_z f248 mo 11) zz := ⟨_, q_isr _⟩
      obtain ⟨lx375, ux375⟩ := q_isb ex375 (q_fib hB.2.1 hmo kmo (by decide) rfl)
      have g373 := tk_ere ((tk_erx t192 ex246 ex247).symm.trans (tk_erx t318 ex374 ex375))
      refine lv_istore (lv' := [(7, .int (q_i 0)), (6, .int (q_i 1)), (5, .int (q_i ii)), (4, .ref outD), (3, .ref out), (2, .ref mo), (1, .ref x), (0, .ref b)]) cx.1 cx.2.1 dL_law_335 hl (by decide) rfl (fun ls hl => ?_)
      refine lv_goto (tgt := 1493) cx.1 cx.2.1 dL_law_337 (by decide) ?_
      refine W.widen (k := cells + 6) (n := slots + 36) (by omega) (by omega) ?_
      exact kk f248 H locs ls 0 nl9 ls9 xc hB ⟨⟨z323, (Eq.trans z315 (by omega)), by omega, by omega⟩, g321, g322, g361, q_isu ex371 (by omega), q_isu ex372 (by omega), tk_bb_le g362 (by omega), z317, by omega, g370, g369, g365, t319, g366, t320, g360, (Eq.trans z324 (Eq.trans (by omega) (Eq.symm ex374))), (Eq.trans z325 (Eq.trans (by omega) (Eq.symm ex375)))⟩ (lv_sub hl [2, 3, 4, 5, 6, 7] rfl)
