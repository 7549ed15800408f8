set_option maxHeartbeats 4000000 in
set_option maxRecDepth 100000 in
theorem law_c324 {p : Program} {l : Launch} {e : Env} {s : State} {m : MethodId} {below : List Frame} {meth : Method} {c : Code} {b N9 : Nat} {xs : Nat → Int32} (hfl : l.stackTraces = false) (hN9 : N9 ≤ 3072) (C0 : lw_At p s m meth c b N9 xs) (cx : CallFix p m c cL_law 10 s #[Value.ref b] q_al RL) {g : q_G} {ad : Nat → Nat} {K : Nat → Nat} {L : List Nat} (hN : L.Nodup) (hLA : ∀ q, q ∈ L → s.heap.size ≤ q) (hX : q_X ad (fun q => q ∈ L) s) {f0 : Nat → va_E} {x : Nat} (hx : x ∈ L) (kx : K x = 11) {so : Nat} (hso : so ∈ L) (kso : K so = 8) {rd : Nat} (hrd : rd ∈ L) (krd : K rd = 9) {scr : Nat} (hscr : scr ∈ L) (kscr : K scr = 7) {fc : Nat} (hfc : fc ∈ L) (kfc : K fc = 1) {hist : Nat} (hhist : hist ∈ L) (khist : K hist = 2) {rep : Nat} (hrep : rep ∈ L) (krep : K rep = 6) {now : Nat} (hnow : now ∈ L) (know : K now = 10) {dr : Nat} (hdr : dr ∈ L) (kdr : K dr = 13) {sv : Nat} (hsv : sv ∈ L) (ksv : K sv = 14) {tr : Nat} (htr : tr ∈ L) (ktr : K tr = 15) {ba : Nat} (hba : ba ∈ L) (kba : K ba = 142) {nds : Nat} (hnds : nds ∈ L) (knds : K nds = 111) {ka : Nat} (hka : ka ∈ L) (kka : K ka = 140) {ndn : Nat} (hndn : ndn ∈ L) (kndn : K ndn = 110) {nsv : Nat} (hnsv : nsv ∈ L) (knsv : K nsv = 112) {mo : Nat} (hmo : mo ∈ L) (kmo : K mo = 12) {bu : Nat} (hbu : bu ∈ L) (kbu : K bu = 150) {sr : Nat} (hsr : sr ∈ L) (ksr : K sr = 151) {sd : Nat} (hsd : sd ∈ L) (ksd : K sd = 152) {as : Nat} (has : as ∈ L) (kas : K as = 153) {aw : Nat} (haw : aw ∈ L) (kaw : K aw = 154) {pa : Nat} (hpa : pa ∈ L) (kpa : K pa = 155) {nm : Nat} (hnm : nm ∈ L) (knm : K nm = 156) {snm : Nat} (hsnm : snm ∈ L) (ksnm : K snm = 157) {anm : Nat} (hanm : anm ∈ L) (kanm : K anm = 158) {hp : Nat} (hhp : hp ∈ L) (khp : K hp = 159) {dy : Nat} (hdy : dy ∈ L) (kdy : K dy = 160) {cs : Nat} (hcs : cs ∈ L) (kcs : K cs = 161) {c1 : Nat} (hc1 : c1 ∈ L) (kc1 : K c1 = 162) {c2 : Nat} (hc2 : c2 ∈ L) (kc2 : K c2 = 163) {c3 : Nat} (hc3 : c3 ∈ L) (kc3 : K c3 = 164) {bg : Nat} (hbg : bg ∈ L) (kbg : K bg = 165) {lp : Nat} (hlp : lp ∈ L) (klp : K lp = 166) {rp : Nat} (hrp : rp ∈ L) (krp : K rp = 167) {out : Nat} (hout : out ∈ L) (kout : K out = 168) {outD : Nat} (houtD : outD ∈ L) (koutD : K outD = 169) (hr0 : q_ir (q_r f0 x 0) so) (hr1 : q_ir (q_r f0 x 1) rd) (hr2 : q_ir (q_r f0 x 2) scr) (hr3 : q_ir (q_r f0 x 3) fc) (hr4 : q_ir (q_r f0 x 4) hist) (hr5 : q_ir (q_r f0 x 5) rep) (hr6 : q_ir (q_r f0 x 6) now) (hr7 : q_ir (q_r f0 x 7) dr) (hr8 : q_ir (q_r f0 x 8) sv) (hr9 : q_ir (q_r f0 fc 0) tr) (hr10 : q_ir (q_r f0 so 0) ba) (hr11 : q_ir (q_r f0 dr 0) nds) (hr12 : q_ir (q_r f0 hist 0) ka) (hr13 : q_ir (q_r f0 now 0) ndn) (hr14 : q_ir (q_r f0 sv 0) nsv) (hr15 : q_ir (q_r f0 mo 1) bu) (hr16 : q_ir (q_r f0 mo 13) sr) (hr17 : q_ir (q_r f0 mo 14) sd) (hr18 : q_ir (q_r f0 mo 15) as) (hr19 : q_ir (q_r f0 mo 16) aw) (hr20 : q_ir (q_r f0 mo 17) pa) (hr21 : q_ir (q_r f0 mo 18) nm) (hr22 : q_ir (q_r f0 mo 19) snm) (hr23 : q_ir (q_r f0 mo 20) anm) (hr24 : q_ir (q_r f0 mo 24) hp) (hr25 : q_ir (q_r f0 mo 25) dy) (hr26 : q_ir (q_r f0 mo 29) cs) (hr27 : q_ir (q_r f0 mo 30) c1) (hr28 : q_ir (q_r f0 mo 31) c2) (hr29 : q_ir (q_r f0 mo 32) c3) (hr30 : q_ir (q_r f0 mo 33) bg) (hr31 : q_ir (q_r f0 mo 34) lp) (hr32 : q_ir (q_r f0 mo 38) rp) (hij : tk_ij K L f0 nds) {f : Nat → va_E} {H : Heap} {locs : List Loc} {ls : Array Slot} {cells slots : Nat} {ii tn : Int} {nl9 ls9 : List (List Int)} {xc : Int} (hB : q_B g K L (fun q => s.heap.size ≤ q) [(0, 0, 6), (2, 1, 2), (3, 0, 4), (4, 0, 7), (5, 0, 9), (6, 1, 1), (7, 1, 4), (8, 1, 9), (9, 0, 2), (10, 3, 15), (11, 9, 9), (12, 0, 0), (12, 2, 12), (12, 21, 23), (12, 26, 28), (12, 35, 37), (12, 39, 40), (13, 3, 15), (14, 3, 15), (15, 3, 15), (16, 3, 15), (17, 0, 9), (18, 0, 9), (19, 0, 9), (20, 0, 9), (21, 0, 4), (22, 0, 4), (23, 0, 4), (24, 0, 4), (25, 0, 7), (26, 0, 7), (27, 0, 7), (28, 0, 7), (142, 0, 599), (143, 0, 599), (150, 0, 599), (151, 0, 657), (152, 0, 657), (153, 0, 657), (154, 0, 657), (155, 0, 3947), (156, 0, 9), (157, 0, 9), (158, 0, 9), (159, 0, 9), (160, 0, 9), (161, 0, 59), (162, 0, 58), (163, 0, 58), (164, 0, 58), (165, 0, 1), (166, 0, 1), (167, 0, 479), (168, 0, 0), (169, 0, 0)] f0 f s H locs) (hI : q_Iv5 K L f x so mo sr pa sd bu ba now ndn hist ka sv nsv nm snm tn nl9 ls9 xc) (hl : lv_has ls 10 [(5, .int (q_i ii)), (4, .ref outD), (3, .ref out), (2, .ref mo), (1, .ref x), (0, .ref b)]) (hi0 : 0 ≤ ii) (hi6 : ii + 6 ≤ N9) (hce : cells + 6 ≤ 10000) (hse : slots + 36 ≤ 100000) (kk : ∀ (f1 : Nat → va_E) (H1 : Heap) (locs1 : List Loc) (ls1 : Array Slot) (tn1 : Int) (nl1 ls1_ : List (List Int)) (xc1 : Int), q_B g K L (fun q => s.heap.size ≤ q) [(0, 0, 6), (2, 1, 2), (3, 0, 4), (4, 0, 7), (5, 0, 9), (6, 1, 1), (7, 1, 4), (8, 1, 9), (9, 0, 2), (10, 3, 15), (11, 9, 9), (12, 0, 0), (12, 2, 12), (12, 21, 23), (12, 26, 28), (12, 35, 37), (12, 39, 40), (13, 3, 15), (14, 3, 15), (15, 3, 15), (16, 3, 15), (17, 0, 9), (18, 0, 9), (19, 0, 9), (20, 0, 9), (21, 0, 4), (22, 0, 4), (23, 0, 4), (24, 0, 4), (25, 0, 7), (26, 0, 7), (27, 0, 7), (28, 0, 7), (142, 0, 599), (143, 0, 599), (150, 0, 599), (151, 0, 657), (152, 0, 657), (153, 0, 657), (154, 0, 657), (155, 0, 3947), (156, 0, 9), (157, 0, 9), (158, 0, 9), (159, 0, 9), (160, 0, 9), (161, 0, 59), (162, 0, 58), (163, 0, 58), (164, 0, 58), (165, 0, 1), (166, 0, 1), (167, 0, 479), (168, 0, 0), (169, 0, 0)] f0 f1 s H1 locs1 → q_Iv5 K L f1 x so mo sr pa sd bu ba now ndn hist ka sv nsv nm snm tn1 nl1 ls1_ xc1 → lv_has ls1 10 [(5, .int (q_i ii)), (4, .ref outD), (3, .ref out), (2, .ref mo), (1, .ref x), (0, .ref b)] → W p l e room_1 s m #[Value.ref b] below meth c H1 locs1 (cells + 6) (slots + 36) (lw_Z below #[Value.ref b] s) (F0 m 1521 ls1 [])) : W p l e room_1 s m #[Value.ref b] below meth c H locs (cells) (slots) (lw_Z below #[Value.ref b] s) (F0 m 324 ls []) := by
  have hXs := C0.2.2.2.2.2.2.1
  have hbl := C0.2.2.2.2.2.2.2.1
  have hbA := q_bA hbl
  obtain ⟨⟨hn0, hn1, ltn, utn⟩, hgr, hpk, hsd9, ht3, ht4, hbb, hsr0, hxc, hvn, hvk, hvs, hrn9, hrs9, hpc, hs22⟩ := hI
  have lxc : 0 ≤ xc := by omega
  have uxc : xc ≤ 10 := by have h7 := hvn.2.1.2; omega
  have hr0 : q_ir (q_r f x 0) so := Eq.trans (hB.2.2.r hx (by rw [kx]; rfl)) hr0
  have hr1 : q_ir (q_r f x 1) rd := Eq.trans (hB.2.2.r hx (by rw [kx]; rfl)) hr1
  have hr2 : q_ir (q_r f x 2) scr := Eq.trans (hB.2.2.r hx (by rw [kx]; rfl)) hr2
  have hr3 : q_ir (q_r f x 3) fc := Eq.trans (hB.2.2.r hx (by rw [kx]; rfl)) hr3
  have hr4 : q_ir (q_r f x 4) hist := Eq.trans (hB.2.2.r hx (by rw [kx]; rfl)) hr4
  have hr5 : q_ir (q_r f x 5) rep := Eq.trans (hB.2.2.r hx (by rw [kx]; rfl)) hr5
  have hr6 : q_ir (q_r f x 6) now := Eq.trans (hB.2.2.r hx (by rw [kx]; rfl)) hr6
  have hr7 : q_ir (q_r f x 7) dr := Eq.trans (hB.2.2.r hx (by rw [kx]; rfl)) hr7
  have hr8 : q_ir (q_r f x 8) sv := Eq.trans (hB.2.2.r hx (by rw [kx]; rfl)) hr8
  have hr9 : q_ir (q_r f fc 0) tr := Eq.trans (hB.2.2.r hfc (by rw [kfc]; rfl)) hr9
  have hr10 : q_ir (q_r f so 0) ba := Eq.trans (hB.2.2.r hso (by rw [kso]; rfl)) hr10
  have hr11 : q_ir (q_r f dr 0) nds := Eq.trans (hB.2.2.r hdr (by rw [kdr]; rfl)) hr11
  have hr12 : q_ir (q_r f hist 0) ka := Eq.trans (hB.2.2.r hhist (by rw [khist]; rfl)) hr12
  have hr13 : q_ir (q_r f now 0) ndn := Eq.trans (hB.2.2.r hnow (by rw [know]; rfl)) hr13
  have hr14 : q_ir (q_r f sv 0) nsv := Eq.trans (hB.2.2.r hsv (by rw [ksv]; rfl)) hr14
  have hr15 : q_ir (q_r f mo 1) bu := Eq.trans (hB.2.2.r hmo (by rw [kmo]; rfl)) hr15
  have hr16 : q_ir (q_r f mo 13) sr := Eq.trans (hB.2.2.r hmo (by rw [kmo]; rfl)) hr16
  have hr17 : q_ir (q_r f mo 14) sd := Eq.trans (hB.2.2.r hmo (by rw [kmo]; rfl)) hr17
  have hr18 : q_ir (q_r f mo 15) as := Eq.trans (hB.2.2.r hmo (by rw [kmo]; rfl)) hr18
  have hr19 : q_ir (q_r f mo 16) aw := Eq.trans (hB.2.2.r hmo (by rw [kmo]; rfl)) hr19
  have hr20 : q_ir (q_r f mo 17) pa := Eq.trans (hB.2.2.r hmo (by rw [kmo]; rfl)) hr20
  have hr21 : q_ir (q_r f mo 18) nm := Eq.trans (hB.2.2.r hmo (by rw [kmo]; rfl)) hr21
  have hr22 : q_ir (q_r f mo 19) snm := Eq.trans (hB.2.2.r hmo (by rw [kmo]; rfl)) hr22
  have hr23 : q_ir (q_r f mo 20) anm := Eq.trans (hB.2.2.r hmo (by rw [kmo]; rfl)) hr23
  have hr24 : q_ir (q_r f mo 24) hp := Eq.trans (hB.2.2.r hmo (by rw [kmo]; rfl)) hr24
  have hr25 : q_ir (q_r f mo 25) dy := Eq.trans (hB.2.2.r hmo (by rw [kmo]; rfl)) hr25
  have hr26 : q_ir (q_r f mo 29) cs := Eq.trans (hB.2.2.r hmo (by rw [kmo]; rfl)) hr26
  have hr27 : q_ir (q_r f mo 30) c1 := Eq.trans (hB.2.2.r hmo (by rw [kmo]; rfl)) hr27
  have hr28 : q_ir (q_r f mo 31) c2 := Eq.trans (hB.2.2.r hmo (by rw [kmo]; rfl)) hr28
  have hr29 : q_ir (q_r f mo 32) c3 := Eq.trans (hB.2.2.r hmo (by rw [kmo]; rfl)) hr29
  have hr30 : q_ir (q_r f mo 33) bg := Eq.trans (hB.2.2.r hmo (by rw [kmo]; rfl)) hr30
  have hr31 : q_ir (q_r f mo 34) lp := Eq.trans (hB.2.2.r hmo (by rw [kmo]; rfl)) hr31
  have hr32 : q_ir (q_r f mo 38) rp := Eq.trans (hB.2.2.r hmo (by rw [kmo]; rfl)) hr32
  have hij : tk_ij K L f nds := tk_ij_tr hij (fun i9 => hB.2.2.r hnds (by rw [knds]; rfl))
  obtain ⟨B, hBd⟩ : ∃ B9 : Nat → Int, ∀ i9 : Nat, B9 i9 = q_z f ba i9 := ⟨_, fun _ => rfl⟩
  have htb : tk_tb f ba B tn := fun i9 h9 => (hBd i9).symm
  have hub : tk_ub f bu B tn := tk_bb_ub hbb hB.2.1 hba kba hBd utn
  obtain ⟨x1, ex1⟩ : ∃ zz, q_is (q_z f sr 3) zz := ⟨_, q_isr _⟩
  obtain ⟨lx1, ux1⟩ : 0 ≤ x1 ∧ x1 ≤ 9999 := q_isb ex1 ⟨(hgr 3 (by decide)).1, ht3⟩
  obtain ⟨x2, ex2⟩ : ∃ zz, q_is (q_z f sr 4) zz := ⟨_, q_isr _⟩
  obtain ⟨lx2, ux2⟩ : 0 ≤ x2 ∧ x2 ≤ 60 := q_isb ex2 ⟨(hgr 4 (by decide)).1, ht4⟩
  refine q_ald_n cx dL_law_324 rfl (lv_at hl 4 rfl) ?_
  refine q_ald_n cx dL_law_325 rfl (lv_at hl 2 rfl) ?_
  refine q_cWS (As := [.ref x, .ref out]) (rest := []) cx hX hB (fun q h => hLA q h) (fun q h1 h2 => absurd h1 (Nat.not_le_of_lt h2)) hN (f_wreadText l g ad hN hB.2.1 hfl B nl9 x hx kx out hout kout so hso kso rd hrd krd scr hscr kscr fc hfc kfc hist hhist khist rep hrep krep now hnow know dr hdr kdr sv hsv ksv tr htr ktr ba hba kba nds hnds knds ka hka kka ndn hndn kndn nsv hnsv knsv tn (by omega) (by omega) hn0 hr0 hr1 hr2 hr3 hr4 hr5 hr6 hr7 hr8 hr9 hr10 hr11 hr12 hr13 hr14 htb hij hvn hvk) q_cL_128 q_dL_readText ⟨by decide, by show cells + 1 ≤ 601024; omega, by show slots + 6 ≤ 7293034; omega⟩ rfl rfl hl.1 rfl (Nat.le_of_ble_eq_true rfl) dL_law_326 (fun v9 H locs f3 h5 hF hB => ?_)
  obtain ⟨y4, rfl, ry4, h5⟩ := h5
  refine W.eq (g2 := F0 m 329 ls [.int (q_i y4)]) rfl ?_
  rcases h5 with h6 | h7
  · obtain ⟨qy4, z8, z9, z10, t11, g12⟩ := h6
    have z13 : q_is (q_z f3 mo 2) tn := Eq.trans (hF.z hmo (by rw [kmo]; rfl)) hn1
    have z14 : q_is (q_z f3 sr 0) xc := Eq.trans (hF.z hsr (by rw [ksr]; rfl)) hsr0
    have z15 : q_is (q_z f3 sr 3) x1 := Eq.trans (hF.z hsr (by rw [ksr]; rfl)) ex1
    have z16 : q_is (q_z f3 sr 4) x2 := Eq.trans (hF.z hsr (by rw [ksr]; rfl)) ex2
    have z17 : q_ir (q_r f3 x 0) so := Eq.trans (hF.r hx (by rw [kx]; rfl)) hr0
    have z18 : q_ir (q_r f3 x 1) rd := Eq.trans (hF.r hx (by rw [kx]; rfl)) hr1
    have z19 : q_ir (q_r f3 x 2) scr := Eq.trans (hF.r hx (by rw [kx]; rfl)) hr2
    have z20 : q_ir (q_r f3 x 3) fc := Eq.trans (hF.r hx (by rw [kx]; rfl)) hr3
    have z21 : q_ir (q_r f3 x 4) hist := Eq.trans (hF.r hx (by rw [kx]; rfl)) hr4
    have z22 : q_ir (q_r f3 x 5) rep := Eq.trans (hF.r hx (by rw [kx]; rfl)) hr5
    have z23 : q_ir (q_r f3 x 6) now := Eq.trans (hF.r hx (by rw [kx]; rfl)) hr6
    have z24 : q_ir (q_r f3 x 7) dr := Eq.trans (hF.r hx (by rw [kx]; rfl)) hr7
    have z25 : q_ir (q_r f3 x 8) sv := Eq.trans (hF.r hx (by rw [kx]; rfl)) hr8
    have z26 : q_ir (q_r f3 fc 0) tr := Eq.trans (hF.r hfc (by rw [kfc]; rfl)) hr9
    have z27 : q_ir (q_r f3 so 0) ba := Eq.trans (hF.r hso (by rw [kso]; rfl)) hr10
    have z28 : q_ir (q_r f3 dr 0) nds := Eq.trans (hF.r hdr (by rw [kdr]; rfl)) hr11
    have z29 : q_ir (q_r f3 hist 0) ka := Eq.trans (hF.r hhist (by rw [khist]; rfl)) hr12
    have z30 : q_ir (q_r f3 now 0) ndn := Eq.trans (hF.r hnow (by rw [know]; rfl)) hr13
    have z31 : q_ir (q_r f3 sv 0) nsv := Eq.trans (hF.r hsv (by rw [ksv]; rfl)) hr14
    have z32 : q_ir (q_r f3 mo 1) bu := Eq.trans (hF.r hmo (by rw [kmo]; rfl)) hr15
    have z33 : q_ir (q_r f3 mo 13) sr := Eq.trans (hF.r hmo (by rw [kmo]; rfl)) hr16
    have z34 : q_ir (q_r f3 mo 14) sd := Eq.trans (hF.r hmo (by rw [kmo]; rfl)) hr17
    have z35 : q_ir (q_r f3 mo 15) as := Eq.trans (hF.r hmo (by rw [kmo]; rfl)) hr18
    have z36 : q_ir (q_r f3 mo 16) aw := Eq.trans (hF.r hmo (by rw [kmo]; rfl)) hr19
    have z37 : q_ir (q_r f3 mo 17) pa := Eq.trans (hF.r hmo (by rw [kmo]; rfl)) hr20
    have z38 : q_ir (q_r f3 mo 18) nm := Eq.trans (hF.r hmo (by rw [kmo]; rfl)) hr21
    have z39 : q_ir (q_r f3 mo 19) snm := Eq.trans (hF.r hmo (by rw [kmo]; rfl)) hr22
    have z40 : q_ir (q_r f3 mo 20) anm := Eq.trans (hF.r hmo (by rw [kmo]; rfl)) hr23
    have z41 : q_ir (q_r f3 mo 24) hp := Eq.trans (hF.r hmo (by rw [kmo]; rfl)) hr24
    have z42 : q_ir (q_r f3 mo 25) dy := Eq.trans (hF.r hmo (by rw [kmo]; rfl)) hr25
    have z43 : q_ir (q_r f3 mo 29) cs := Eq.trans (hF.r hmo (by rw [kmo]; rfl)) hr26
    have z44 : q_ir (q_r f3 mo 30) c1 := Eq.trans (hF.r hmo (by rw [kmo]; rfl)) hr27
    have z45 : q_ir (q_r f3 mo 31) c2 := Eq.trans (hF.r hmo (by rw [kmo]; rfl)) hr28
    have z46 : q_ir (q_r f3 mo 32) c3 := Eq.trans (hF.r hmo (by rw [kmo]; rfl)) hr29
    have z47 : q_ir (q_r f3 mo 33) bg := Eq.trans (hF.r hmo (by rw [kmo]; rfl)) hr30
    have z48 : q_ir (q_r f3 mo 34) lp := Eq.trans (hF.r hmo (by rw [kmo]; rfl)) hr31
    have z49 : q_ir (q_r f3 mo 38) rp := Eq.trans (hF.r hmo (by rw [kmo]; rfl)) hr32
    have g50 : q_gr f3 sr := q_gr_fr hgr (fun i9 _ => hF.z hsr (by rw [ksr]; rfl))
    have g51 : q_z f3 x 9 = q_z f3 mo 22 := tk_s2_tr hs22 (hF.z hx (by rw [kx]; rfl)) (hF.z hmo (by rw [kmo]; rfl))
    have g52 : q_pk f3 mo pa := q_pk_tr hpk (hF.z hmo (by rw [kmo]; rfl)) (fun i9 => hF.z hpa (by rw [kpa]; rfl))
    have g53 : q_sv f3 mo sd := q_sv_tr hsd9 (hF.z hmo (by rw [kmo]; rfl)) (fun i9 => hF.z hsd (by rw [ksd]; rfl))
    have g54 : tk_bb f3 bu ba tn := tk_bb_tr hbb (fun i9 => hF.z hbu (by rw [kbu]; rfl)) (fun i9 => hF.z hba (by rw [kba]; rfl))
    have g55 : tk_ij K L f3 nds := tk_ij_tr hij (fun i9 => hF.r hnds (by rw [knds]; rfl))
    have g56 : tk_vs K L f3 x sv nsv ls9 := tk_vs_tr hvs (hF.z hx (by rw [kx]; rfl)) (hF.z hsv (by rw [ksv]; rfl)) (fun a9 h9 k9 => hF.j h9 (by rw [k9]; rfl)) (fun i9 => hF.r hnsv (by rw [knsv]; rfl))
    have g57 : tk_nq f3 nm nl9 := tk_nq_tr hrn9 (fun i9 => hF.j hnm (by rw [knm]; rfl))
    have g58 : tk_rs f3 mo sd snm ls9 := tk_rs_tr hrs9 (hF.z hmo (by rw [kmo]; rfl)) (fun i9 h9 k9 => hF.z hsd (by rw [ksd]; exact q_inWr rfl h9 k9)) (fun i9 => hF.j hsnm (by rw [ksnm]; rfl))
    have g59 : q_pc f3 mo pa xc := q_pc_tr hpc (hF.z hmo (by rw [kmo]; rfl)) (fun i9 => hF.z hpa (by rw [kpa]; rfl))
    have g60 : tk_tb f3 ba B tn := tk_tb_tr htb (fun i9 => hF.z hba (by rw [kba]; rfl))
    have g61 : tk_ub f3 bu B tn := tk_ub_tr hub (fun i9 => hF.z hbu (by rw [kbu]; rfl))
    subst qy4
    obtain ⟨A9, hA9, hle9, hj9, hv9⟩ := t11
    obtain ⟨nA, enA⟩ : ∃ zz : Int, ((tk_nd A9).length : Int) = zz := ⟨_, rfl⟩
    rw [enA] at hj9
    have lnA : 0 ≤ nA := by omega
    have unA : nA ≤ 10 := by omega
    refine lv_istore (lv' := [(6, .int (q_i 0)), (5, .int (q_i ii)), (4, .ref outD), (3, .ref out), (2, .ref mo), (1, .ref x), (0, .ref b)]) cx.1 cx.2.1 dL_law_329 hl (by decide) rfl (fun ls hl => ?_)
    refine q_ald_n cx dL_law_331 rfl (lv_at hl 4 rfl) ?_
    refine q_cVi (As := []) (rest := []) cx hB (fun q h => hLA q h) hN hmo kmo (by decide) rfl (f_mreadText l g hN hB.2.1 B nl9 mo hmo kmo sr hsr ksr as has kas nm hnm knm anm hanm kanm bu hbu kbu pa hpa kpa x1 (by omega) (by omega) x2 (by omega) (by omega) xc (by omega) (by omega) tn (by omega) (by omega) z15 z16 z14 z13 z33 z35 z38 z40 z32 z37 g50 g52 g59 g61 g57) q_cL_131 q_dX12_readText ⟨by decide, by show cells + 1 ≤ 601024; omega, by show slots + 6 ≤ 7293034; omega⟩ rfl rfl hl.1 rfl (Nat.le_of_ble_eq_true rfl) dL_law_332 (fun y63 H locs f62 ry63 h64 hF hB => ?_)
    rcases h64 with h65 | h66
    · obtain ⟨ly63, uy63, lz67, uz67, lz68, uz68, z69, z70, z71, z72, z73, t74, g75, g76⟩ := h65
      have z77 : q_j f62 out 0 = (q_l nA) := (hF.j hout (by rw [kout]; rfl)).trans hj9
      have z78 : q_is (q_z f62 so 1) 0 := Eq.trans (hF.z hso (by rw [kso]; rfl)) z8
      have z79 : q_is (q_z f62 so 2) 0 := Eq.trans (hF.z hso (by rw [kso]; rfl)) z9
      have z80 : q_is (q_z f62 so 3) (-1) := Eq.trans (hF.z hso (by rw [kso]; rfl)) z10
      have z81 : q_ir (q_r f62 x 0) so := Eq.trans (hF.r hx (by rw [kx]; rfl)) z17
      have z82 : q_ir (q_r f62 x 1) rd := Eq.trans (hF.r hx (by rw [kx]; rfl)) z18
      have z83 : q_ir (q_r f62 x 2) scr := Eq.trans (hF.r hx (by rw [kx]; rfl)) z19
      have z84 : q_ir (q_r f62 x 3) fc := Eq.trans (hF.r hx (by rw [kx]; rfl)) z20
      have z85 : q_ir (q_r f62 x 4) hist := Eq.trans (hF.r hx (by rw [kx]; rfl)) z21
      have z86 : q_ir (q_r f62 x 5) rep := Eq.trans (hF.r hx (by rw [kx]; rfl)) z22
      have z87 : q_ir (q_r f62 x 6) now := Eq.trans (hF.r hx (by rw [kx]; rfl)) z23
      have z88 : q_ir (q_r f62 x 7) dr := Eq.trans (hF.r hx (by rw [kx]; rfl)) z24
      have z89 : q_ir (q_r f62 x 8) sv := Eq.trans (hF.r hx (by rw [kx]; rfl)) z25
      have z90 : q_ir (q_r f62 fc 0) tr := Eq.trans (hF.r hfc (by rw [kfc]; rfl)) z26
      have z91 : q_ir (q_r f62 so 0) ba := Eq.trans (hF.r hso (by rw [kso]; rfl)) z27
      have z92 : q_ir (q_r f62 dr 0) nds := Eq.trans (hF.r hdr (by rw [kdr]; rfl)) z28
      have z93 : q_ir (q_r f62 hist 0) ka := Eq.trans (hF.r hhist (by rw [khist]; rfl)) z29
      have z94 : q_ir (q_r f62 now 0) ndn := Eq.trans (hF.r hnow (by rw [know]; rfl)) z30
      have z95 : q_ir (q_r f62 sv 0) nsv := Eq.trans (hF.r hsv (by rw [ksv]; rfl)) z31
      have z96 : q_ir (q_r f62 mo 1) bu := Eq.trans (hF.r hmo (by rw [kmo]; rfl)) z32
      have z97 : q_ir (q_r f62 mo 13) sr := Eq.trans (hF.r hmo (by rw [kmo]; rfl)) z33
      have z98 : q_ir (q_r f62 mo 14) sd := Eq.trans (hF.r hmo (by rw [kmo]; rfl)) z34
      have z99 : q_ir (q_r f62 mo 15) as := Eq.trans (hF.r hmo (by rw [kmo]; rfl)) z35
      have z100 : q_ir (q_r f62 mo 16) aw := Eq.trans (hF.r hmo (by rw [kmo]; rfl)) z36
      have z101 : q_ir (q_r f62 mo 17) pa := Eq.trans (hF.r hmo (by rw [kmo]; rfl)) z37
      have z102 : q_ir (q_r f62 mo 18) nm := Eq.trans (hF.r hmo (by rw [kmo]; rfl)) z38
      have z103 : q_ir (q_r f62 mo 19) snm := Eq.trans (hF.r hmo (by rw [kmo]; rfl)) z39
      have z104 : q_ir (q_r f62 mo 20) anm := Eq.trans (hF.r hmo (by rw [kmo]; rfl)) z40
      have z105 : q_ir (q_r f62 mo 24) hp := Eq.trans (hF.r hmo (by rw [kmo]; rfl)) z41
      have z106 : q_ir (q_r f62 mo 25) dy := Eq.trans (hF.r hmo (by rw [kmo]; rfl)) z42
      have z107 : q_ir (q_r f62 mo 29) cs := Eq.trans (hF.r hmo (by rw [kmo]; rfl)) z43
      have z108 : q_ir (q_r f62 mo 30) c1 := Eq.trans (hF.r hmo (by rw [kmo]; rfl)) z44
      have z109 : q_ir (q_r f62 mo 31) c2 := Eq.trans (hF.r hmo (by rw [kmo]; rfl)) z45
      have z110 : q_ir (q_r f62 mo 32) c3 := Eq.trans (hF.r hmo (by rw [kmo]; rfl)) z46
      have z111 : q_ir (q_r f62 mo 33) bg := Eq.trans (hF.r hmo (by rw [kmo]; rfl)) z47
      have z112 : q_ir (q_r f62 mo 34) lp := Eq.trans (hF.r hmo (by rw [kmo]; rfl)) z48
      have z113 : q_ir (q_r f62 mo 38) rp := Eq.trans (hF.r hmo (by rw [kmo]; rfl)) z49
      have g114 : q_z f62 x 9 = q_z f62 mo 22 := tk_s2_tr g51 (hF.z hx (by rw [kx]; rfl)) (hF.z hmo (by rw [kmo]; rfl))
      have g115 : q_sv f62 mo sd := q_sv_tr g53 (hF.z hmo (by rw [kmo]; rfl)) (fun i9 => hF.z hsd (by rw [ksd]; rfl))
      have g116 : tk_bb f62 bu ba tn := tk_bb_tr g54 (fun i9 => hF.z hbu (by rw [kbu]; rfl)) (fun i9 => hF.z hba (by rw [kba]; rfl))
      have g117 : tk_ij K L f62 nds := tk_ij_tr g55 (fun i9 => hF.r hnds (by rw [knds]; rfl))
      have g118 : tk_vs K L f62 x sv nsv ls9 := tk_vs_tr g56 (hF.z hx (by rw [kx]; rfl)) (hF.z hsv (by rw [ksv]; rfl)) (fun a9 h9 k9 => hF.j h9 (by rw [k9]; rfl)) (fun i9 => hF.r hnsv (by rw [knsv]; rfl))
      have g119 : tk_rs f62 mo sd snm ls9 := tk_rs_tr g58 (hF.z hmo (by rw [kmo]; rfl)) (fun i9 h9 k9 => hF.z hsd (by rw [ksd]; exact q_inWr rfl h9 k9)) (fun i9 => hF.j hsnm (by rw [ksnm]; rfl))
      have g120 : tk_tb f62 ba B tn := tk_tb_tr g60 (fun i9 => hF.z hba (by rw [kba]; rfl))
      have g121 : tk_ub f62 bu B tn := tk_ub_tr g61 (fun i9 => hF.z hbu (by rw [kbu]; rfl))
      have g122 : tk_vk K L f62 hist ka now ndn := tk_vk_tr g12 (hF.z hhist (by rw [khist]; rfl)) (hF.z hhist (by rw [khist]; rfl)) (hF.z hnow (by rw [know]; rfl)) (fun a9 h9 k9 => hF.j h9 (by rw [k9]; rfl)) (fun i9 => hF.r hndn (by rw [kndn]; rfl)) (fun a9 h9 k9 => hF.z h9 (by rw [k9]; rfl)) (fun a9 h9 k9 => hF.j h9 (by rw [k9]; rfl)) (fun i9 => hF.r hka (by rw [kka]; rfl)) (fun a9 h9 k9 => hF.r h9 (by rw [k9]; rfl)) (fun a9 h9 k9 i9 => hF.r h9 (by rw [k9]; rfl))
      have g123 : tk_vn K L 5 f62 now ndn (tk_nd A9) := tk_vn_tr hv9 (hF.z hnow (by rw [know]; rfl)) (fun a9 h9 k9 => hF.j h9 (by rw [k9]; rfl)) (fun i9 => hF.r hndn (by rw [kndn]; rfl))
      obtain ⟨x124, ex124⟩ : ∃ zz, q_is (q_z f62 sr 3) zz := ⟨_, q_isr _⟩
      obtain ⟨lx124, ux124⟩ := q_isb ex124 ⟨lz67, uz67⟩
      obtain ⟨x125, ex125⟩ : ∃ zz, q_is (q_z f62 sr 4) zz := ⟨_, q_isr _⟩
      obtain ⟨lx125, ux125⟩ := q_isb ex125 ⟨lz68, uz68⟩
      obtain ⟨A8, hA8, hz8, hr8, hc8⟩ := t74
      obtain rfl : A8 = A9 := tk_inj (hA8.symm.trans hA9)
      have hz9 : y63 = nA := by rw [hz8, ← enA]
      have hsr9 : q_is (q_z f62 sr 0) nA := hc8.symm.trans enA
      have hpc9 : q_pc f62 mo pa nA := k_pc0 z73
      refine lv_istore (lv' := [(7, .int (q_i y63)), (6, .int (q_i 0)), (5, .int (q_i ii)), (4, .ref outD), (3, .ref out), (2, .ref mo), (1, .ref x), (0, .ref b)]) cx.1 cx.2.1 dL_law_335 hl (by decide) rfl (fun ls hl => ?_)
      refine lv_goto (tgt := 1521) cx.1 cx.2.1 dL_law_337 (by decide) ?_
      refine W.widen (k := cells + 6) (n := slots + 36) (by omega) (by omega) ?_
      exact kk f62 H locs ls 0 (tk_nd A8) ls9 nA hB ⟨⟨z78, (Eq.trans z69 (by omega)), by omega, by omega⟩, g75, g76, g115, q_isu ex124 (by omega), q_isu ex125 (by omega), tk_bb_le g116 (by omega), hsr9, by omega, g123, g122, g118, hr8, g119, hpc9, g114⟩ (lv_sub hl [2, 3, 4, 5, 6, 7] rfl)
    · obtain ⟨qy63, lz126, uz126, lz127, uz127, z128, z129, z130, t131, t132, t133, g134, g135⟩ := h66
      have z136 : q_j f62 out 0 = (q_l nA) := (hF.j hout (by rw [kout]; rfl)).trans hj9
      have z137 : q_is (q_z f62 so 1) 0 := Eq.trans (hF.z hso (by rw [kso]; rfl)) z8
      have z138 : q_is (q_z f62 so 2) 0 := Eq.trans (hF.z hso (by rw [kso]; rfl)) z9
      have z139 : q_is (q_z f62 so 3) (-1) := Eq.trans (hF.z hso (by rw [kso]; rfl)) z10
      have z140 : q_ir (q_r f62 x 0) so := Eq.trans (hF.r hx (by rw [kx]; rfl)) z17
      have z141 : q_ir (q_r f62 x 1) rd := Eq.trans (hF.r hx (by rw [kx]; rfl)) z18
      have z142 : q_ir (q_r f62 x 2) scr := Eq.trans (hF.r hx (by rw [kx]; rfl)) z19
      have z143 : q_ir (q_r f62 x 3) fc := Eq.trans (hF.r hx (by rw [kx]; rfl)) z20
      have z144 : q_ir (q_r f62 x 4) hist := Eq.trans (hF.r hx (by rw [kx]; rfl)) z21
      have z145 : q_ir (q_r f62 x 5) rep := Eq.trans (hF.r hx (by rw [kx]; rfl)) z22
      have z146 : q_ir (q_r f62 x 6) now := Eq.trans (hF.r hx (by rw [kx]; rfl)) z23
      have z147 : q_ir (q_r f62 x 7) dr := Eq.trans (hF.r hx (by rw [kx]; rfl)) z24
      have z148 : q_ir (q_r f62 x 8) sv := Eq.trans (hF.r hx (by rw [kx]; rfl)) z25
      have z149 : q_ir (q_r f62 fc 0) tr := Eq.trans (hF.r hfc (by rw [kfc]; rfl)) z26
      have z150 : q_ir (q_r f62 so 0) ba := Eq.trans (hF.r hso (by rw [kso]; rfl)) z27
      have z151 : q_ir (q_r f62 dr 0) nds := Eq.trans (hF.r hdr (by rw [kdr]; rfl)) z28
      have z152 : q_ir (q_r f62 hist 0) ka := Eq.trans (hF.r hhist (by rw [khist]; rfl)) z29
      have z153 : q_ir (q_r f62 now 0) ndn := Eq.trans (hF.r hnow (by rw [know]; rfl)) z30
      have z154 : q_ir (q_r f62 sv 0) nsv := Eq.trans (hF.r hsv (by rw [ksv]; rfl)) z31
      have z155 : q_ir (q_r f62 mo 1) bu := Eq.trans (hF.r hmo (by rw [kmo]; rfl)) z32
      have z156 : q_ir (q_r f62 mo 13) sr := Eq.trans (hF.r hmo (by rw [kmo]; rfl)) z33
      have z157 : q_ir (q_r f62 mo 14) sd := Eq.trans (hF.r hmo (by rw [kmo]; rfl)) z34
      have z158 : q_ir (q_r f62 mo 15) as := Eq.trans (hF.r hmo (by rw [kmo]; rfl)) z35
      have z159 : q_ir (q_r f62 mo 16) aw := Eq.trans (hF.r hmo (by rw [kmo]; rfl)) z36
      have z160 : q_ir (q_r f62 mo 17) pa := Eq.trans (hF.r hmo (by rw [kmo]; rfl)) z37
      have z161 : q_ir (q_r f62 mo 18) nm := Eq.trans (hF.r hmo (by rw [kmo]; rfl)) z38
      have z162 : q_ir (q_r f62 mo 19) snm := Eq.trans (hF.r hmo (by rw [kmo]; rfl)) z39
      have z163 : q_ir (q_r f62 mo 20) anm := Eq.trans (hF.r hmo (by rw [kmo]; rfl)) z40
      have z164 : q_ir (q_r f62 mo 24) hp := Eq.trans (hF.r hmo (by rw [kmo]; rfl)) z41
      have z165 : q_ir (q_r f62 mo 25) dy := Eq.trans (hF.r hmo (by rw [kmo]; rfl)) z42
      have z166 : q_ir (q_r f62 mo 29) cs := Eq.trans (hF.r hmo (by rw [kmo]; rfl)) z43
      have z167 : q_ir (q_r f62 mo 30) c1 := Eq.trans (hF.r hmo (by rw [kmo]; rfl)) z44
      have z168 : q_ir (q_r f62 mo 31) c2 := Eq.trans (hF.r hmo (by rw [kmo]; rfl)) z45
      have z169 : q_ir (q_r f62 mo 32) c3 := Eq.trans (hF.r hmo (by rw [kmo]; rfl)) z46
      have z170 : q_ir (q_r f62 mo 33) bg := Eq.trans (hF.r hmo (by rw [kmo]; rfl)) z47
      have z171 : q_ir (q_r f62 mo 34) lp := Eq.trans (hF.r hmo (by rw [kmo]; rfl)) z48
      have z172 : q_ir (q_r f62 mo 38) rp := Eq.trans (hF.r hmo (by rw [kmo]; rfl)) z49
      have g173 : q_z f62 x 9 = q_z f62 mo 22 := tk_s2_tr g51 (hF.z hx (by rw [kx]; rfl)) (hF.z hmo (by rw [kmo]; rfl))
      have g174 : q_sv f62 mo sd := q_sv_tr g53 (hF.z hmo (by rw [kmo]; rfl)) (fun i9 => hF.z hsd (by rw [ksd]; rfl))
      have g175 : tk_bb f62 bu ba tn := tk_bb_tr g54 (fun i9 => hF.z hbu (by rw [kbu]; rfl)) (fun i9 => hF.z hba (by rw [kba]; rfl))
      have g176 : tk_ij K L f62 nds := tk_ij_tr g55 (fun i9 => hF.r hnds (by rw [knds]; rfl))
      have g177 : tk_vs K L f62 x sv nsv ls9 := tk_vs_tr g56 (hF.z hx (by rw [kx]; rfl)) (hF.z hsv (by rw [ksv]; rfl)) (fun a9 h9 k9 => hF.j h9 (by rw [k9]; rfl)) (fun i9 => hF.r hnsv (by rw [knsv]; rfl))
      have g178 : tk_rs f62 mo sd snm ls9 := tk_rs_tr g58 (hF.z hmo (by rw [kmo]; rfl)) (fun i9 h9 k9 => hF.z hsd (by rw [ksd]; exact q_inWr rfl h9 k9)) (fun i9 => hF.j hsnm (by rw [ksnm]; rfl))
      have g179 : tk_tb f62 ba B tn := tk_tb_tr g60 (fun i9 => hF.z hba (by rw [kba]; rfl))
      have g180 : tk_ub f62 bu B tn := tk_ub_tr g61 (fun i9 => hF.z hbu (by rw [kbu]; rfl))
      have g181 : tk_vk K L f62 hist ka now ndn := tk_vk_tr g12 (hF.z hhist (by rw [khist]; rfl)) (hF.z hhist (by rw [khist]; rfl)) (hF.z hnow (by rw [know]; rfl)) (fun a9 h9 k9 => hF.j h9 (by rw [k9]; rfl)) (fun i9 => hF.r hndn (by rw [kndn]; rfl)) (fun a9 h9 k9 => hF.z h9 (by rw [k9]; rfl)) (fun a9 h9 k9 => hF.j h9 (by rw [k9]; rfl)) (fun i9 => hF.r hka (by rw [kka]; rfl)) (fun a9 h9 k9 => hF.r h9 (by rw [k9]; rfl)) (fun a9 h9 k9 i9 => hF.r h9 (by rw [k9]; rfl))
      have g182 : tk_vn K L 5 f62 now ndn (tk_nd A9) := tk_vn_tr hv9 (hF.z hnow (by rw [know]; rfl)) (fun a9 h9 k9 => hF.j h9 (by rw [k9]; rfl)) (fun i9 => hF.r hndn (by rw [kndn]; rfl))
      obtain ⟨x183, ex183⟩ : ∃ zz, q_is (q_z f62 sr 3) zz := ⟨_, q_isr _⟩
      obtain ⟨lx183, ux183⟩ := q_isb ex183 ⟨lz126, uz126⟩
      obtain ⟨x184, ex184⟩ : ∃ zz, q_is (q_z f62 sr 4) zz := ⟨_, q_isr _⟩
      obtain ⟨lx184, ux184⟩ := q_isb ex184 ⟨lz127, uz127⟩
      subst qy63
      exact tk_no (t131.symm.trans hA9)
  · obtain ⟨qy4, z185, t186, t187, g188⟩ := h7
    have z189 : q_is (q_z f3 mo 2) tn := Eq.trans (hF.z hmo (by rw [kmo]; rfl)) hn1
    have z190 : q_is (q_z f3 sr 0) xc := Eq.trans (hF.z hsr (by rw [ksr]; rfl)) hsr0
    have z191 : q_is (q_z f3 sr 3) x1 := Eq.trans (hF.z hsr (by rw [ksr]; rfl)) ex1
    have z192 : q_is (q_z f3 sr 4) x2 := Eq.trans (hF.z hsr (by rw [ksr]; rfl)) ex2
    have z193 : q_ir (q_r f3 x 0) so := Eq.trans (hF.r hx (by rw [kx]; rfl)) hr0
    have z194 : q_ir (q_r f3 x 1) rd := Eq.trans (hF.r hx (by rw [kx]; rfl)) hr1
    have z195 : q_ir (q_r f3 x 2) scr := Eq.trans (hF.r hx (by rw [kx]; rfl)) hr2
    have z196 : q_ir (q_r f3 x 3) fc := Eq.trans (hF.r hx (by rw [kx]; rfl)) hr3
    have z197 : q_ir (q_r f3 x 4) hist := Eq.trans (hF.r hx (by rw [kx]; rfl)) hr4
    have z198 : q_ir (q_r f3 x 5) rep := Eq.trans (hF.r hx (by rw [kx]; rfl)) hr5
    have z199 : q_ir (q_r f3 x 6) now := Eq.trans (hF.r hx (by rw [kx]; rfl)) hr6
    have z200 : q_ir (q_r f3 x 7) dr := Eq.trans (hF.r hx (by rw [kx]; rfl)) hr7
    have z201 : q_ir (q_r f3 x 8) sv := Eq.trans (hF.r hx (by rw [kx]; rfl)) hr8
    have z202 : q_ir (q_r f3 fc 0) tr := Eq.trans (hF.r hfc (by rw [kfc]; rfl)) hr9
    have z203 : q_ir (q_r f3 so 0) ba := Eq.trans (hF.r hso (by rw [kso]; rfl)) hr10
    have z204 : q_ir (q_r f3 dr 0) nds := Eq.trans (hF.r hdr (by rw [kdr]; rfl)) hr11
    have z205 : q_ir (q_r f3 hist 0) ka := Eq.trans (hF.r hhist (by rw [khist]; rfl)) hr12
    have z206 : q_ir (q_r f3 now 0) ndn := Eq.trans (hF.r hnow (by rw [know]; rfl)) hr13
    have z207 : q_ir (q_r f3 sv 0) nsv := Eq.trans (hF.r hsv (by rw [ksv]; rfl)) hr14
    have z208 : q_ir (q_r f3 mo 1) bu := Eq.trans (hF.r hmo (by rw [kmo]; rfl)) hr15
    have z209 : q_ir (q_r f3 mo 13) sr := Eq.trans (hF.r hmo (by rw [kmo]; rfl)) hr16
    have z210 : q_ir (q_r f3 mo 14) sd := Eq.trans (hF.r hmo (by rw [kmo]; rfl)) hr17
    have z211 : q_ir (q_r f3 mo 15) as := Eq.trans (hF.r hmo (by rw [kmo]; rfl)) hr18
    have z212 : q_ir (q_r f3 mo 16) aw := Eq.trans (hF.r hmo (by rw [kmo]; rfl)) hr19
    have z213 : q_ir (q_r f3 mo 17) pa := Eq.trans (hF.r hmo (by rw [kmo]; rfl)) hr20
    have z214 : q_ir (q_r f3 mo 18) nm := Eq.trans (hF.r hmo (by rw [kmo]; rfl)) hr21
    have z215 : q_ir (q_r f3 mo 19) snm := Eq.trans (hF.r hmo (by rw [kmo]; rfl)) hr22
    have z216 : q_ir (q_r f3 mo 20) anm := Eq.trans (hF.r hmo (by rw [kmo]; rfl)) hr23
    have z217 : q_ir (q_r f3 mo 24) hp := Eq.trans (hF.r hmo (by rw [kmo]; rfl)) hr24
    have z218 : q_ir (q_r f3 mo 25) dy := Eq.trans (hF.r hmo (by rw [kmo]; rfl)) hr25
    have z219 : q_ir (q_r f3 mo 29) cs := Eq.trans (hF.r hmo (by rw [kmo]; rfl)) hr26
    have z220 : q_ir (q_r f3 mo 30) c1 := Eq.trans (hF.r hmo (by rw [kmo]; rfl)) hr27
    have z221 : q_ir (q_r f3 mo 31) c2 := Eq.trans (hF.r hmo (by rw [kmo]; rfl)) hr28
    have z222 : q_ir (q_r f3 mo 32) c3 := Eq.trans (hF.r hmo (by rw [kmo]; rfl)) hr29
    have z223 : q_ir (q_r f3 mo 33) bg := Eq.trans (hF.r hmo (by rw [kmo]; rfl)) hr30
    have z224 : q_ir (q_r f3 mo 34) lp := Eq.trans (hF.r hmo (by rw [kmo]; rfl)) hr31
    have z225 : q_ir (q_r f3 mo 38) rp := Eq.trans (hF.r hmo (by rw [kmo]; rfl)) hr32
    have g226 : q_gr f3 sr := q_gr_fr hgr (fun i9 _ => hF.z hsr (by rw [ksr]; rfl))
    have g227 : q_z f3 x 9 = q_z f3 mo 22 := tk_s2_tr hs22 (hF.z hx (by rw [kx]; rfl)) (hF.z hmo (by rw [kmo]; rfl))
    have g228 : q_pk f3 mo pa := q_pk_tr hpk (hF.z hmo (by rw [kmo]; rfl)) (fun i9 => hF.z hpa (by rw [kpa]; rfl))
    have g229 : q_sv f3 mo sd := q_sv_tr hsd9 (hF.z hmo (by rw [kmo]; rfl)) (fun i9 => hF.z hsd (by rw [ksd]; rfl))
    have g230 : tk_bb f3 bu ba tn := tk_bb_tr hbb (fun i9 => hF.z hbu (by rw [kbu]; rfl)) (fun i9 => hF.z hba (by rw [kba]; rfl))
    have g231 : tk_ij K L f3 nds := tk_ij_tr hij (fun i9 => hF.r hnds (by rw [knds]; rfl))
    have g232 : tk_vs K L f3 x sv nsv ls9 := tk_vs_tr hvs (hF.z hx (by rw [kx]; rfl)) (hF.z hsv (by rw [ksv]; rfl)) (fun a9 h9 k9 => hF.j h9 (by rw [k9]; rfl)) (fun i9 => hF.r hnsv (by rw [knsv]; rfl))
    have g233 : tk_nq f3 nm nl9 := tk_nq_tr hrn9 (fun i9 => hF.j hnm (by rw [knm]; rfl))
    have g234 : tk_rs f3 mo sd snm ls9 := tk_rs_tr hrs9 (hF.z hmo (by rw [kmo]; rfl)) (fun i9 h9 k9 => hF.z hsd (by rw [ksd]; exact q_inWr rfl h9 k9)) (fun i9 => hF.j hsnm (by rw [ksnm]; rfl))
    have g235 : q_pc f3 mo pa xc := q_pc_tr hpc (hF.z hmo (by rw [kmo]; rfl)) (fun i9 => hF.z hpa (by rw [kpa]; rfl))
    have g236 : tk_tb f3 ba B tn := tk_tb_tr htb (fun i9 => hF.z hba (by rw [kba]; rfl))
    have g237 : tk_ub f3 bu B tn := tk_ub_tr hub (fun i9 => hF.z hbu (by rw [kbu]; rfl))
    subst qy4
    refine lv_istore (lv' := [(6, .int (q_i 1)), (5, .int (q_i ii)), (4, .ref outD), (3, .ref out), (2, .ref mo), (1, .ref x), (0, .ref b)]) cx.1 cx.2.1 dL_law_329 hl (by decide) rfl (fun ls hl => ?_)
    refine q_ald_n cx dL_law_331 rfl (lv_at hl 4 rfl) ?_
    refine q_cVi (As := []) (rest := []) cx hB (fun q h => hLA q h) hN hmo kmo (by decide) rfl (f_mreadText l g hN hB.2.1 B nl9 mo hmo kmo sr hsr ksr as has kas nm hnm knm anm hanm kanm bu hbu kbu pa hpa kpa x1 (by omega) (by omega) x2 (by omega) (by omega) xc (by omega) (by omega) tn (by omega) (by omega) z191 z192 z190 z189 z209 z211 z214 z216 z208 z213 g226 g228 g235 g237 g233) q_cL_131 q_dX12_readText ⟨by decide, by show cells + 1 ≤ 601024; omega, by show slots + 6 ≤ 7293034; omega⟩ rfl rfl hl.1 rfl (Nat.le_of_ble_eq_true rfl) dL_law_332 (fun y239 H locs f238 ry239 h240 hF hB => ?_)
    rcases h240 with h241 | h242
    · obtain ⟨ly239, uy239, lz243, uz243, lz244, uz244, z245, z246, z247, z248, z249, t250, g251, g252⟩ := h241
      have z253 : q_is (q_z f238 so 1) 0 := Eq.trans (hF.z hso (by rw [kso]; rfl)) z185
      have z254 : q_ir (q_r f238 x 0) so := Eq.trans (hF.r hx (by rw [kx]; rfl)) z193
      have z255 : q_ir (q_r f238 x 1) rd := Eq.trans (hF.r hx (by rw [kx]; rfl)) z194
      have z256 : q_ir (q_r f238 x 2) scr := Eq.trans (hF.r hx (by rw [kx]; rfl)) z195
      have z257 : q_ir (q_r f238 x 3) fc := Eq.trans (hF.r hx (by rw [kx]; rfl)) z196
      have z258 : q_ir (q_r f238 x 4) hist := Eq.trans (hF.r hx (by rw [kx]; rfl)) z197
      have z259 : q_ir (q_r f238 x 5) rep := Eq.trans (hF.r hx (by rw [kx]; rfl)) z198
      have z260 : q_ir (q_r f238 x 6) now := Eq.trans (hF.r hx (by rw [kx]; rfl)) z199
      have z261 : q_ir (q_r f238 x 7) dr := Eq.trans (hF.r hx (by rw [kx]; rfl)) z200
      have z262 : q_ir (q_r f238 x 8) sv := Eq.trans (hF.r hx (by rw [kx]; rfl)) z201
      have z263 : q_ir (q_r f238 fc 0) tr := Eq.trans (hF.r hfc (by rw [kfc]; rfl)) z202
      have z264 : q_ir (q_r f238 so 0) ba := Eq.trans (hF.r hso (by rw [kso]; rfl)) z203
      have z265 : q_ir (q_r f238 dr 0) nds := Eq.trans (hF.r hdr (by rw [kdr]; rfl)) z204
      have z266 : q_ir (q_r f238 hist 0) ka := Eq.trans (hF.r hhist (by rw [khist]; rfl)) z205
      have z267 : q_ir (q_r f238 now 0) ndn := Eq.trans (hF.r hnow (by rw [know]; rfl)) z206
      have z268 : q_ir (q_r f238 sv 0) nsv := Eq.trans (hF.r hsv (by rw [ksv]; rfl)) z207
      have z269 : q_ir (q_r f238 mo 1) bu := Eq.trans (hF.r hmo (by rw [kmo]; rfl)) z208
      have z270 : q_ir (q_r f238 mo 13) sr := Eq.trans (hF.r hmo (by rw [kmo]; rfl)) z209
      have z271 : q_ir (q_r f238 mo 14) sd := Eq.trans (hF.r hmo (by rw [kmo]; rfl)) z210
      have z272 : q_ir (q_r f238 mo 15) as := Eq.trans (hF.r hmo (by rw [kmo]; rfl)) z211
      have z273 : q_ir (q_r f238 mo 16) aw := Eq.trans (hF.r hmo (by rw [kmo]; rfl)) z212
      have z274 : q_ir (q_r f238 mo 17) pa := Eq.trans (hF.r hmo (by rw [kmo]; rfl)) z213
      have z275 : q_ir (q_r f238 mo 18) nm := Eq.trans (hF.r hmo (by rw [kmo]; rfl)) z214
      have z276 : q_ir (q_r f238 mo 19) snm := Eq.trans (hF.r hmo (by rw [kmo]; rfl)) z215
      have z277 : q_ir (q_r f238 mo 20) anm := Eq.trans (hF.r hmo (by rw [kmo]; rfl)) z216
      have z278 : q_ir (q_r f238 mo 24) hp := Eq.trans (hF.r hmo (by rw [kmo]; rfl)) z217
      have z279 : q_ir (q_r f238 mo 25) dy := Eq.trans (hF.r hmo (by rw [kmo]; rfl)) z218
      have z280 : q_ir (q_r f238 mo 29) cs := Eq.trans (hF.r hmo (by rw [kmo]; rfl)) z219
      have z281 : q_ir (q_r f238 mo 30) c1 := Eq.trans (hF.r hmo (by rw [kmo]; rfl)) z220
      have z282 : q_ir (q_r f238 mo 31) c2 := Eq.trans (hF.r hmo (by rw [kmo]; rfl)) z221
      have z283 : q_ir (q_r f238 mo 32) c3 := Eq.trans (hF.r hmo (by rw [kmo]; rfl)) z222
      have z284 : q_ir (q_r f238 mo 33) bg := Eq.trans (hF.r hmo (by rw [kmo]; rfl)) z223
      have z285 : q_ir (q_r f238 mo 34) lp := Eq.trans (hF.r hmo (by rw [kmo]; rfl)) z224
      have z286 : q_ir (q_r f238 mo 38) rp := Eq.trans (hF.r hmo (by rw [kmo]; rfl)) z225
      have g287 : q_z f238 x 9 = q_z f238 mo 22 := tk_s2_tr g227 (hF.z hx (by rw [kx]; rfl)) (hF.z hmo (by rw [kmo]; rfl))
      have g288 : q_sv f238 mo sd := q_sv_tr g229 (hF.z hmo (by rw [kmo]; rfl)) (fun i9 => hF.z hsd (by rw [ksd]; rfl))
      have g289 : tk_bb f238 bu ba tn := tk_bb_tr g230 (fun i9 => hF.z hbu (by rw [kbu]; rfl)) (fun i9 => hF.z hba (by rw [kba]; rfl))
      have g290 : tk_ij K L f238 nds := tk_ij_tr g231 (fun i9 => hF.r hnds (by rw [knds]; rfl))
      have g291 : tk_vs K L f238 x sv nsv ls9 := tk_vs_tr g232 (hF.z hx (by rw [kx]; rfl)) (hF.z hsv (by rw [ksv]; rfl)) (fun a9 h9 k9 => hF.j h9 (by rw [k9]; rfl)) (fun i9 => hF.r hnsv (by rw [knsv]; rfl))
      have g292 : tk_rs f238 mo sd snm ls9 := tk_rs_tr g234 (hF.z hmo (by rw [kmo]; rfl)) (fun i9 h9 k9 => hF.z hsd (by rw [ksd]; exact q_inWr rfl h9 k9)) (fun i9 => hF.j hsnm (by rw [ksnm]; rfl))
      have g293 : tk_tb f238 ba B tn := tk_tb_tr g236 (fun i9 => hF.z hba (by rw [kba]; rfl))
      have g294 : tk_ub f238 bu B tn := tk_ub_tr g237 (fun i9 => hF.z hbu (by rw [kbu]; rfl))
      have g295 : tk_vk K L f238 hist ka now ndn := tk_vk_tr g188 (hF.z hhist (by rw [khist]; rfl)) (hF.z hhist (by rw [khist]; rfl)) (hF.z hnow (by rw [know]; rfl)) (fun a9 h9 k9 => hF.j h9 (by rw [k9]; rfl)) (fun i9 => hF.r hndn (by rw [kndn]; rfl)) (fun a9 h9 k9 => hF.z h9 (by rw [k9]; rfl)) (fun a9 h9 k9 => hF.j h9 (by rw [k9]; rfl)) (fun i9 => hF.r hka (by rw [kka]; rfl)) (fun a9 h9 k9 => hF.r h9 (by rw [k9]; rfl)) (fun a9 h9 k9 i9 => hF.r h9 (by rw [k9]; rfl))
      have g296 : tk_vn K L 5 f238 now ndn nl9 := tk_vn_tr t187 (hF.z hnow (by rw [know]; rfl)) (fun a9 h9 k9 => hF.j h9 (by rw [k9]; rfl)) (fun i9 => hF.r hndn (by rw [kndn]; rfl))
      obtain ⟨x297, ex297⟩ : ∃ zz, q_is (q_z f238 sr 3) zz := ⟨_, q_isr _⟩
      obtain ⟨lx297, ux297⟩ := q_isb ex297 ⟨lz243, uz243⟩
      obtain ⟨x298, ex298⟩ : ∃ zz, q_is (q_z f238 sr 4) zz := ⟨_, q_isr _⟩
      obtain ⟨lx298, ux298⟩ := q_isb ex298 ⟨lz244, uz244⟩
      obtain ⟨A8, hA8, hz8, hr8, hc8⟩ := t250
      exact tk_no (t186.symm.trans hA8)
    · obtain ⟨qy239, lz299, uz299, lz300, uz300, z301, z302, z303, t304, t305, t306, g307, g308⟩ := h242
      have z309 : q_is (q_z f238 so 1) 0 := Eq.trans (hF.z hso (by rw [kso]; rfl)) z185
      have z310 : q_ir (q_r f238 x 0) so := Eq.trans (hF.r hx (by rw [kx]; rfl)) z193
      have z311 : q_ir (q_r f238 x 1) rd := Eq.trans (hF.r hx (by rw [kx]; rfl)) z194
      have z312 : q_ir (q_r f238 x 2) scr := Eq.trans (hF.r hx (by rw [kx]; rfl)) z195
      have z313 : q_ir (q_r f238 x 3) fc := Eq.trans (hF.r hx (by rw [kx]; rfl)) z196
      have z314 : q_ir (q_r f238 x 4) hist := Eq.trans (hF.r hx (by rw [kx]; rfl)) z197
      have z315 : q_ir (q_r f238 x 5) rep := Eq.trans (hF.r hx (by rw [kx]; rfl)) z198
      have z316 : q_ir (q_r f238 x 6) now := Eq.trans (hF.r hx (by rw [kx]; rfl)) z199
      have z317 : q_ir (q_r f238 x 7) dr := Eq.trans (hF.r hx (by rw [kx]; rfl)) z200
      have z318 : q_ir (q_r f238 x 8) sv := Eq.trans (hF.r hx (by rw [kx]; rfl)) z201
      have z319 : q_ir (q_r f238 fc 0) tr := Eq.trans (hF.r hfc (by rw [kfc]; rfl)) z202
      have z320 : q_ir (q_r f238 so 0) ba := Eq.trans (hF.r hso (by rw [kso]; rfl)) z203
      have z321 : q_ir (q_r f238 dr 0) nds := Eq.trans (hF.r hdr (by rw [kdr]; rfl)) z204
      have z322 : q_ir (q_r f238 hist 0) ka := Eq.trans (hF.r hhist (by rw [khist]; rfl)) z205
      have z323 : q_ir (q_r f238 now 0) ndn := Eq.trans (hF.r hnow (by rw [know]; rfl)) z206
      have z324 : q_ir (q_r f238 sv 0) nsv := Eq.trans (hF.r hsv (by rw [ksv]; rfl)) z207
      have z325 : q_ir (q_r f238 mo 1) bu := Eq.trans (hF.r hmo (by rw [kmo]; rfl)) z208
      have z326 : q_ir (q_r f238 mo 13) sr := Eq.trans (hF.r hmo (by rw [kmo]; rfl)) z209
      have z327 : q_ir (q_r f238 mo 14) sd := Eq.trans (hF.r hmo (by rw [kmo]; rfl)) z210
      have z328 : q_ir (q_r f238 mo 15) as := Eq.trans (hF.r hmo (by rw [kmo]; rfl)) z211
      have z329 : q_ir (q_r f238 mo 16) aw := Eq.trans (hF.r hmo (by rw [kmo]; rfl)) z212
      have z330 : q_ir (q_r f238 mo 17) pa := Eq.trans (hF.r hmo (by rw [kmo]; rfl)) z213
      have z331 : q_ir (q_r f238 mo 18) nm := Eq.trans (hF.r hmo (by rw [kmo]; rfl)) z214
      have z332 : q_ir (q_r f238 mo 19) snm := Eq.trans (hF.r hmo (by rw [kmo]; rfl)) z215
      have z333 : q_ir (q_r f238 mo 20) anm := Eq.trans (hF.r hmo (by rw [kmo]; rfl)) z216
      have z334 : q_ir (q_r f238 mo 24) hp := Eq.trans (hF.r hmo (by rw [kmo]; rfl)) z217
      have z335 : q_ir (q_r f238 mo 25) dy := Eq.trans (hF.r hmo (by rw [kmo]; rfl)) z218
      have z336 : q_ir (q_r f238 mo 29) cs := Eq.trans (hF.r hmo (by rw [kmo]; rfl)) z219
      have z337 : q_ir (q_r f238 mo 30) c1 := Eq.trans (hF.r hmo (by rw [kmo]; rfl)) z220
      have z338 : q_ir (q_r f238 mo 31) c2 := Eq.trans (hF.r hmo (by rw [kmo]; rfl)) z221
      have z339 : q_ir (q_r f238 mo 32) c3 := Eq.trans (hF.r hmo (by rw [kmo]; rfl)) z222
      have z340 : q_ir (q_r f238 mo 33) bg := Eq.trans (hF.r hmo (by rw [kmo]; rfl)) z223
      have z341 : q_ir (q_r f238 mo 34) lp := Eq.trans (hF.r hmo (by rw [kmo]; rfl)) z224
      have z342 : q_ir (q_r f238 mo 38) rp := Eq.trans (hF.r hmo (by rw [kmo]; rfl)) z225
      have g343 : q_z f238 x 9 = q_z f238 mo 22 := tk_s2_tr g227 (hF.z hx (by rw [kx]; rfl)) (hF.z hmo (by rw [kmo]; rfl))
      have g344 : q_sv f238 mo sd := q_sv_tr g229 (hF.z hmo (by rw [kmo]; rfl)) (fun i9 => hF.z hsd (by rw [ksd]; rfl))
      have g345 : tk_bb f238 bu ba tn := tk_bb_tr g230 (fun i9 => hF.z hbu (by rw [kbu]; rfl)) (fun i9 => hF.z hba (by rw [kba]; rfl))
      have g346 : tk_ij K L f238 nds := tk_ij_tr g231 (fun i9 => hF.r hnds (by rw [knds]; rfl))
      have g347 : tk_vs K L f238 x sv nsv ls9 := tk_vs_tr g232 (hF.z hx (by rw [kx]; rfl)) (hF.z hsv (by rw [ksv]; rfl)) (fun a9 h9 k9 => hF.j h9 (by rw [k9]; rfl)) (fun i9 => hF.r hnsv (by rw [knsv]; rfl))
      have g348 : tk_rs f238 mo sd snm ls9 := tk_rs_tr g234 (hF.z hmo (by rw [kmo]; rfl)) (fun i9 h9 k9 => hF.z hsd (by rw [ksd]; exact q_inWr rfl h9 k9)) (fun i9 => hF.j hsnm (by rw [ksnm]; rfl))
      have g349 : tk_tb f238 ba B tn := tk_tb_tr g236 (fun i9 => hF.z hba (by rw [kba]; rfl))
      have g350 : tk_ub f238 bu B tn := tk_ub_tr g237 (fun i9 => hF.z hbu (by rw [kbu]; rfl))
      have g351 : tk_vk K L f238 hist ka now ndn := tk_vk_tr g188 (hF.z hhist (by rw [khist]; rfl)) (hF.z hhist (by rw [khist]; rfl)) (hF.z hnow (by rw [know]; rfl)) (fun a9 h9 k9 => hF.j h9 (by rw [k9]; rfl)) (fun i9 => hF.r hndn (by rw [kndn]; rfl)) (fun a9 h9 k9 => hF.z h9 (by rw [k9]; rfl)) (fun a9 h9 k9 => hF.j h9 (by rw [k9]; rfl)) (fun i9 => hF.r hka (by rw [kka]; rfl)) (fun a9 h9 k9 => hF.r h9 (by rw [k9]; rfl)) (fun a9 h9 k9 i9 => hF.r h9 (by rw [k9]; rfl))
      have g352 : tk_vn K L 5 f238 now ndn nl9 := tk_vn_tr t187 (hF.z hnow (by rw [know]; rfl)) (fun a9 h9 k9 => hF.j h9 (by rw [k9]; rfl)) (fun i9 => hF.r hndn (by rw [kndn]; rfl))
      obtain ⟨x353, ex353⟩ : ∃ zz, q_is (q_z f238 sr 3) zz := ⟨_, q_isr _⟩
      obtain ⟨lx353, ux353⟩ := q_isb ex353 ⟨lz299, uz299⟩
      obtain ⟨x354, ex354⟩ : ∃ zz, q_is (q_z f238 sr 4) zz := ⟨_, q_isr _⟩
      obtain ⟨lx354, ux354⟩ := q_isb ex354 ⟨lz300, uz300⟩
      subst qy239
      refine lv_istore (lv' := [(7, .int (q_i 0)), (6, .int (q_i 1)), (5, .int (q_i ii)), (4, .ref outD), (3, .ref out), (2, .ref mo), (1, .ref x), (0, .ref b)]) cx.1 cx.2.1 dL_law_335 hl (by decide) rfl (fun ls hl => ?_)
      refine lv_goto (tgt := 1521) cx.1 cx.2.1 dL_law_337 (by decide) ?_
      refine W.widen (k := cells + 6) (n := slots + 36) (by omega) (by omega) ?_
      exact kk f238 H locs ls 0 nl9 ls9 xc hB ⟨⟨z309, (Eq.trans z301 (by omega)), by omega, by omega⟩, g307, g308, g344, q_isu ex353 (by omega), q_isu ex354 (by omega), tk_bb_le g345 (by omega), z303, by omega, g352, g351, g347, t305, g348, t306, g343⟩ (lv_sub hl [2, 3, 4, 5, 6, 7] rfl)
set_option maxHeartbeats 4000000 in
set_option maxRecDepth 100000 in
theorem law_c340 {p : Program} {l : Launch} {e : Env} {s : State} {m : MethodId} {below : List Frame} {meth : Method} {c : Code} {b N9 : Nat} {xs : Nat → Int32} (hfl : l.stackTraces = false) (hN9 : N9 ≤ 3072) (C0 : lw_At p s m meth c b N9 xs) (cx : CallFix p m c cL_law 10 s #[Value.ref b] q_al RL) {g : q_G} {ad : Nat → Nat} {K : Nat → Nat} {L : List Nat} (hN : L.Nodup) (hLA : ∀ q, q ∈ L → s.heap.size ≤ q) (hX : q_X ad (fun q => q ∈ L) s) {f0 : Nat → va_E} {x : Nat} (hx : x ∈ L) (kx : K x = 11) {so : Nat} (hso : so ∈ L) (kso : K so = 8) {rd : Nat} (hrd : rd ∈ L) (krd : K rd = 9) {scr : Nat} (hscr : scr ∈ L) (kscr : K scr = 7) {fc : Nat} (hfc : fc ∈ L) (kfc : K fc = 1) {hist : Nat} (hhist : hist ∈ L) (khist : K hist = 2) {rep : Nat} (hrep : rep ∈ L) (krep : K rep = 6) {now : Nat} (hnow : now ∈ L) (know : K now = 10) {dr : Nat} (hdr : dr ∈ L) (kdr : K dr = 13) {sv : Nat} (hsv : sv ∈ L) (ksv : K sv = 14) {tr : Nat} (htr : tr ∈ L) (ktr : K tr = 15) {ba : Nat} (hba : ba ∈ L) (kba : K ba = 142) {nds : Nat} (hnds : nds ∈ L) (knds : K nds = 111) {ka : Nat} (hka : ka ∈ L) (kka : K ka = 140) {ndn : Nat} (hndn : ndn ∈ L) (kndn : K ndn = 110) {nsv : Nat} (hnsv : nsv ∈ L) (knsv : K nsv = 112) {mo : Nat} (hmo : mo ∈ L) (kmo : K mo = 12) {bu : Nat} (hbu : bu ∈ L) (kbu : K bu = 150) {sr : Nat} (hsr : sr ∈ L) (ksr : K sr = 151) {sd : Nat} (hsd : sd ∈ L) (ksd : K sd = 152) {as : Nat} (has : as ∈ L) (kas : K as = 153) {aw : Nat} (haw : aw ∈ L) (kaw : K aw = 154) {pa : Nat} (hpa : pa ∈ L) (kpa : K pa = 155) {nm : Nat} (hnm : nm ∈ L) (knm : K nm = 156) {snm : Nat} (hsnm : snm ∈ L) (ksnm : K snm = 157) {anm : Nat} (hanm : anm ∈ L) (kanm : K anm = 158) {hp : Nat} (hhp : hp ∈ L) (khp : K hp = 159) {dy : Nat} (hdy : dy ∈ L) (kdy : K dy = 160) {cs : Nat} (hcs : cs ∈ L) (kcs : K cs = 161) {c1 : Nat} (hc1 : c1 ∈ L) (kc1 : K c1 = 162) {c2 : Nat} (hc2 : c2 ∈ L) (kc2 : K c2 = 163) {c3 : Nat} (hc3 : c3 ∈ L) (kc3 : K c3 = 164) {bg : Nat} (hbg : bg ∈ L) (kbg : K bg = 165) {lp : Nat} (hlp : lp ∈ L) (klp : K lp = 166) {rp : Nat} (hrp : rp ∈ L) (krp : K rp = 167) {out : Nat} (hout : out ∈ L) (kout : K out = 168) {outD : Nat} (houtD : outD ∈ L) (koutD : K outD = 169) (hr0 : q_ir (q_r f0 x 0) so) (hr1 : q_ir (q_r f0 x 1) rd) (hr2 : q_ir (q_r f0 x 2) scr) (hr3 : q_ir (q_r f0 x 3) fc) (hr4 : q_ir (q_r f0 x 4) hist) (hr5 : q_ir (q_r f0 x 5) rep) (hr6 : q_ir (q_r f0 x 6) now) (hr7 : q_ir (q_r f0 x 7) dr) (hr8 : q_ir (q_r f0 x 8) sv) (hr9 : q_ir (q_r f0 fc 0) tr) (hr10 : q_ir (q_r f0 so 0) ba) (hr11 : q_ir (q_r f0 dr 0) nds) (hr12 : q_ir (q_r f0 hist 0) ka) (hr13 : q_ir (q_r f0 now 0) ndn) (hr14 : q_ir (q_r f0 sv 0) nsv) (hr15 : q_ir (q_r f0 mo 1) bu) (hr16 : q_ir (q_r f0 mo 13) sr) (hr17 : q_ir (q_r f0 mo 14) sd) (hr18 : q_ir (q_r f0 mo 15) as) (hr19 : q_ir (q_r f0 mo 16) aw) (hr20 : q_ir (q_r f0 mo 17) pa) (hr21 : q_ir (q_r f0 mo 18) nm) (hr22 : q_ir (q_r f0 mo 19) snm) (hr23 : q_ir (q_r f0 mo 20) anm) (hr24 : q_ir (q_r f0 mo 24) hp) (hr25 : q_ir (q_r f0 mo 25) dy) (hr26 : q_ir (q_r f0 mo 29) cs) (hr27 : q_ir (q_r f0 mo 30) c1) (hr28 : q_ir (q_r f0 mo 31) c2) (hr29 : q_ir (q_r f0 mo 32) c3) (hr30 : q_ir (q_r f0 mo 33) bg) (hr31 : q_ir (q_r f0 mo 34) lp) (hr32 : q_ir (q_r f0 mo 38) rp) (hij : tk_ij K L f0 nds) {f : Nat → va_E} {H : Heap} {locs : List Loc} {ls : Array Slot} {cells slots : Nat} {ii tn : Int} {nl9 ls9 : List (List Int)} {xc : Int} (hB : q_B g K L (fun q => s.heap.size ≤ q) [(0, 0, 6), (2, 1, 2), (3, 0, 4), (4, 0, 7), (5, 0, 9), (6, 1, 1), (7, 1, 4), (8, 1, 9), (9, 0, 2), (10, 3, 15), (11, 9, 9), (12, 0, 0), (12, 2, 12), (12, 21, 23), (12, 26, 28), (12, 35, 37), (12, 39, 40), (13, 3, 15), (14, 3, 15), (15, 3, 15), (16, 3, 15), (17, 0, 9), (18, 0, 9), (19, 0, 9), (20, 0, 9), (21, 0, 4), (22, 0, 4), (23, 0, 4), (24, 0, 4), (25, 0, 7), (26, 0, 7), (27, 0, 7), (28, 0, 7), (142, 0, 599), (143, 0, 599), (150, 0, 599), (151, 0, 657), (152, 0, 657), (153, 0, 657), (154, 0, 657), (155, 0, 3947), (156, 0, 9), (157, 0, 9), (158, 0, 9), (159, 0, 9), (160, 0, 9), (161, 0, 59), (162, 0, 58), (163, 0, 58), (164, 0, 58), (165, 0, 1), (166, 0, 1), (167, 0, 479), (168, 0, 0), (169, 0, 0)] f0 f s H locs) (hI : q_Iv5 K L f x so mo sr pa sd bu ba now ndn hist ka sv nsv nm snm tn nl9 ls9 xc) (hl : lv_has ls 10 [(5, .int (q_i ii)), (4, .ref outD), (3, .ref out), (2, .ref mo), (1, .ref x), (0, .ref b)]) (hi0 : 0 ≤ ii) (hi6 : ii + 6 ≤ N9) (hce : cells + 6 ≤ 10000) (hse : slots + 36 ≤ 100000) (kk : ∀ (f1 : Nat → va_E) (H1 : Heap) (locs1 : List Loc) (ls1 : Array Slot) (tn1 : Int) (nl1 ls1_ : List (List Int)) (xc1 : Int), q_B g K L (fun q => s.heap.size ≤ q) [(0, 0, 6), (2, 1, 2), (3, 0, 4), (4, 0, 7), (5, 0, 9), (6, 1, 1), (7, 1, 4), (8, 1, 9), (9, 0, 2), (10, 3, 15), (11, 9, 9), (12, 0, 0), (12, 2, 12), (12, 21, 23), (12, 26, 28), (12, 35, 37), (12, 39, 40), (13, 3, 15), (14, 3, 15), (15, 3, 15), (16, 3, 15), (17, 0, 9), (18, 0, 9), (19, 0, 9), (20, 0, 9), (21, 0, 4), (22, 0, 4), (23, 0, 4), (24, 0, 4), (25, 0, 7), (26, 0, 7), (27, 0, 7), (28, 0, 7), (142, 0, 599), (143, 0, 599), (150, 0, 599), (151, 0, 657), (152, 0, 657), (153, 0, 657), (154, 0, 657), (155, 0, 3947), (156, 0, 9), (157, 0, 9), (158, 0, 9), (159, 0, 9), (160, 0, 9), (161, 0, 59), (162, 0, 58), (163, 0, 58), (164, 0, 58), (165, 0, 1), (166, 0, 1), (167, 0, 479), (168, 0, 0), (169, 0, 0)] f0 f1 s H1 locs1 → q_Iv5 K L f1 x so mo sr pa sd bu ba now ndn hist ka sv nsv nm snm tn1 nl1 ls1_ xc1 → lv_has ls1 10 [(5, .int (q_i ii)), (4, .ref outD), (3, .ref out), (2, .ref mo), (1, .ref x), (0, .ref b)] → W p l e room_1 s m #[Value.ref b] below meth c H1 locs1 (cells + 6) (slots + 36) (lw_Z below #[Value.ref b] s) (F0 m 1521 ls1 [])) : W p l e room_1 s m #[Value.ref b] below meth c H locs (cells) (slots) (lw_Z below #[Value.ref b] s) (F0 m 340 ls []) := by
  have hXs := C0.2.2.2.2.2.2.1
  have hbl := C0.2.2.2.2.2.2.2.1
  have hbA := q_bA hbl
  obtain ⟨⟨hn0, hn1, ltn, utn⟩, hgr, hpk, hsd9, ht3, ht4, hbb, hsr0, hxc, hvn, hvk, hvs, hrn9, hrs9, hpc, hs22⟩ := hI
  have lxc : 0 ≤ xc := by omega
  have uxc : xc ≤ 10 := by have h7 := hvn.2.1.2; omega
  have hr0 : q_ir (q_r f x 0) so := Eq.trans (hB.2.2.r hx (by rw [kx]; rfl)) hr0
  have hr1 : q_ir (q_r f x 1) rd := Eq.trans (hB.2.2.r hx (by rw [kx]; rfl)) hr1
  have hr2 : q_ir (q_r f x 2) scr := Eq.trans (hB.2.2.r hx (by rw [kx]; rfl)) hr2
  have hr3 : q_ir (q_r f x 3) fc := Eq.trans (hB.2.2.r hx (by rw [kx]; rfl)) hr3
  have hr4 : q_ir (q_r f x 4) hist := Eq.trans (hB.2.2.r hx (by rw [kx]; rfl)) hr4
  have hr5 : q_ir (q_r f x 5) rep := Eq.trans (hB.2.2.r hx (by rw [kx]; rfl)) hr5
  have hr6 : q_ir (q_r f x 6) now := Eq.trans (hB.2.2.r hx (by rw [kx]; rfl)) hr6
  have hr7 : q_ir (q_r f x 7) dr := Eq.trans (hB.2.2.r hx (by rw [kx]; rfl)) hr7
  have hr8 : q_ir (q_r f x 8) sv := Eq.trans (hB.2.2.r hx (by rw [kx]; rfl)) hr8
  have hr9 : q_ir (q_r f fc 0) tr := Eq.trans (hB.2.2.r hfc (by rw [kfc]; rfl)) hr9
  have hr10 : q_ir (q_r f so 0) ba := Eq.trans (hB.2.2.r hso (by rw [kso]; rfl)) hr10
  have hr11 : q_ir (q_r f dr 0) nds := Eq.trans (hB.2.2.r hdr (by rw [kdr]; rfl)) hr11
  have hr12 : q_ir (q_r f hist 0) ka := Eq.trans (hB.2.2.r hhist (by rw [khist]; rfl)) hr12
  have hr13 : q_ir (q_r f now 0) ndn := Eq.trans (hB.2.2.r hnow (by rw [know]; rfl)) hr13
  have hr14 : q_ir (q_r f sv 0) nsv := Eq.trans (hB.2.2.r hsv (by rw [ksv]; rfl)) hr14
  have hr15 : q_ir (q_r f mo 1) bu := Eq.trans (hB.2.2.r hmo (by rw [kmo]; rfl)) hr15
  have hr16 : q_ir (q_r f mo 13) sr := Eq.trans (hB.2.2.r hmo (by rw [kmo]; rfl)) hr16
  have hr17 : q_ir (q_r f mo 14) sd := Eq.trans (hB.2.2.r hmo (by rw [kmo]; rfl)) hr17
  have hr18 : q_ir (q_r f mo 15) as := Eq.trans (hB.2.2.r hmo (by rw [kmo]; rfl)) hr18
  have hr19 : q_ir (q_r f mo 16) aw := Eq.trans (hB.2.2.r hmo (by rw [kmo]; rfl)) hr19
  have hr20 : q_ir (q_r f mo 17) pa := Eq.trans (hB.2.2.r hmo (by rw [kmo]; rfl)) hr20
  have hr21 : q_ir (q_r f mo 18) nm := Eq.trans (hB.2.2.r hmo (by rw [kmo]; rfl)) hr21
  have hr22 : q_ir (q_r f mo 19) snm := Eq.trans (hB.2.2.r hmo (by rw [kmo]; rfl)) hr22
  have hr23 : q_ir (q_r f mo 20) anm := Eq.trans (hB.2.2.r hmo (by rw [kmo]; rfl)) hr23
  have hr24 : q_ir (q_r f mo 24) hp := Eq.trans (hB.2.2.r hmo (by rw [kmo]; rfl)) hr24
  have hr25 : q_ir (q_r f mo 25) dy := Eq.trans (hB.2.2.r hmo (by rw [kmo]; rfl)) hr25
  have hr26 : q_ir (q_r f mo 29) cs := Eq.trans (hB.2.2.r hmo (by rw [kmo]; rfl)) hr26
  have hr27 : q_ir (q_r f mo 30) c1 := Eq.trans (hB.2.2.r hmo (by rw [kmo]; rfl)) hr27
  have hr28 : q_ir (q_r f mo 31) c2 := Eq.trans (hB.2.2.r hmo (by rw [kmo]; rfl)) hr28
  have hr29 : q_ir (q_r f mo 32) c3 := Eq.trans (hB.2.2.r hmo (by rw [kmo]; rfl)) hr29
  have hr30 : q_ir (q_r f mo 33) bg := Eq.trans (hB.2.2.r hmo (by rw [kmo]; rfl)) hr30
  have hr31 : q_ir (q_r f mo 34) lp := Eq.trans (hB.2.2.r hmo (by rw [kmo]; rfl)) hr31
  have hr32 : q_ir (q_r f mo 38) rp := Eq.trans (hB.2.2.r hmo (by rw [kmo]; rfl)) hr32
  have hij : tk_ij K L f nds := tk_ij_tr hij (fun i9 => hB.2.2.r hnds (by rw [knds]; rfl))
  obtain ⟨x1, ex1⟩ : ∃ zz, q_is (q_z f sr 3) zz := ⟨_, q_isr _⟩
  obtain ⟨lx1, ux1⟩ : 0 ≤ x1 ∧ x1 ≤ 9999 := q_isb ex1 ⟨(hgr 3 (by decide)).1, ht3⟩
  obtain ⟨x2, ex2⟩ : ∃ zz, q_is (q_z f sr 4) zz := ⟨_, q_isr _⟩
  obtain ⟨lx2, ux2⟩ : 0 ≤ x2 ∧ x2 ≤ 60 := q_isb ex2 ⟨(hgr 4 (by decide)).1, ht4⟩
  refine q_ald_n cx dL_law_340 rfl (lv_at hl 4 rfl) ?_
  refine q_ald_n cx dL_law_341 rfl (lv_at hl 2 rfl) ?_
  refine q_cWS (As := [.ref x, .ref out]) (rest := []) cx hX hB (fun q h => hLA q h) (fun q h1 h2 => absurd h1 (Nat.not_le_of_lt h2)) hN (f_wrunScript l g ad hN hB.2.1 hfl nl9 x hx kx out hout kout so hso kso rd hrd krd scr hscr kscr fc hfc kfc hist hhist khist rep hrep krep now hnow know dr hdr kdr sv hsv ksv tr htr ktr ba hba kba nds hnds knds ka hka kka ndn hndn kndn nsv hnsv knsv hr0 hr1 hr2 hr3 hr4 hr5 hr6 hr7 hr8 hr9 hr10 hr11 hr12 hr13 hr14 hvn hvk) q_cL_132 q_dL_runScript ⟨by decide, by show cells + 1 ≤ 601024; omega, by show slots + 6 ≤ 7293034; omega⟩ rfl rfl hl.1 rfl (Nat.le_of_ble_eq_true rfl) dL_law_342 (fun v9 H locs f3 h5 hF hB => ?_)
  obtain ⟨y4, rfl, ry4, h5⟩ := h5
  refine W.eq (g2 := F0 m 345 ls [.int (q_i y4)]) rfl ?_
  obtain ⟨ly4, uy4, z6, g7⟩ := h5
  have z8 : q_is (q_z f3 mo 2) tn := Eq.trans (hF.z hmo (by rw [kmo]; rfl)) hn1
  have z9 : q_is (q_z f3 sr 0) xc := Eq.trans (hF.z hsr (by rw [ksr]; rfl)) hsr0
  have z10 : q_is (q_z f3 sr 3) x1 := Eq.trans (hF.z hsr (by rw [ksr]; rfl)) ex1
  have z11 : q_is (q_z f3 sr 4) x2 := Eq.trans (hF.z hsr (by rw [ksr]; rfl)) ex2
  have z12 : q_ir (q_r f3 x 0) so := Eq.trans (hF.r hx (by rw [kx]; rfl)) hr0
  have z13 : q_ir (q_r f3 x 1) rd := Eq.trans (hF.r hx (by rw [kx]; rfl)) hr1
  have z14 : q_ir (q_r f3 x 2) scr := Eq.trans (hF.r hx (by rw [kx]; rfl)) hr2
  have z15 : q_ir (q_r f3 x 3) fc := Eq.trans (hF.r hx (by rw [kx]; rfl)) hr3
  have z16 : q_ir (q_r f3 x 4) hist := Eq.trans (hF.r hx (by rw [kx]; rfl)) hr4
  have z17 : q_ir (q_r f3 x 5) rep := Eq.trans (hF.r hx (by rw [kx]; rfl)) hr5
  have z18 : q_ir (q_r f3 x 6) now := Eq.trans (hF.r hx (by rw [kx]; rfl)) hr6
  have z19 : q_ir (q_r f3 x 7) dr := Eq.trans (hF.r hx (by rw [kx]; rfl)) hr7
  have z20 : q_ir (q_r f3 x 8) sv := Eq.trans (hF.r hx (by rw [kx]; rfl)) hr8
  have z21 : q_ir (q_r f3 fc 0) tr := Eq.trans (hF.r hfc (by rw [kfc]; rfl)) hr9
  have z22 : q_ir (q_r f3 so 0) ba := Eq.trans (hF.r hso (by rw [kso]; rfl)) hr10
  have z23 : q_ir (q_r f3 dr 0) nds := Eq.trans (hF.r hdr (by rw [kdr]; rfl)) hr11
  have z24 : q_ir (q_r f3 hist 0) ka := Eq.trans (hF.r hhist (by rw [khist]; rfl)) hr12
  have z25 : q_ir (q_r f3 now 0) ndn := Eq.trans (hF.r hnow (by rw [know]; rfl)) hr13
  have z26 : q_ir (q_r f3 sv 0) nsv := Eq.trans (hF.r hsv (by rw [ksv]; rfl)) hr14
  have z27 : q_ir (q_r f3 mo 1) bu := Eq.trans (hF.r hmo (by rw [kmo]; rfl)) hr15
  have z28 : q_ir (q_r f3 mo 13) sr := Eq.trans (hF.r hmo (by rw [kmo]; rfl)) hr16
  have z29 : q_ir (q_r f3 mo 14) sd := Eq.trans (hF.r hmo (by rw [kmo]; rfl)) hr17
  have z30 : q_ir (q_r f3 mo 15) as := Eq.trans (hF.r hmo (by rw [kmo]; rfl)) hr18
  have z31 : q_ir (q_r f3 mo 16) aw := Eq.trans (hF.r hmo (by rw [kmo]; rfl)) hr19
  have z32 : q_ir (q_r f3 mo 17) pa := Eq.trans (hF.r hmo (by rw [kmo]; rfl)) hr20
  have z33 : q_ir (q_r f3 mo 18) nm := Eq.trans (hF.r hmo (by rw [kmo]; rfl)) hr21
  have z34 : q_ir (q_r f3 mo 19) snm := Eq.trans (hF.r hmo (by rw [kmo]; rfl)) hr22
  have z35 : q_ir (q_r f3 mo 20) anm := Eq.trans (hF.r hmo (by rw [kmo]; rfl)) hr23
  have z36 : q_ir (q_r f3 mo 24) hp := Eq.trans (hF.r hmo (by rw [kmo]; rfl)) hr24
  have z37 : q_ir (q_r f3 mo 25) dy := Eq.trans (hF.r hmo (by rw [kmo]; rfl)) hr25
  have z38 : q_ir (q_r f3 mo 29) cs := Eq.trans (hF.r hmo (by rw [kmo]; rfl)) hr26
  have z39 : q_ir (q_r f3 mo 30) c1 := Eq.trans (hF.r hmo (by rw [kmo]; rfl)) hr27
  have z40 : q_ir (q_r f3 mo 31) c2 := Eq.trans (hF.r hmo (by rw [kmo]; rfl)) hr28
  have z41 : q_ir (q_r f3 mo 32) c3 := Eq.trans (hF.r hmo (by rw [kmo]; rfl)) hr29
  have z42 : q_ir (q_r f3 mo 33) bg := Eq.trans (hF.r hmo (by rw [kmo]; rfl)) hr30
  have z43 : q_ir (q_r f3 mo 34) lp := Eq.trans (hF.r hmo (by rw [kmo]; rfl)) hr31
  have z44 : q_ir (q_r f3 mo 38) rp := Eq.trans (hF.r hmo (by rw [kmo]; rfl)) hr32
  have g45 : q_gr f3 sr := q_gr_fr hgr (fun i9 _ => hF.z hsr (by rw [ksr]; rfl))
  have g46 : q_z f3 x 9 = q_z f3 mo 22 := tk_s2_tr hs22 (hF.z hx (by rw [kx]; rfl)) (hF.z hmo (by rw [kmo]; rfl))
  have g47 : q_pk f3 mo pa := q_pk_tr hpk (hF.z hmo (by rw [kmo]; rfl)) (fun i9 => hF.z hpa (by rw [kpa]; rfl))
  have g48 : q_sv f3 mo sd := q_sv_tr hsd9 (hF.z hmo (by rw [kmo]; rfl)) (fun i9 => hF.z hsd (by rw [ksd]; rfl))
  have g49 : tk_bb f3 bu ba tn := tk_bb_tr hbb (fun i9 => hF.z hbu (by rw [kbu]; rfl)) (fun i9 => hF.z hba (by rw [kba]; rfl))
  have g50 : tk_ij K L f3 nds := tk_ij_tr hij (fun i9 => hF.r hnds (by rw [knds]; rfl))
  have g51 : tk_vn K L 5 f3 now ndn nl9 := tk_vn_tr hvn (hF.z hnow (by rw [know]; rfl)) (fun a9 h9 k9 => hF.j h9 (by rw [k9]; rfl)) (fun i9 => hF.r hndn (by rw [kndn]; rfl))
  have g52 : tk_vs K L f3 x sv nsv ls9 := tk_vs_tr hvs (hF.z hx (by rw [kx]; rfl)) (hF.z hsv (by rw [ksv]; rfl)) (fun a9 h9 k9 => hF.j h9 (by rw [k9]; rfl)) (fun i9 => hF.r hnsv (by rw [knsv]; rfl))
  have g53 : tk_nq f3 nm nl9 := tk_nq_tr hrn9 (fun i9 => hF.j hnm (by rw [knm]; rfl))
  have g54 : tk_rs f3 mo sd snm ls9 := tk_rs_tr hrs9 (hF.z hmo (by rw [kmo]; rfl)) (fun i9 h9 k9 => hF.z hsd (by rw [ksd]; exact q_inWr rfl h9 k9)) (fun i9 => hF.j hsnm (by rw [ksnm]; rfl))
  have g55 : q_pc f3 mo pa xc := q_pc_tr hpc (hF.z hmo (by rw [kmo]; rfl)) (fun i9 => hF.z hpa (by rw [kpa]; rfl))
  refine lv_istore (lv' := [(6, .int (q_i y4)), (5, .int (q_i ii)), (4, .ref outD), (3, .ref out), (2, .ref mo), (1, .ref x), (0, .ref b)]) cx.1 cx.2.1 dL_law_345 hl (by decide) rfl (fun ls hl => ?_)
  refine q_ald_n cx dL_law_347 rfl (lv_at hl 4 rfl) ?_
  refine q_cVi (As := []) (rest := []) cx hB (fun q h => hLA q h) hN hmo kmo (by decide) rfl (r_runScript l g hN hB.2.1 mo hmo kmo sr hsr ksr nm hnm knm bu hbu kbu cs hcs kcs c1 hc1 kc1 c2 hc2 kc2 c3 hc3 kc3 bg hbg kbg lp hlp klp hp hhp khp dy hdy kdy as has kas pa hpa kpa x1 (by omega) (by omega) x2 (by omega) (by omega) xc (by omega) (by omega) z10 z11 z9 z28 z33 z27 z38 z39 z40 z41 z42 z43 z36 z37 z30 z32 g45 g47 g55) q_cL_134 q_dX12_runScript ⟨by decide, by show cells + 1 ≤ 601024; omega, by show slots + 6 ≤ 7293034; omega⟩ rfl rfl hl.1 rfl (Nat.le_of_ble_eq_true rfl) dL_law_348 (fun y57 H locs f56 ry57 h58 hF hB => ?_)
  obtain ⟨ly57, uy57, lz59, uz59, lz60, uz60, z61, z62, g63, g64, g65⟩ := h58
  have z66 : q_is (q_z f56 sr 0) xc := Eq.trans (hF.z hsr (by rw [ksr]; rfl)) z9
  have z67 : q_is (q_z f56 so 1) 0 := Eq.trans (hF.z hso (by rw [kso]; rfl)) z6
  have z68 : q_ir (q_r f56 x 0) so := Eq.trans (hF.r hx (by rw [kx]; rfl)) z12
  have z69 : q_ir (q_r f56 x 1) rd := Eq.trans (hF.r hx (by rw [kx]; rfl)) z13
  have z70 : q_ir (q_r f56 x 2) scr := Eq.trans (hF.r hx (by rw [kx]; rfl)) z14
  have z71 : q_ir (q_r f56 x 3) fc := Eq.trans (hF.r hx (by rw [kx]; rfl)) z15
  have z72 : q_ir (q_r f56 x 4) hist := Eq.trans (hF.r hx (by rw [kx]; rfl)) z16
  have z73 : q_ir (q_r f56 x 5) rep := Eq.trans (hF.r hx (by rw [kx]; rfl)) z17
  have z74 : q_ir (q_r f56 x 6) now := Eq.trans (hF.r hx (by rw [kx]; rfl)) z18
  have z75 : q_ir (q_r f56 x 7) dr := Eq.trans (hF.r hx (by rw [kx]; rfl)) z19
  have z76 : q_ir (q_r f56 x 8) sv := Eq.trans (hF.r hx (by rw [kx]; rfl)) z20
  have z77 : q_ir (q_r f56 fc 0) tr := Eq.trans (hF.r hfc (by rw [kfc]; rfl)) z21
  have z78 : q_ir (q_r f56 so 0) ba := Eq.trans (hF.r hso (by rw [kso]; rfl)) z22
  have z79 : q_ir (q_r f56 dr 0) nds := Eq.trans (hF.r hdr (by rw [kdr]; rfl)) z23
  have z80 : q_ir (q_r f56 hist 0) ka := Eq.trans (hF.r hhist (by rw [khist]; rfl)) z24
  have z81 : q_ir (q_r f56 now 0) ndn := Eq.trans (hF.r hnow (by rw [know]; rfl)) z25
  have z82 : q_ir (q_r f56 sv 0) nsv := Eq.trans (hF.r hsv (by rw [ksv]; rfl)) z26
  have z83 : q_ir (q_r f56 mo 1) bu := Eq.trans (hF.r hmo (by rw [kmo]; rfl)) z27
  have z84 : q_ir (q_r f56 mo 13) sr := Eq.trans (hF.r hmo (by rw [kmo]; rfl)) z28
  have z85 : q_ir (q_r f56 mo 14) sd := Eq.trans (hF.r hmo (by rw [kmo]; rfl)) z29
  have z86 : q_ir (q_r f56 mo 15) as := Eq.trans (hF.r hmo (by rw [kmo]; rfl)) z30
  have z87 : q_ir (q_r f56 mo 16) aw := Eq.trans (hF.r hmo (by rw [kmo]; rfl)) z31
  have z88 : q_ir (q_r f56 mo 17) pa := Eq.trans (hF.r hmo (by rw [kmo]; rfl)) z32
  have z89 : q_ir (q_r f56 mo 18) nm := Eq.trans (hF.r hmo (by rw [kmo]; rfl)) z33
  have z90 : q_ir (q_r f56 mo 19) snm := Eq.trans (hF.r hmo (by rw [kmo]; rfl)) z34
  have z91 : q_ir (q_r f56 mo 20) anm := Eq.trans (hF.r hmo (by rw [kmo]; rfl)) z35
  have z92 : q_ir (q_r f56 mo 24) hp := Eq.trans (hF.r hmo (by rw [kmo]; rfl)) z36
  have z93 : q_ir (q_r f56 mo 25) dy := Eq.trans (hF.r hmo (by rw [kmo]; rfl)) z37
  have z94 : q_ir (q_r f56 mo 29) cs := Eq.trans (hF.r hmo (by rw [kmo]; rfl)) z38
  have z95 : q_ir (q_r f56 mo 30) c1 := Eq.trans (hF.r hmo (by rw [kmo]; rfl)) z39
  have z96 : q_ir (q_r f56 mo 31) c2 := Eq.trans (hF.r hmo (by rw [kmo]; rfl)) z40
  have z97 : q_ir (q_r f56 mo 32) c3 := Eq.trans (hF.r hmo (by rw [kmo]; rfl)) z41
  have z98 : q_ir (q_r f56 mo 33) bg := Eq.trans (hF.r hmo (by rw [kmo]; rfl)) z42
  have z99 : q_ir (q_r f56 mo 34) lp := Eq.trans (hF.r hmo (by rw [kmo]; rfl)) z43
  have z100 : q_ir (q_r f56 mo 38) rp := Eq.trans (hF.r hmo (by rw [kmo]; rfl)) z44
  have g101 : q_z f56 x 9 = q_z f56 mo 22 := tk_s2_tr g46 (hF.z hx (by rw [kx]; rfl)) (hF.z hmo (by rw [kmo]; rfl))
  have g102 : q_sv f56 mo sd := q_sv_tr g48 (hF.z hmo (by rw [kmo]; rfl)) (fun i9 => hF.z hsd (by rw [ksd]; rfl))
  have g103 : tk_bb f56 bu ba tn := tk_bb_tr g49 (fun i9 => hF.z hbu (by rw [kbu]; rfl)) (fun i9 => hF.z hba (by rw [kba]; rfl))
  have g104 : tk_ij K L f56 nds := tk_ij_tr g50 (fun i9 => hF.r hnds (by rw [knds]; rfl))
  have g105 : tk_vn K L 5 f56 now ndn nl9 := tk_vn_tr g51 (hF.z hnow (by rw [know]; rfl)) (fun a9 h9 k9 => hF.j h9 (by rw [k9]; rfl)) (fun i9 => hF.r hndn (by rw [kndn]; rfl))
  have g106 : tk_vs K L f56 x sv nsv ls9 := tk_vs_tr g52 (hF.z hx (by rw [kx]; rfl)) (hF.z hsv (by rw [ksv]; rfl)) (fun a9 h9 k9 => hF.j h9 (by rw [k9]; rfl)) (fun i9 => hF.r hnsv (by rw [knsv]; rfl))
  have g107 : tk_nq f56 nm nl9 := tk_nq_tr g53 (fun i9 => hF.j hnm (by rw [knm]; rfl))
  have g108 : tk_rs f56 mo sd snm ls9 := tk_rs_tr g54 (hF.z hmo (by rw [kmo]; rfl)) (fun i9 h9 k9 => hF.z hsd (by rw [ksd]; exact q_inWr rfl h9 k9)) (fun i9 => hF.j hsnm (by rw [ksnm]; rfl))
  have g109 : tk_vk K L f56 hist ka now ndn := tk_vk_tr g7 (hF.z hhist (by rw [khist]; rfl)) (hF.z hhist (by rw [khist]; rfl)) (hF.z hnow (by rw [know]; rfl)) (fun a9 h9 k9 => hF.j h9 (by rw [k9]; rfl)) (fun i9 => hF.r hndn (by rw [kndn]; rfl)) (fun a9 h9 k9 => hF.z h9 (by rw [k9]; rfl)) (fun a9 h9 k9 => hF.j h9 (by rw [k9]; rfl)) (fun i9 => hF.r hka (by rw [kka]; rfl)) (fun a9 h9 k9 => hF.r h9 (by rw [k9]; rfl)) (fun a9 h9 k9 i9 => hF.r h9 (by rw [k9]; rfl))
  obtain ⟨x110, ex110⟩ : ∃ zz, q_is (q_z f56 sr 3) zz := ⟨_, q_isr _⟩
  obtain ⟨lx110, ux110⟩ := q_isb ex110 ⟨lz59, uz59⟩
  obtain ⟨x111, ex111⟩ : ∃ zz, q_is (q_z f56 sr 4) zz := ⟨_, q_isr _⟩
  obtain ⟨lx111, ux111⟩ := q_isb ex111 ⟨lz60, uz60⟩
  refine lv_istore (lv' := [(7, .int (q_i y57)), (6, .int (q_i y4)), (5, .int (q_i ii)), (4, .ref outD), (3, .ref out), (2, .ref mo), (1, .ref x), (0, .ref b)]) cx.1 cx.2.1 dL_law_351 hl (by decide) rfl (fun ls hl => ?_)
  refine lv_goto (tgt := 1521) cx.1 cx.2.1 dL_law_353 (by decide) ?_
  refine W.widen (k := cells + 6) (n := slots + 36) (by omega) (by omega) ?_
  exact kk f56 H locs ls 0 nl9 ls9 xc hB ⟨⟨z67, (Eq.trans z62 (by omega)), by omega, by omega⟩, g63, g64, g102, q_isu ex110 (by omega), q_isu ex111 (by omega), tk_bb_le g103 (by omega), z61, by omega, g105, g109, g106, g107, g108, g65, g101⟩ (lv_sub hl [2, 3, 4, 5, 6, 7] rfl)
set_option maxHeartbeats 4000000 in
set_option maxRecDepth 100000 in
theorem law_c356 {p : Program} {l : Launch} {e : Env} {s : State} {m : MethodId} {below : List Frame} {meth : Method} {c : Code} {b N9 : Nat} {xs : Nat → Int32} (hfl : l.stackTraces = false) (hN9 : N9 ≤ 3072) (C0 : lw_At p s m meth c b N9 xs) (cx : CallFix p m c cL_law 10 s #[Value.ref b] q_al RL) {g : q_G} {ad : Nat → Nat} {K : Nat → Nat} {L : List Nat} (hN : L.Nodup) (hLA : ∀ q, q ∈ L → s.heap.size ≤ q) (hX : q_X ad (fun q => q ∈ L) s) {f0 : Nat → va_E} {x : Nat} (hx : x ∈ L) (kx : K x = 11) {so : Nat} (hso : so ∈ L) (kso : K so = 8) {rd : Nat} (hrd : rd ∈ L) (krd : K rd = 9) {scr : Nat} (hscr : scr ∈ L) (kscr : K scr = 7) {fc : Nat} (hfc : fc ∈ L) (kfc : K fc = 1) {hist : Nat} (hhist : hist ∈ L) (khist : K hist = 2) {rep : Nat} (hrep : rep ∈ L) (krep : K rep = 6) {now : Nat} (hnow : now ∈ L) (know : K now = 10) {dr : Nat} (hdr : dr ∈ L) (kdr : K dr = 13) {sv : Nat} (hsv : sv ∈ L) (ksv : K sv = 14) {tr : Nat} (htr : tr ∈ L) (ktr : K tr = 15) {ba : Nat} (hba : ba ∈ L) (kba : K ba = 142) {nds : Nat} (hnds : nds ∈ L) (knds : K nds = 111) {ka : Nat} (hka : ka ∈ L) (kka : K ka = 140) {ndn : Nat} (hndn : ndn ∈ L) (kndn : K ndn = 110) {nsv : Nat} (hnsv : nsv ∈ L) (knsv : K nsv = 112) {mo : Nat} (hmo : mo ∈ L) (kmo : K mo = 12) {bu : Nat} (hbu : bu ∈ L) (kbu : K bu = 150) {sr : Nat} (hsr : sr ∈ L) (ksr : K sr = 151) {sd : Nat} (hsd : sd ∈ L) (ksd : K sd = 152) {as : Nat} (has : as ∈ L) (kas : K as = 153) {aw : Nat} (haw : aw ∈ L) (kaw : K aw = 154) {pa : Nat} (hpa : pa ∈ L) (kpa : K pa = 155) {nm : Nat} (hnm : nm ∈ L) (knm : K nm = 156) {snm : Nat} (hsnm : snm ∈ L) (ksnm : K snm = 157) {anm : Nat} (hanm : anm ∈ L) (kanm : K anm = 158) {hp : Nat} (hhp : hp ∈ L) (khp : K hp = 159) {dy : Nat} (hdy : dy ∈ L) (kdy : K dy = 160) {cs : Nat} (hcs : cs ∈ L) (kcs : K cs = 161) {c1 : Nat} (hc1 : c1 ∈ L) (kc1 : K c1 = 162) {c2 : Nat} (hc2 : c2 ∈ L) (kc2 : K c2 = 163) {c3 : Nat} (hc3 : c3 ∈ L) (kc3 : K c3 = 164) {bg : Nat} (hbg : bg ∈ L) (kbg : K bg = 165) {lp : Nat} (hlp : lp ∈ L) (klp : K lp = 166) {rp : Nat} (hrp : rp ∈ L) (krp : K rp = 167) {out : Nat} (hout : out ∈ L) (kout : K out = 168) {outD : Nat} (houtD : outD ∈ L) (koutD : K outD = 169) (hr0 : q_ir (q_r f0 x 0) so) (hr1 : q_ir (q_r f0 x 1) rd) (hr2 : q_ir (q_r f0 x 2) scr) (hr3 : q_ir (q_r f0 x 3) fc) (hr4 : q_ir (q_r f0 x 4) hist) (hr5 : q_ir (q_r f0 x 5) rep) (hr6 : q_ir (q_r f0 x 6) now) (hr7 : q_ir (q_r f0 x 7) dr) (hr8 : q_ir (q_r f0 x 8) sv) (hr9 : q_ir (q_r f0 fc 0) tr) (hr10 : q_ir (q_r f0 so 0) ba) (hr11 : q_ir (q_r f0 dr 0) nds) (hr12 : q_ir (q_r f0 hist 0) ka) (hr13 : q_ir (q_r f0 now 0) ndn) (hr14 : q_ir (q_r f0 sv 0) nsv) (hr15 : q_ir (q_r f0 mo 1) bu) (hr16 : q_ir (q_r f0 mo 13) sr) (hr17 : q_ir (q_r f0 mo 14) sd) (hr18 : q_ir (q_r f0 mo 15) as) (hr19 : q_ir (q_r f0 mo 16) aw) (hr20 : q_ir (q_r f0 mo 17) pa) (hr21 : q_ir (q_r f0 mo 18) nm) (hr22 : q_ir (q_r f0 mo 19) snm) (hr23 : q_ir (q_r f0 mo 20) anm) (hr24 : q_ir (q_r f0 mo 24) hp) (hr25 : q_ir (q_r f0 mo 25) dy) (hr26 : q_ir (q_r f0 mo 29) cs) (hr27 : q_ir (q_r f0 mo 30) c1) (hr28 : q_ir (q_r f0 mo 31) c2) (hr29 : q_ir (q_r f0 mo 32) c3) (hr30 : q_ir (q_r f0 mo 33) bg) (hr31 : q_ir (q_r f0 mo 34) lp) (hr32 : q_ir (q_r f0 mo 38) rp) (hij : tk_ij K L f0 nds) {f : Nat → va_E} {H : Heap} {locs : List Loc} {ls : Array Slot} {cells slots : Nat} {ii tn : Int} {nl9 ls9 : List (List Int)} {xc : Int} (hB : q_B g K L (fun q => s.heap.size ≤ q) [(0, 0, 6), (2, 1, 2), (3, 0, 4), (4, 0, 7), (5, 0, 9), (6, 1, 1), (7, 1, 4), (8, 1, 9), (9, 0, 2), (10, 3, 15), (11, 9, 9), (12, 0, 0), (12, 2, 12), (12, 21, 23), (12, 26, 28), (12, 35, 37), (12, 39, 40), (13, 3, 15), (14, 3, 15), (15, 3, 15), (16, 3, 15), (17, 0, 9), (18, 0, 9), (19, 0, 9), (20, 0, 9), (21, 0, 4), (22, 0, 4), (23, 0, 4), (24, 0, 4), (25, 0, 7), (26, 0, 7), (27, 0, 7), (28, 0, 7), (142, 0, 599), (143, 0, 599), (150, 0, 599), (151, 0, 657), (152, 0, 657), (153, 0, 657), (154, 0, 657), (155, 0, 3947), (156, 0, 9), (157, 0, 9), (158, 0, 9), (159, 0, 9), (160, 0, 9), (161, 0, 59), (162, 0, 58), (163, 0, 58), (164, 0, 58), (165, 0, 1), (166, 0, 1), (167, 0, 479), (168, 0, 0), (169, 0, 0)] f0 f s H locs) (hI : q_Iv5 K L f x so mo sr pa sd bu ba now ndn hist ka sv nsv nm snm tn nl9 ls9 xc) (hl : lv_has ls 10 [(5, .int (q_i ii)), (4, .ref outD), (3, .ref out), (2, .ref mo), (1, .ref x), (0, .ref b)]) (hi0 : 0 ≤ ii) (hi6 : ii + 6 ≤ N9) (hce : cells + 6 ≤ 10000) (hse : slots + 36 ≤ 100000) (kk : ∀ (f1 : Nat → va_E) (H1 : Heap) (locs1 : List Loc) (ls1 : Array Slot) (tn1 : Int) (nl1 ls1_ : List (List Int)) (xc1 : Int), q_B g K L (fun q => s.heap.size ≤ q) [(0, 0, 6), (2, 1, 2), (3, 0, 4), (4, 0, 7), (5, 0, 9), (6, 1, 1), (7, 1, 4), (8, 1, 9), (9, 0, 2), (10, 3, 15), (11, 9, 9), (12, 0, 0), (12, 2, 12), (12, 21, 23), (12, 26, 28), (12, 35, 37), (12, 39, 40), (13, 3, 15), (14, 3, 15), (15, 3, 15), (16, 3, 15), (17, 0, 9), (18, 0, 9), (19, 0, 9), (20, 0, 9), (21, 0, 4), (22, 0, 4), (23, 0, 4), (24, 0, 4), (25, 0, 7), (26, 0, 7), (27, 0, 7), (28, 0, 7), (142, 0, 599), (143, 0, 599), (150, 0, 599), (151, 0, 657), (152, 0, 657), (153, 0, 657), (154, 0, 657), (155, 0, 3947), (156, 0, 9), (157, 0, 9), (158, 0, 9), (159, 0, 9), (160, 0, 9), (161, 0, 59), (162, 0, 58), (163, 0, 58), (164, 0, 58), (165, 0, 1), (166, 0, 1), (167, 0, 479), (168, 0, 0), (169, 0, 0)] f0 f1 s H1 locs1 → q_Iv5 K L f1 x so mo sr pa sd bu ba now ndn hist ka sv nsv nm snm tn1 nl1 ls1_ xc1 → lv_has ls1 10 [(5, .int (q_i ii)), (4, .ref outD), (3, .ref out), (2, .ref mo), (1, .ref x), (0, .ref b)] → W p l e room_1 s m #[Value.ref b] below meth c H1 locs1 (cells + 6) (slots + 36) (lw_Z below #[Value.ref b] s) (F0 m 1521 ls1 [])) : W p l e room_1 s m #[Value.ref b] below meth c H locs (cells) (slots) (lw_Z below #[Value.ref b] s) (F0 m 356 ls []) := by
  have hXs := C0.2.2.2.2.2.2.1
  have hbl := C0.2.2.2.2.2.2.2.1
  have hbA := q_bA hbl
  obtain ⟨⟨hn0, hn1, ltn, utn⟩, hgr, hpk, hsd9, ht3, ht4, hbb, hsr0, hxc, hvn, hvk, hvs, hrn9, hrs9, hpc, hs22⟩ := hI
  have lxc : 0 ≤ xc := by omega
  have uxc : xc ≤ 10 := by have h7 := hvn.2.1.2; omega
  have hr0 : q_ir (q_r f x 0) so := Eq.trans (hB.2.2.r hx (by rw [kx]; rfl)) hr0
  have hr1 : q_ir (q_r f x 1) rd := Eq.trans (hB.2.2.r hx (by rw [kx]; rfl)) hr1
  have hr2 : q_ir (q_r f x 2) scr := Eq.trans (hB.2.2.r hx (by rw [kx]; rfl)) hr2
  have hr3 : q_ir (q_r f x 3) fc := Eq.trans (hB.2.2.r hx (by rw [kx]; rfl)) hr3
  have hr4 : q_ir (q_r f x 4) hist := Eq.trans (hB.2.2.r hx (by rw [kx]; rfl)) hr4
  have hr5 : q_ir (q_r f x 5) rep := Eq.trans (hB.2.2.r hx (by rw [kx]; rfl)) hr5
  have hr6 : q_ir (q_r f x 6) now := Eq.trans (hB.2.2.r hx (by rw [kx]; rfl)) hr6
  have hr7 : q_ir (q_r f x 7) dr := Eq.trans (hB.2.2.r hx (by rw [kx]; rfl)) hr7
  have hr8 : q_ir (q_r f x 8) sv := Eq.trans (hB.2.2.r hx (by rw [kx]; rfl)) hr8
  have hr9 : q_ir (q_r f fc 0) tr := Eq.trans (hB.2.2.r hfc (by rw [kfc]; rfl)) hr9
  have hr10 : q_ir (q_r f so 0) ba := Eq.trans (hB.2.2.r hso (by rw [kso]; rfl)) hr10
  have hr11 : q_ir (q_r f dr 0) nds := Eq.trans (hB.2.2.r hdr (by rw [kdr]; rfl)) hr11
  have hr12 : q_ir (q_r f hist 0) ka := Eq.trans (hB.2.2.r hhist (by rw [khist]; rfl)) hr12
  have hr13 : q_ir (q_r f now 0) ndn := Eq.trans (hB.2.2.r hnow (by rw [know]; rfl)) hr13
  have hr14 : q_ir (q_r f sv 0) nsv := Eq.trans (hB.2.2.r hsv (by rw [ksv]; rfl)) hr14
  have hr15 : q_ir (q_r f mo 1) bu := Eq.trans (hB.2.2.r hmo (by rw [kmo]; rfl)) hr15
  have hr16 : q_ir (q_r f mo 13) sr := Eq.trans (hB.2.2.r hmo (by rw [kmo]; rfl)) hr16
  have hr17 : q_ir (q_r f mo 14) sd := Eq.trans (hB.2.2.r hmo (by rw [kmo]; rfl)) hr17
  have hr18 : q_ir (q_r f mo 15) as := Eq.trans (hB.2.2.r hmo (by rw [kmo]; rfl)) hr18
  have hr19 : q_ir (q_r f mo 16) aw := Eq.trans (hB.2.2.r hmo (by rw [kmo]; rfl)) hr19
  have hr20 : q_ir (q_r f mo 17) pa := Eq.trans (hB.2.2.r hmo (by rw [kmo]; rfl)) hr20
  have hr21 : q_ir (q_r f mo 18) nm := Eq.trans (hB.2.2.r hmo (by rw [kmo]; rfl)) hr21
  have hr22 : q_ir (q_r f mo 19) snm := Eq.trans (hB.2.2.r hmo (by rw [kmo]; rfl)) hr22
  have hr23 : q_ir (q_r f mo 20) anm := Eq.trans (hB.2.2.r hmo (by rw [kmo]; rfl)) hr23
  have hr24 : q_ir (q_r f mo 24) hp := Eq.trans (hB.2.2.r hmo (by rw [kmo]; rfl)) hr24
  have hr25 : q_ir (q_r f mo 25) dy := Eq.trans (hB.2.2.r hmo (by rw [kmo]; rfl)) hr25
  have hr26 : q_ir (q_r f mo 29) cs := Eq.trans (hB.2.2.r hmo (by rw [kmo]; rfl)) hr26
  have hr27 : q_ir (q_r f mo 30) c1 := Eq.trans (hB.2.2.r hmo (by rw [kmo]; rfl)) hr27
  have hr28 : q_ir (q_r f mo 31) c2 := Eq.trans (hB.2.2.r hmo (by rw [kmo]; rfl)) hr28
  have hr29 : q_ir (q_r f mo 32) c3 := Eq.trans (hB.2.2.r hmo (by rw [kmo]; rfl)) hr29
  have hr30 : q_ir (q_r f mo 33) bg := Eq.trans (hB.2.2.r hmo (by rw [kmo]; rfl)) hr30
  have hr31 : q_ir (q_r f mo 34) lp := Eq.trans (hB.2.2.r hmo (by rw [kmo]; rfl)) hr31
  have hr32 : q_ir (q_r f mo 38) rp := Eq.trans (hB.2.2.r hmo (by rw [kmo]; rfl)) hr32
  have hij : tk_ij K L f nds := tk_ij_tr hij (fun i9 => hB.2.2.r hnds (by rw [knds]; rfl))
  obtain ⟨x1, ex1⟩ : ∃ zz, q_is (q_z f sr 3) zz := ⟨_, q_isr _⟩
  obtain ⟨lx1, ux1⟩ : 0 ≤ x1 ∧ x1 ≤ 9999 := q_isb ex1 ⟨(hgr 3 (by decide)).1, ht3⟩
  obtain ⟨x2, ex2⟩ : ∃ zz, q_is (q_z f sr 4) zz := ⟨_, q_isr _⟩
  obtain ⟨lx2, ux2⟩ : 0 ≤ x2 ∧ x2 ≤ 60 := q_isb ex2 ⟨(hgr 4 (by decide)).1, ht4⟩
  refine q_ald_n cx dL_law_356 rfl (lv_at hl 4 rfl) ?_
  refine q_cVi (As := []) (rest := []) cx hB (fun q h => hLA q h) hN hx kx (by decide) rfl (x_errorCode l g hN hB.2.1 x hx kx so hso kso rd hrd krd scr hscr kscr fc hfc kfc hist hhist khist rep hrep krep now hnow know dr hdr kdr sv hsv ksv tr htr ktr hr0 hr1 hr2 hr3 hr4 hr5 hr6 hr7 hr8 hr9) q_cL_135 q_dX11_errorCode ⟨by decide, by show cells + 0 ≤ 601024; omega, by show slots + 0 ≤ 7293034; omega⟩ rfl rfl hl.1 rfl (Nat.le_of_ble_eq_true rfl) dL_law_357 (fun y4 H locs f3 ry4 h5 hF hB => ?_)
  obtain rfl := h5
  refine lv_pop cx.1 cx.2.1 dL_law_360 rfl ?_
  refine q_ald_n cx dL_law_361 rfl (lv_at hl 3 rfl) ?_
  refine q_cVi (As := []) (rest := []) cx hB (fun q h => hLA q h) hN hmo kmo (by decide) rfl (r_errorCode l g hN hB.2.1 mo hmo kmo) q_cL_138 q_dX12_errorCode ⟨by decide, by show cells + 0 ≤ 601024; omega, by show slots + 0 ≤ 7293034; omega⟩ rfl rfl hl.1 rfl (Nat.le_of_ble_eq_true rfl) dL_law_362 (fun y7 H locs f6 ry7 h8 hF hB => ?_)
  have z9 : q_is (q_z f6 so 1) tn := Eq.trans (hF.z hso (by rw [kso]; rfl)) hn0
  have z10 : q_is (q_z f6 mo 2) tn := Eq.trans (hF.z hmo (by rw [kmo]; rfl)) hn1
  have z11 : q_is (q_z f6 sr 0) xc := Eq.trans (hF.z hsr (by rw [ksr]; rfl)) hsr0
  have z12 : q_is (q_z f6 sr 3) x1 := Eq.trans (hF.z hsr (by rw [ksr]; rfl)) ex1
  have z13 : q_is (q_z f6 sr 4) x2 := Eq.trans (hF.z hsr (by rw [ksr]; rfl)) ex2
  have z14 : q_ir (q_r f6 x 0) so := Eq.trans (hF.r hx (by rw [kx]; rfl)) hr0
  have z15 : q_ir (q_r f6 x 1) rd := Eq.trans (hF.r hx (by rw [kx]; rfl)) hr1
  have z16 : q_ir (q_r f6 x 2) scr := Eq.trans (hF.r hx (by rw [kx]; rfl)) hr2
  have z17 : q_ir (q_r f6 x 3) fc := Eq.trans (hF.r hx (by rw [kx]; rfl)) hr3
  have z18 : q_ir (q_r f6 x 4) hist := Eq.trans (hF.r hx (by rw [kx]; rfl)) hr4
  have z19 : q_ir (q_r f6 x 5) rep := Eq.trans (hF.r hx (by rw [kx]; rfl)) hr5
  have z20 : q_ir (q_r f6 x 6) now := Eq.trans (hF.r hx (by rw [kx]; rfl)) hr6
  have z21 : q_ir (q_r f6 x 7) dr := Eq.trans (hF.r hx (by rw [kx]; rfl)) hr7
  have z22 : q_ir (q_r f6 x 8) sv := Eq.trans (hF.r hx (by rw [kx]; rfl)) hr8
  have z23 : q_ir (q_r f6 fc 0) tr := Eq.trans (hF.r hfc (by rw [kfc]; rfl)) hr9
  have z24 : q_ir (q_r f6 so 0) ba := Eq.trans (hF.r hso (by rw [kso]; rfl)) hr10
  have z25 : q_ir (q_r f6 dr 0) nds := Eq.trans (hF.r hdr (by rw [kdr]; rfl)) hr11
  have z26 : q_ir (q_r f6 hist 0) ka := Eq.trans (hF.r hhist (by rw [khist]; rfl)) hr12
  have z27 : q_ir (q_r f6 now 0) ndn := Eq.trans (hF.r hnow (by rw [know]; rfl)) hr13
  have z28 : q_ir (q_r f6 sv 0) nsv := Eq.trans (hF.r hsv (by rw [ksv]; rfl)) hr14
  have z29 : q_ir (q_r f6 mo 1) bu := Eq.trans (hF.r hmo (by rw [kmo]; rfl)) hr15
  have z30 : q_ir (q_r f6 mo 13) sr := Eq.trans (hF.r hmo (by rw [kmo]; rfl)) hr16
  have z31 : q_ir (q_r f6 mo 14) sd := Eq.trans (hF.r hmo (by rw [kmo]; rfl)) hr17
  have z32 : q_ir (q_r f6 mo 15) as := Eq.trans (hF.r hmo (by rw [kmo]; rfl)) hr18
  have z33 : q_ir (q_r f6 mo 16) aw := Eq.trans (hF.r hmo (by rw [kmo]; rfl)) hr19
  have z34 : q_ir (q_r f6 mo 17) pa := Eq.trans (hF.r hmo (by rw [kmo]; rfl)) hr20
  have z35 : q_ir (q_r f6 mo 18) nm := Eq.trans (hF.r hmo (by rw [kmo]; rfl)) hr21
  have z36 : q_ir (q_r f6 mo 19) snm := Eq.trans (hF.r hmo (by rw [kmo]; rfl)) hr22
  have z37 : q_ir (q_r f6 mo 20) anm := Eq.trans (hF.r hmo (by rw [kmo]; rfl)) hr23
  have z38 : q_ir (q_r f6 mo 24) hp := Eq.trans (hF.r hmo (by rw [kmo]; rfl)) hr24
  have z39 : q_ir (q_r f6 mo 25) dy := Eq.trans (hF.r hmo (by rw [kmo]; rfl)) hr25
  have z40 : q_ir (q_r f6 mo 29) cs := Eq.trans (hF.r hmo (by rw [kmo]; rfl)) hr26
  have z41 : q_ir (q_r f6 mo 30) c1 := Eq.trans (hF.r hmo (by rw [kmo]; rfl)) hr27
  have z42 : q_ir (q_r f6 mo 31) c2 := Eq.trans (hF.r hmo (by rw [kmo]; rfl)) hr28
  have z43 : q_ir (q_r f6 mo 32) c3 := Eq.trans (hF.r hmo (by rw [kmo]; rfl)) hr29
  have z44 : q_ir (q_r f6 mo 33) bg := Eq.trans (hF.r hmo (by rw [kmo]; rfl)) hr30
  have z45 : q_ir (q_r f6 mo 34) lp := Eq.trans (hF.r hmo (by rw [kmo]; rfl)) hr31
  have z46 : q_ir (q_r f6 mo 38) rp := Eq.trans (hF.r hmo (by rw [kmo]; rfl)) hr32
  have g47 : q_gr f6 sr := q_gr_fr hgr (fun i9 _ => hF.z hsr (by rw [ksr]; rfl))
  have g48 : q_z f6 x 9 = q_z f6 mo 22 := tk_s2_tr hs22 (hF.z hx (by rw [kx]; rfl)) (hF.z hmo (by rw [kmo]; rfl))
  have g49 : q_pk f6 mo pa := q_pk_tr hpk (hF.z hmo (by rw [kmo]; rfl)) (fun i9 => hF.z hpa (by rw [kpa]; rfl))
  have g50 : q_sv f6 mo sd := q_sv_tr hsd9 (hF.z hmo (by rw [kmo]; rfl)) (fun i9 => hF.z hsd (by rw [ksd]; rfl))
  have g51 : tk_bb f6 bu ba tn := tk_bb_tr hbb (fun i9 => hF.z hbu (by rw [kbu]; rfl)) (fun i9 => hF.z hba (by rw [kba]; rfl))
  have g52 : tk_ij K L f6 nds := tk_ij_tr hij (fun i9 => hF.r hnds (by rw [knds]; rfl))
  have g53 : tk_vn K L 5 f6 now ndn nl9 := tk_vn_tr hvn (hF.z hnow (by rw [know]; rfl)) (fun a9 h9 k9 => hF.j h9 (by rw [k9]; rfl)) (fun i9 => hF.r hndn (by rw [kndn]; rfl))
  have g54 : tk_vk K L f6 hist ka now ndn := tk_vk_tr hvk (hF.z hhist (by rw [khist]; rfl)) (hF.z hhist (by rw [khist]; rfl)) (hF.z hnow (by rw [know]; rfl)) (fun a9 h9 k9 => hF.j h9 (by rw [k9]; rfl)) (fun i9 => hF.r hndn (by rw [kndn]; rfl)) (fun a9 h9 k9 => hF.z h9 (by rw [k9]; rfl)) (fun a9 h9 k9 => hF.j h9 (by rw [k9]; rfl)) (fun i9 => hF.r hka (by rw [kka]; rfl)) (fun a9 h9 k9 => hF.r h9 (by rw [k9]; rfl)) (fun a9 h9 k9 i9 => hF.r h9 (by rw [k9]; rfl))
  have g55 : tk_vs K L f6 x sv nsv ls9 := tk_vs_tr hvs (hF.z hx (by rw [kx]; rfl)) (hF.z hsv (by rw [ksv]; rfl)) (fun a9 h9 k9 => hF.j h9 (by rw [k9]; rfl)) (fun i9 => hF.r hnsv (by rw [knsv]; rfl))
  have g56 : tk_nq f6 nm nl9 := tk_nq_tr hrn9 (fun i9 => hF.j hnm (by rw [knm]; rfl))
  have g57 : tk_rs f6 mo sd snm ls9 := tk_rs_tr hrs9 (hF.z hmo (by rw [kmo]; rfl)) (fun i9 h9 k9 => hF.z hsd (by rw [ksd]; exact q_inWr rfl h9 k9)) (fun i9 => hF.j hsnm (by rw [ksnm]; rfl))
  have g58 : q_pc f6 mo pa xc := q_pc_tr hpc (hF.z hmo (by rw [kmo]; rfl)) (fun i9 => hF.z hpa (by rw [kpa]; rfl))
  refine lv_pop cx.1 cx.2.1 dL_law_365 rfl ?_
  refine lv_goto (tgt := 1521) cx.1 cx.2.1 dL_law_366 (by decide) ?_
  refine W.widen (k := cells + 6) (n := slots + 36) (by omega) (by omega) ?_
  exact kk f6 H locs ls tn nl9 ls9 xc hB ⟨⟨z9, (Eq.trans z10 (by omega)), by omega, by omega⟩, g47, g49, g50, q_isu z12 (by omega), q_isu z13 (by omega), tk_bb_le g51 (by omega), z11, by omega, g53, g54, g55, g56, g57, g58, g48⟩ (lv_sub hl [0, 1, 2, 3, 4, 5] rfl)
