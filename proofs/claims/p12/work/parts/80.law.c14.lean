set_option maxHeartbeats 4000000 in
set_option maxRecDepth 100000 in
theorem law_c1479 {p : Program} {l : Launch} {e : Env} {s : State} {m : MethodId} {below : List Frame} {meth : Method} {c : Code} {b N9 : Nat} {xs : Nat → Int32} (hfl : l.stackTraces = false) (hN9 : N9 ≤ 3072) (C0 : lw_At p s m meth c b N9 xs) (cx : CallFix p m c cL_law 10 s #[Value.ref b] q_al RL) {g : q_G} {ad : Nat → Nat} {K : Nat → Nat} {L : List Nat} (hN : L.Nodup) (hLA : ∀ q, q ∈ L → s.heap.size ≤ q) (hX : q_X ad (fun q => q ∈ L) s) {f0 : Nat → va_E} {x : Nat} (hx : x ∈ L) (kx : K x = 11) {so : Nat} (hso : so ∈ L) (kso : K so = 8) {rd : Nat} (hrd : rd ∈ L) (krd : K rd = 9) {scr : Nat} (hscr : scr ∈ L) (kscr : K scr = 7) {fc : Nat} (hfc : fc ∈ L) (kfc : K fc = 1) {hist : Nat} (hhist : hist ∈ L) (khist : K hist = 2) {rep : Nat} (hrep : rep ∈ L) (krep : K rep = 6) {now : Nat} (hnow : now ∈ L) (know : K now = 10) {dr : Nat} (hdr : dr ∈ L) (kdr : K dr = 13) {sv : Nat} (hsv : sv ∈ L) (ksv : K sv = 14) {tr : Nat} (htr : tr ∈ L) (ktr : K tr = 15) {ba : Nat} (hba : ba ∈ L) (kba : K ba = 142) {nds : Nat} (hnds : nds ∈ L) (knds : K nds = 111) {ka : Nat} (hka : ka ∈ L) (kka : K ka = 140) {ndn : Nat} (hndn : ndn ∈ L) (kndn : K ndn = 110) {nsv : Nat} (hnsv : nsv ∈ L) (knsv : K nsv = 112) {mo : Nat} (hmo : mo ∈ L) (kmo : K mo = 12) {bu : Nat} (hbu : bu ∈ L) (kbu : K bu = 150) {sr : Nat} (hsr : sr ∈ L) (ksr : K sr = 151) {sd : Nat} (hsd : sd ∈ L) (ksd : K sd = 152) {as : Nat} (has : as ∈ L) (kas : K as = 153) {aw : Nat} (haw : aw ∈ L) (kaw : K aw = 154) {pa : Nat} (hpa : pa ∈ L) (kpa : K pa = 155) {nm : Nat} (hnm : nm ∈ L) (knm : K nm = 156) {snm : Nat} (hsnm : snm ∈ L) (ksnm : K snm = 157) {anm : Nat} (hanm : anm ∈ L) (kanm : K anm = 158) {hp : Nat} (hhp : hp ∈ L) (khp : K hp = 159) {dy : Nat} (hdy : dy ∈ L) (kdy : K dy = 160) {cs : Nat} (hcs : cs ∈ L) (kcs : K cs = 161) {c1 : Nat} (hc1 : c1 ∈ L) (kc1 : K c1 = 162) {c2 : Nat} (hc2 : c2 ∈ L) (kc2 : K c2 = 163) {c3 : Nat} (hc3 : c3 ∈ L) (kc3 : K c3 = 164) {bg : Nat} (hbg : bg ∈ L) (kbg : K bg = 165) {lp : Nat} (hlp : lp ∈ L) (klp : K lp = 166) {rp : Nat} (hrp : rp ∈ L) (krp : K rp = 167) {out : Nat} (hout : out ∈ L) (kout : K out = 168) {outD : Nat} (houtD : outD ∈ L) (koutD : K outD = 169) (hr0 : q_ir (q_r f0 x 0) so) (hr1 : q_ir (q_r f0 x 1) rd) (hr2 : q_ir (q_r f0 x 2) scr) (hr3 : q_ir (q_r f0 x 3) fc) (hr4 : q_ir (q_r f0 x 4) hist) (hr5 : q_ir (q_r f0 x 5) rep) (hr6 : q_ir (q_r f0 x 6) now) (hr7 : q_ir (q_r f0 x 7) dr) (hr8 : q_ir (q_r f0 x 8) sv) (hr9 : q_ir (q_r f0 fc 0) tr) (hr10 : q_ir (q_r f0 so 0) ba) (hr11 : q_ir (q_r f0 dr 0) nds) (hr12 : q_ir (q_r f0 hist 0) ka) (hr13 : q_ir (q_r f0 now 0) ndn) (hr14 : q_ir (q_r f0 sv 0) nsv) (hr15 : q_ir (q_r f0 mo 1) bu) (hr16 : q_ir (q_r f0 mo 13) sr) (hr17 : q_ir (q_r f0 mo 14) sd) (hr18 : q_ir (q_r f0 mo 15) as) (hr19 : q_ir (q_r f0 mo 16) aw) (hr20 : q_ir (q_r f0 mo 17) pa) (hr21 : q_ir (q_r f0 mo 18) nm) (hr22 : q_ir (q_r f0 mo 19) snm) (hr23 : q_ir (q_r f0 mo 20) anm) (hr24 : q_ir (q_r f0 mo 24) hp) (hr25 : q_ir (q_r f0 mo 25) dy) (hr26 : q_ir (q_r f0 mo 29) cs) (hr27 : q_ir (q_r f0 mo 30) c1) (hr28 : q_ir (q_r f0 mo 31) c2) (hr29 : q_ir (q_r f0 mo 32) c3) (hr30 : q_ir (q_r f0 mo 33) bg) (hr31 : q_ir (q_r f0 mo 34) lp) (hr32 : q_ir (q_r f0 mo 38) rp) (hij : tk_ij K L f0 nds) {f : Nat → va_E} {H : Heap} {locs : List Loc} {ls : Array Slot} {cells slots : Nat} {ii tn : Int} {nl9 ls9 : List (List Int)} {xc : Int} (hB : q_B g K L (fun q => s.heap.size ≤ q) [(0, 0, 6), (2, 1, 2), (3, 0, 4), (4, 0, 7), (5, 0, 9), (6, 1, 1), (7, 1, 4), (8, 1, 9), (9, 0, 2), (10, 3, 15), (11, 9, 9), (12, 0, 0), (12, 2, 12), (12, 21, 23), (12, 26, 28), (12, 35, 37), (12, 39, 40), (13, 3, 15), (14, 3, 15), (15, 3, 15), (16, 3, 15), (17, 0, 9), (18, 0, 9), (19, 0, 9), (20, 0, 9), (21, 0, 4), (22, 0, 4), (23, 0, 4), (24, 0, 4), (25, 0, 7), (26, 0, 7), (27, 0, 7), (28, 0, 7), (142, 0, 599), (143, 0, 599), (150, 0, 599), (151, 0, 657), (152, 0, 657), (153, 0, 657), (154, 0, 657), (155, 0, 3947), (156, 0, 9), (157, 0, 9), (158, 0, 9), (159, 0, 9), (160, 0, 9), (161, 0, 59), (162, 0, 58), (163, 0, 58), (164, 0, 58), (165, 0, 1), (166, 0, 1), (167, 0, 479), (168, 0, 0), (169, 0, 0)] f0 f s H locs) (hI : q_Iv5 K L f x so mo sr pa sd bu ba now ndn hist ka sv nsv nm snm tn nl9 ls9 xc) (hl : lv_has ls 10 [(5, .int (q_i ii)), (4, .ref outD), (3, .ref out), (2, .ref mo), (1, .ref x), (0, .ref b)]) (hi0 : 0 ≤ ii) (hi6 : ii + 6 ≤ N9) (hce : cells + 6 ≤ 10000) (hse : slots + 36 ≤ 100000) (kk : ∀ (f1 : Nat → va_E) (H1 : Heap) (locs1 : List Loc) (ls1 : Array Slot) (tn1 : Int) (nl1 ls1_ : List (List Int)) (xc1 : Int), q_B g K L (fun q => s.heap.size ≤ q) [(0, 0, 6), (2, 1, 2), (3, 0, 4), (4, 0, 7), (5, 0, 9), (6, 1, 1), (7, 1, 4), (8, 1, 9), (9, 0, 2), (10, 3, 15), (11, 9, 9), (12, 0, 0), (12, 2, 12), (12, 21, 23), (12, 26, 28), (12, 35, 37), (12, 39, 40), (13, 3, 15), (14, 3, 15), (15, 3, 15), (16, 3, 15), (17, 0, 9), (18, 0, 9), (19, 0, 9), (20, 0, 9), (21, 0, 4), (22, 0, 4), (23, 0, 4), (24, 0, 4), (25, 0, 7), (26, 0, 7), (27, 0, 7), (28, 0, 7), (142, 0, 599), (143, 0, 599), (150, 0, 599), (151, 0, 657), (152, 0, 657), (153, 0, 657), (154, 0, 657), (155, 0, 3947), (156, 0, 9), (157, 0, 9), (158, 0, 9), (159, 0, 9), (160, 0, 9), (161, 0, 59), (162, 0, 58), (163, 0, 58), (164, 0, 58), (165, 0, 1), (166, 0, 1), (167, 0, 479), (168, 0, 0), (169, 0, 0)] f0 f1 s H1 locs1 → q_Iv5 K L f1 x so mo sr pa sd bu ba now ndn hist ka sv nsv nm snm tn1 nl1 ls1_ xc1 → lv_has ls1 10 [(5, .int (q_i ii)), (4, .ref outD), (3, .ref out), (2, .ref mo), (1, .ref x), (0, .ref b)] → W p l e room_1 s m #[Value.ref b] below meth c H1 locs1 (cells + 6) (slots + 36) (lw_Z below #[Value.ref b] s) (F0 m 1521 ls1 [])) : W p l e room_1 s m #[Value.ref b] below meth c H locs (cells) (slots) (lw_Z below #[Value.ref b] s) (F0 m 1479 ls []) := by
  have hXs := C0.2.2.2.2.2.2.1
  have hbl := C0.2.2.2.2.2.2.2.1
  have hbA := q_bA hbl
  obtain ⟨⟨hn0, hn1, ltn, utn⟩, hgr, hpk, hsd9, ht3, ht4, hbb, hsr0, hxc, hvn, hvk, hvs, hrn9, hrs9, hpc, hs22⟩ := hI
  have lxc : 0 ≤ xc := by omega
  have uxc : xc ≤ 10 := by have h7 := hvn.2.1.2; omega
  have hr0 : q_ir (q_r f x 0) so := Eq.trans (hB.2.2.r hx (by rw [kx]; rfl)) hr0
  have hr1 : q_ir (q_r f x 1) rd := Eq.trans (hB.2.2.r hx (by rw [kx]; rfl)) hr1
  have hr2 : q_ir (q_r f x 2) scr := Eq.trans (hB.2.2.r hx (by rw [kx]; rfl)) hr2
  have hr3 : q_ir (q_r f x 3) fc := Eq.trans (hB.2.2.r hx (by rw [kx]; rfl)) hr3
  have hr4 : q_ir (q_r f x 4) hist := Eq.trans (hB.2.2.r hx (by rw [kx]; rfl)) hr4
  have hr5 : q_ir (q_r f x 5) rep := Eq.trans (hB.2.2.r hx (by rw [kx]; rfl)) hr5
  have hr6 : q_ir (q_r f x 6) now := Eq.trans (hB.2.2.r hx (by rw [kx]; rfl)) hr6
  have hr7 : q_ir (q_r f x 7) dr := Eq.trans (hB.2.2.r hx (by rw [kx]; rfl)) hr7
  have hr8 : q_ir (q_r f x 8) sv := Eq.trans (hB.2.2.r hx (by rw [kx]; rfl)) hr8
  have hr9 : q_ir (q_r f fc 0) tr := Eq.trans (hB.2.2.r hfc (by rw [kfc]; rfl)) hr9
  have hr10 : q_ir (q_r f so 0) ba := Eq.trans (hB.2.2.r hso (by rw [kso]; rfl)) hr10
  have hr11 : q_ir (q_r f dr 0) nds := Eq.trans (hB.2.2.r hdr (by rw [kdr]; rfl)) hr11
  have hr12 : q_ir (q_r f hist 0) ka := Eq.trans (hB.2.2.r hhist (by rw [khist]; rfl)) hr12
  have hr13 : q_ir (q_r f now 0) ndn := Eq.trans (hB.2.2.r hnow (by rw [know]; rfl)) hr13
  have hr14 : q_ir (q_r f sv 0) nsv := Eq.trans (hB.2.2.r hsv (by rw [ksv]; rfl)) hr14
  have hr15 : q_ir (q_r f mo 1) bu := Eq.trans (hB.2.2.r hmo (by rw [kmo]; rfl)) hr15
  have hr16 : q_ir (q_r f mo 13) sr := Eq.trans (hB.2.2.r hmo (by rw [kmo]; rfl)) hr16
  have hr17 : q_ir (q_r f mo 14) sd := Eq.trans (hB.2.2.r hmo (by rw [kmo]; rfl)) hr17
  have hr18 : q_ir (q_r f mo 15) as := Eq.trans (hB.2.2.r hmo (by rw [kmo]; rfl)) hr18
  have hr19 : q_ir (q_r f mo 16) aw := Eq.trans (hB.2.2.r hmo (by rw [kmo]; rfl)) hr19
  have hr20 : q_ir (q_r f mo 17) pa := Eq.trans (hB.2.2.r hmo (by rw [kmo]; rfl)) hr20
  have hr21 : q_ir (q_r f mo 18) nm := Eq.trans (hB.2.2.r hmo (by rw [kmo]; rfl)) hr21
  have hr22 : q_ir (q_r f mo 19) snm := Eq.trans (hB.2.2.r hmo (by rw [kmo]; rfl)) hr22
  have hr23 : q_ir (q_r f mo 20) anm := Eq.trans (hB.2.2.r hmo (by rw [kmo]; rfl)) hr23
  have hr24 : q_ir (q_r f mo 24) hp := Eq.trans (hB.2.2.r hmo (by rw [kmo]; rfl)) hr24
  have hr25 : q_ir (q_r f mo 25) dy := Eq.trans (hB.2.2.r hmo (by rw [kmo]; rfl)) hr25
  have hr26 : q_ir (q_r f mo 29) cs := Eq.trans (hB.2.2.r hmo (by rw [kmo]; rfl)) hr26
  have hr27 : q_ir (q_r f mo 30) c1 := Eq.trans (hB.2.2.r hmo (by rw [kmo]; rfl)) hr27
  have hr28 : q_ir (q_r f mo 31) c2 := Eq.trans (hB.2.2.r hmo (by rw [kmo]; rfl)) hr28
  have hr29 : q_ir (q_r f mo 32) c3 := Eq.trans (hB.2.2.r hmo (by rw [kmo]; rfl)) hr29
  have hr30 : q_ir (q_r f mo 33) bg := Eq.trans (hB.2.2.r hmo (by rw [kmo]; rfl)) hr30
  have hr31 : q_ir (q_r f mo 34) lp := Eq.trans (hB.2.2.r hmo (by rw [kmo]; rfl)) hr31
  have hr32 : q_ir (q_r f mo 38) rp := Eq.trans (hB.2.2.r hmo (by rw [kmo]; rfl)) hr32
  have hij : tk_ij K L f nds := tk_ij_tr hij (fun i9 => hB.2.2.r hnds (by rw [knds]; rfl))
  obtain ⟨x1, ex1⟩ : ∃ zz, q_is (q_z f sr 3) zz := ⟨_, q_isr _⟩
  obtain ⟨lx1, ux1⟩ : 0 ≤ x1 ∧ x1 ≤ 9999 := q_isb ex1 ⟨(hgr 3 (by decide)).1, ht3⟩
  obtain ⟨x2, ex2⟩ : ∃ zz, q_is (q_z f sr 4) zz := ⟨_, q_isr _⟩
  obtain ⟨lx2, ux2⟩ : 0 ≤ x2 ∧ x2 ≤ 60 := q_isb ex2 ⟨(hgr 4 (by decide)).1, ht4⟩
  refine q_ald_n cx dL_law_1479 rfl (lv_at hl 4 rfl) ?_
  refine q_cVi (As := []) (rest := []) cx hB (fun q h => hLA q h) hN hx kx (by decide) rfl (f_xundo l g hN hB.2.1 nl9 x hx kx so hso kso rd hrd krd scr hscr kscr fc hfc kfc hist hhist khist rep hrep krep now hnow know dr hdr kdr sv hsv ksv tr htr ktr ba hba kba nds hnds knds ka hka kka ndn hndn kndn nsv hnsv knsv hr0 hr1 hr2 hr3 hr4 hr5 hr6 hr7 hr8 hr9 hr10 hr11 hr12 hr13 hr14 hvn hvk) q_cL_250 q_dX11_undo ⟨by decide, by show cells + 0 ≤ 601024; omega, by show slots + 0 ≤ 7293034; omega⟩ rfl rfl hl.1 rfl (Nat.le_of_ble_eq_true rfl) dL_law_1480 (fun y4 H locs f3 ry4 h5 hF hB => ?_)
  obtain ⟨g6, g7⟩ := h5
  have z8 : q_is (q_z f3 so 1) tn := Eq.trans (hF.z hso (by rw [kso]; rfl)) hn0
  have z9 : q_is (q_z f3 mo 2) tn := Eq.trans (hF.z hmo (by rw [kmo]; rfl)) hn1
  have z10 : q_is (q_z f3 sr 0) xc := Eq.trans (hF.z hsr (by rw [ksr]; rfl)) hsr0
  have z11 : q_is (q_z f3 sr 3) x1 := Eq.trans (hF.z hsr (by rw [ksr]; rfl)) ex1
  have z12 : q_is (q_z f3 sr 4) x2 := Eq.trans (hF.z hsr (by rw [ksr]; rfl)) ex2
  have z13 : q_ir (q_r f3 x 0) so := Eq.trans (hF.r hx (by rw [kx]; rfl)) hr0
  have z14 : q_ir (q_r f3 x 1) rd := Eq.trans (hF.r hx (by rw [kx]; rfl)) hr1
  have z15 : q_ir (q_r f3 x 2) scr := Eq.trans (hF.r hx (by rw [kx]; rfl)) hr2
  have z16 : q_ir (q_r f3 x 3) fc := Eq.trans (hF.r hx (by rw [kx]; rfl)) hr3
  have z17 : q_ir (q_r f3 x 4) hist := Eq.trans (hF.r hx (by rw [kx]; rfl)) hr4
  have z18 : q_ir (q_r f3 x 5) rep := Eq.trans (hF.r hx (by rw [kx]; rfl)) hr5
  have z19 : q_ir (q_r f3 x 6) now := Eq.trans (hF.r hx (by rw [kx]; rfl)) hr6
  have z20 : q_ir (q_r f3 x 7) dr := Eq.trans (hF.r hx (by rw [kx]; rfl)) hr7
  have z21 : q_ir (q_r f3 x 8) sv := Eq.trans (hF.r hx (by rw [kx]; rfl)) hr8
  have z22 : q_ir (q_r f3 fc 0) tr := Eq.trans (hF.r hfc (by rw [kfc]; rfl)) hr9
  have z23 : q_ir (q_r f3 so 0) ba := Eq.trans (hF.r hso (by rw [kso]; rfl)) hr10
  have z24 : q_ir (q_r f3 dr 0) nds := Eq.trans (hF.r hdr (by rw [kdr]; rfl)) hr11
  have z25 : q_ir (q_r f3 hist 0) ka := Eq.trans (hF.r hhist (by rw [khist]; rfl)) hr12
  have z26 : q_ir (q_r f3 now 0) ndn := Eq.trans (hF.r hnow (by rw [know]; rfl)) hr13
  have z27 : q_ir (q_r f3 sv 0) nsv := Eq.trans (hF.r hsv (by rw [ksv]; rfl)) hr14
  have z28 : q_ir (q_r f3 mo 1) bu := Eq.trans (hF.r hmo (by rw [kmo]; rfl)) hr15
  have z29 : q_ir (q_r f3 mo 13) sr := Eq.trans (hF.r hmo (by rw [kmo]; rfl)) hr16
  have z30 : q_ir (q_r f3 mo 14) sd := Eq.trans (hF.r hmo (by rw [kmo]; rfl)) hr17
  have z31 : q_ir (q_r f3 mo 15) as := Eq.trans (hF.r hmo (by rw [kmo]; rfl)) hr18
  have z32 : q_ir (q_r f3 mo 16) aw := Eq.trans (hF.r hmo (by rw [kmo]; rfl)) hr19
  have z33 : q_ir (q_r f3 mo 17) pa := Eq.trans (hF.r hmo (by rw [kmo]; rfl)) hr20
  have z34 : q_ir (q_r f3 mo 18) nm := Eq.trans (hF.r hmo (by rw [kmo]; rfl)) hr21
  have z35 : q_ir (q_r f3 mo 19) snm := Eq.trans (hF.r hmo (by rw [kmo]; rfl)) hr22
  have z36 : q_ir (q_r f3 mo 20) anm := Eq.trans (hF.r hmo (by rw [kmo]; rfl)) hr23
  have z37 : q_ir (q_r f3 mo 24) hp := Eq.trans (hF.r hmo (by rw [kmo]; rfl)) hr24
  have z38 : q_ir (q_r f3 mo 25) dy := Eq.trans (hF.r hmo (by rw [kmo]; rfl)) hr25
  have z39 : q_ir (q_r f3 mo 29) cs := Eq.trans (hF.r hmo (by rw [kmo]; rfl)) hr26
  have z40 : q_ir (q_r f3 mo 30) c1 := Eq.trans (hF.r hmo (by rw [kmo]; rfl)) hr27
  have z41 : q_ir (q_r f3 mo 31) c2 := Eq.trans (hF.r hmo (by rw [kmo]; rfl)) hr28
  have z42 : q_ir (q_r f3 mo 32) c3 := Eq.trans (hF.r hmo (by rw [kmo]; rfl)) hr29
  have z43 : q_ir (q_r f3 mo 33) bg := Eq.trans (hF.r hmo (by rw [kmo]; rfl)) hr30
  have z44 : q_ir (q_r f3 mo 34) lp := Eq.trans (hF.r hmo (by rw [kmo]; rfl)) hr31
  have z45 : q_ir (q_r f3 mo 38) rp := Eq.trans (hF.r hmo (by rw [kmo]; rfl)) hr32
  have g46 : q_gr f3 sr := q_gr_fr hgr (fun i9 _ => hF.z hsr (by rw [ksr]; rfl))
  have g47 : q_z f3 x 9 = q_z f3 mo 22 := tk_s2_tr hs22 (hF.z hx (by rw [kx]; rfl)) (hF.z hmo (by rw [kmo]; rfl))
  have g48 : q_pk f3 mo pa := q_pk_tr hpk (hF.z hmo (by rw [kmo]; rfl)) (fun i9 => hF.z hpa (by rw [kpa]; rfl))
  have g49 : q_sv f3 mo sd := q_sv_tr hsd9 (hF.z hmo (by rw [kmo]; rfl)) (fun i9 => hF.z hsd (by rw [ksd]; rfl))
  have g50 : tk_bb f3 bu ba tn := tk_bb_tr hbb (fun i9 => hF.z hbu (by rw [kbu]; rfl)) (fun i9 => hF.z hba (by rw [kba]; rfl))
  have g51 : tk_ij K L f3 nds := tk_ij_tr hij (fun i9 => hF.r hnds (by rw [knds]; rfl))
  have g52 : tk_vs K L f3 x sv nsv ls9 := tk_vs_tr hvs (hF.z hx (by rw [kx]; rfl)) (hF.z hsv (by rw [ksv]; rfl)) (fun a9 h9 k9 => hF.j h9 (by rw [k9]; rfl)) (fun i9 => hF.r hnsv (by rw [knsv]; rfl))
  have g53 : tk_nq f3 nm nl9 := tk_nq_tr hrn9 (fun i9 => hF.j hnm (by rw [knm]; rfl))
  have g54 : tk_rs f3 mo sd snm ls9 := tk_rs_tr hrs9 (hF.z hmo (by rw [kmo]; rfl)) (fun i9 h9 k9 => hF.z hsd (by rw [ksd]; exact q_inWr rfl h9 k9)) (fun i9 => hF.j hsnm (by rw [ksnm]; rfl))
  have g55 : q_pc f3 mo pa xc := q_pc_tr hpc (hF.z hmo (by rw [kmo]; rfl)) (fun i9 => hF.z hpa (by rw [kpa]; rfl))
  refine lv_pop cx.1 cx.2.1 dL_law_1483 rfl ?_
  refine q_ald_n cx dL_law_1484 rfl (lv_at hl 3 rfl) ?_
  obtain ⟨x56, ex56⟩ : ∃ zz, q_is (q_z f3 mo 21) zz := ⟨_, q_isr _⟩
  obtain ⟨lx56, ux56⟩ := q_isb ex56 (q_fib hB.2.1 hmo kmo (by decide) rfl)
  by_cases c57 : x56 ≤ 0
  · refine q_cVi (As := []) (rest := []) cx hB (fun q h => hLA q h) hN hmo kmo (by decide) rfl (r_undo0 l g hN hB.2.1 mo hmo kmo sr hsr ksr pa hpa kpa x1 (by omega) (by omega) x2 (by omega) (by omega) xc (by omega) (by omega) z11 z12 z10 (Eq.trans ex56 (by omega)) z29 z33 g46 g48 g55) q_cL_253 q_dX12_undo ⟨by decide, by show cells + 0 ≤ 601024; omega, by show slots + 0 ≤ 7293034; omega⟩ rfl rfl hl.1 rfl (Nat.le_of_ble_eq_true rfl) dL_law_1485 (fun y59 H locs f58 ry59 h60 hF hB => ?_)
    obtain ⟨qy59, lz61, uz61, lz62, uz62, z63, g64, g65⟩ := h60
    have z66 : q_is (q_z f58 so 1) tn := Eq.trans (hF.z hso (by rw [kso]; rfl)) z8
    have z67 : q_is (q_z f58 mo 2) tn := Eq.trans (hF.z hmo (by rw [kmo]; rfl)) z9
    have z68 : q_is (q_z f58 sr 0) xc := Eq.trans (hF.z hsr (by rw [ksr]; rfl)) z10
    have z69 : q_is (q_z f58 sr 3) x1 := Eq.trans (hF.z hsr (by rw [ksr]; rfl)) z11
    have z70 : q_is (q_z f58 sr 4) x2 := Eq.trans (hF.z hsr (by rw [ksr]; rfl)) z12
    have z71 : q_is (q_z f58 mo 21) x56 := Eq.trans (hF.z hmo (by rw [kmo]; rfl)) ex56
    have z72 : q_ir (q_r f58 x 0) so := Eq.trans (hF.r hx (by rw [kx]; rfl)) z13
    have z73 : q_ir (q_r f58 x 1) rd := Eq.trans (hF.r hx (by rw [kx]; rfl)) z14
    have z74 : q_ir (q_r f58 x 2) scr := Eq.trans (hF.r hx (by rw [kx]; rfl)) z15
    have z75 : q_ir (q_r f58 x 3) fc := Eq.trans (hF.r hx (by rw [kx]; rfl)) z16
    have z76 : q_ir (q_r f58 x 4) hist := Eq.trans (hF.r hx (by rw [kx]; rfl)) z17
    have z77 : q_ir (q_r f58 x 5) rep := Eq.trans (hF.r hx (by rw [kx]; rfl)) z18
    have z78 : q_ir (q_r f58 x 6) now := Eq.trans (hF.r hx (by rw [kx]; rfl)) z19
    have z79 : q_ir (q_r f58 x 7) dr := Eq.trans (hF.r hx (by rw [kx]; rfl)) z20
    have z80 : q_ir (q_r f58 x 8) sv := Eq.trans (hF.r hx (by rw [kx]; rfl)) z21
    have z81 : q_ir (q_r f58 fc 0) tr := Eq.trans (hF.r hfc (by rw [kfc]; rfl)) z22
    have z82 : q_ir (q_r f58 so 0) ba := Eq.trans (hF.r hso (by rw [kso]; rfl)) z23
    have z83 : q_ir (q_r f58 dr 0) nds := Eq.trans (hF.r hdr (by rw [kdr]; rfl)) z24
    have z84 : q_ir (q_r f58 hist 0) ka := Eq.trans (hF.r hhist (by rw [khist]; rfl)) z25
    have z85 : q_ir (q_r f58 now 0) ndn := Eq.trans (hF.r hnow (by rw [know]; rfl)) z26
    have z86 : q_ir (q_r f58 sv 0) nsv := Eq.trans (hF.r hsv (by rw [ksv]; rfl)) z27
    have z87 : q_ir (q_r f58 mo 1) bu := Eq.trans (hF.r hmo (by rw [kmo]; rfl)) z28
    have z88 : q_ir (q_r f58 mo 13) sr := Eq.trans (hF.r hmo (by rw [kmo]; rfl)) z29
    have z89 : q_ir (q_r f58 mo 14) sd := Eq.trans (hF.r hmo (by rw [kmo]; rfl)) z30
    have z90 : q_ir (q_r f58 mo 15) as := Eq.trans (hF.r hmo (by rw [kmo]; rfl)) z31
    have z91 : q_ir (q_r f58 mo 16) aw := Eq.trans (hF.r hmo (by rw [kmo]; rfl)) z32
    have z92 : q_ir (q_r f58 mo 17) pa := Eq.trans (hF.r hmo (by rw [kmo]; rfl)) z33
    have z93 : q_ir (q_r f58 mo 18) nm := Eq.trans (hF.r hmo (by rw [kmo]; rfl)) z34
    have z94 : q_ir (q_r f58 mo 19) snm := Eq.trans (hF.r hmo (by rw [kmo]; rfl)) z35
    have z95 : q_ir (q_r f58 mo 20) anm := Eq.trans (hF.r hmo (by rw [kmo]; rfl)) z36
    have z96 : q_ir (q_r f58 mo 24) hp := Eq.trans (hF.r hmo (by rw [kmo]; rfl)) z37
    have z97 : q_ir (q_r f58 mo 25) dy := Eq.trans (hF.r hmo (by rw [kmo]; rfl)) z38
    have z98 : q_ir (q_r f58 mo 29) cs := Eq.trans (hF.r hmo (by rw [kmo]; rfl)) z39
    have z99 : q_ir (q_r f58 mo 30) c1 := Eq.trans (hF.r hmo (by rw [kmo]; rfl)) z40
    have z100 : q_ir (q_r f58 mo 31) c2 := Eq.trans (hF.r hmo (by rw [kmo]; rfl)) z41
    have z101 : q_ir (q_r f58 mo 32) c3 := Eq.trans (hF.r hmo (by rw [kmo]; rfl)) z42
    have z102 : q_ir (q_r f58 mo 33) bg := Eq.trans (hF.r hmo (by rw [kmo]; rfl)) z43
    have z103 : q_ir (q_r f58 mo 34) lp := Eq.trans (hF.r hmo (by rw [kmo]; rfl)) z44
    have z104 : q_ir (q_r f58 mo 38) rp := Eq.trans (hF.r hmo (by rw [kmo]; rfl)) z45
    have g105 : q_gr f58 sr := q_gr_fr g46 (fun i9 _ => hF.z hsr (by rw [ksr]; rfl))
    have g106 : q_z f58 x 9 = q_z f58 mo 22 := tk_s2_tr g47 (hF.z hx (by rw [kx]; rfl)) (hF.z hmo (by rw [kmo]; rfl))
    have g107 : q_pk f58 mo pa := q_pk_tr g48 (hF.z hmo (by rw [kmo]; rfl)) (fun i9 => hF.z hpa (by rw [kpa]; rfl))
    have g108 : q_sv f58 mo sd := q_sv_tr g49 (hF.z hmo (by rw [kmo]; rfl)) (fun i9 => hF.z hsd (by rw [ksd]; rfl))
    have g109 : tk_bb f58 bu ba tn := tk_bb_tr g50 (fun i9 => hF.z hbu (by rw [kbu]; rfl)) (fun i9 => hF.z hba (by rw [kba]; rfl))
    have g110 : tk_ij K L f58 nds := tk_ij_tr g51 (fun i9 => hF.r hnds (by rw [knds]; rfl))
    have g111 : tk_vs K L f58 x sv nsv ls9 := tk_vs_tr g52 (hF.z hx (by rw [kx]; rfl)) (hF.z hsv (by rw [ksv]; rfl)) (fun a9 h9 k9 => hF.j h9 (by rw [k9]; rfl)) (fun i9 => hF.r hnsv (by rw [knsv]; rfl))
    have g112 : tk_nq f58 nm nl9 := tk_nq_tr g53 (fun i9 => hF.j hnm (by rw [knm]; rfl))
    have g113 : tk_rs f58 mo sd snm ls9 := tk_rs_tr g54 (hF.z hmo (by rw [kmo]; rfl)) (fun i9 h9 k9 => hF.z hsd (by rw [ksd]; exact q_inWr rfl h9 k9)) (fun i9 => hF.j hsnm (by rw [ksnm]; rfl))
    have g114 : q_pc f58 mo pa xc := q_pc_tr g55 (hF.z hmo (by rw [kmo]; rfl)) (fun i9 => hF.z hpa (by rw [kpa]; rfl))
    have g115 : tk_vn K L 5 f58 now ndn nl9 := tk_vn_tr g6 (hF.z hnow (by rw [know]; rfl)) (fun a9 h9 k9 => hF.j h9 (by rw [k9]; rfl)) (fun i9 => hF.r hndn (by rw [kndn]; rfl))
    have g116 : tk_vk K L f58 hist ka now ndn := tk_vk_tr g7 (hF.z hhist (by rw [khist]; rfl)) (hF.z hhist (by rw [khist]; rfl)) (hF.z hnow (by rw [know]; rfl)) (fun a9 h9 k9 => hF.j h9 (by rw [k9]; rfl)) (fun i9 => hF.r hndn (by rw [kndn]; rfl)) (fun a9 h9 k9 => hF.z h9 (by rw [k9]; rfl)) (fun a9 h9 k9 => hF.j h9 (by rw [k9]; rfl)) (fun i9 => hF.r hka (by rw [kka]; rfl)) (fun a9 h9 k9 => hF.r h9 (by rw [k9]; rfl)) (fun a9 h9 k9 i9 => hF.r h9 (by rw [k9]; rfl))
    obtain ⟨x117, ex117⟩ : ∃ zz, q_is (q_z f58 sr 3) zz := ⟨_, q_isr _⟩
    obtain ⟨lx117, ux117⟩ := q_isb ex117 ⟨lz61, uz61⟩
    obtain ⟨x118, ex118⟩ : ∃ zz, q_is (q_z f58 sr 4) zz := ⟨_, q_isr _⟩
    obtain ⟨lx118, ux118⟩ := q_isb ex118 ⟨lz62, uz62⟩
    subst qy59
    refine lv_pop cx.1 cx.2.1 dL_law_1488 rfl ?_
    refine lv_goto (tgt := 1521) cx.1 cx.2.1 dL_law_1489 (by decide) ?_
    refine W.widen (k := cells + 6) (n := slots + 36) (by omega) (by omega) ?_
    exact kk f58 H locs ls tn nl9 ls9 xc hB ⟨⟨z66, (Eq.trans z67 (by omega)), by omega, by omega⟩, g105, g64, g108, q_isu ex117 (by omega), q_isu ex118 (by omega), tk_bb_le g109 (by omega), z63, by omega, g115, g116, g111, g112, g113, g65, g106⟩ (lv_sub hl [0, 1, 2, 3, 4, 5] rfl)
  · refine q_cVi (As := []) (rest := []) cx hB (fun q h => hLA q h) hN hmo kmo (by decide) rfl (r_undo1 l g hN hB.2.1 mo hmo kmo sr hsr ksr pa hpa kpa x1 (by omega) (by omega) x2 (by omega) (by omega) xc (by omega) (by omega) x56 (by omega) (by omega) z11 z12 z10 ex56 z29 z33 g46 g48 g55) q_cL_253 q_dX12_undo ⟨by decide, by show cells + 0 ≤ 601024; omega, by show slots + 0 ≤ 7293034; omega⟩ rfl rfl hl.1 rfl (Nat.le_of_ble_eq_true rfl) dL_law_1485 (fun y120 H locs f119 ry120 h121 hF hB => ?_)
    obtain ⟨ly120, uy120, lz122, uz122, lz123, uz123, z124, g125, g126, g127⟩ := h121
    have z128 : q_is (q_z f119 so 1) tn := Eq.trans (hF.z hso (by rw [kso]; rfl)) z8
    have z129 : q_is (q_z f119 mo 2) tn := Eq.trans (hF.z hmo (by rw [kmo]; rfl)) z9
    have z130 : q_ir (q_r f119 x 0) so := Eq.trans (hF.r hx (by rw [kx]; rfl)) z13
    have z131 : q_ir (q_r f119 x 1) rd := Eq.trans (hF.r hx (by rw [kx]; rfl)) z14
    have z132 : q_ir (q_r f119 x 2) scr := Eq.trans (hF.r hx (by rw [kx]; rfl)) z15
    have z133 : q_ir (q_r f119 x 3) fc := Eq.trans (hF.r hx (by rw [kx]; rfl)) z16
    have z134 : q_ir (q_r f119 x 4) hist := Eq.trans (hF.r hx (by rw [kx]; rfl)) z17
    have z135 : q_ir (q_r f119 x 5) rep := Eq.trans (hF.r hx (by rw [kx]; rfl)) z18
    have z136 : q_ir (q_r f119 x 6) now := Eq.trans (hF.r hx (by rw [kx]; rfl)) z19
    have z137 : q_ir (q_r f119 x 7) dr := Eq.trans (hF.r hx (by rw [kx]; rfl)) z20
    have z138 : q_ir (q_r f119 x 8) sv := Eq.trans (hF.r hx (by rw [kx]; rfl)) z21
    have z139 : q_ir (q_r f119 fc 0) tr := Eq.trans (hF.r hfc (by rw [kfc]; rfl)) z22
    have z140 : q_ir (q_r f119 so 0) ba := Eq.trans (hF.r hso (by rw [kso]; rfl)) z23
    have z141 : q_ir (q_r f119 dr 0) nds := Eq.trans (hF.r hdr (by rw [kdr]; rfl)) z24
    have z142 : q_ir (q_r f119 hist 0) ka := Eq.trans (hF.r hhist (by rw [khist]; rfl)) z25
    have z143 : q_ir (q_r f119 now 0) ndn := Eq.trans (hF.r hnow (by rw [know]; rfl)) z26
    have z144 : q_ir (q_r f119 sv 0) nsv := Eq.trans (hF.r hsv (by rw [ksv]; rfl)) z27
    have z145 : q_ir (q_r f119 mo 1) bu := Eq.trans (hF.r hmo (by rw [kmo]; rfl)) z28
    have z146 : q_ir (q_r f119 mo 13) sr := Eq.trans (hF.r hmo (by rw [kmo]; rfl)) z29
    have z147 : q_ir (q_r f119 mo 14) sd := Eq.trans (hF.r hmo (by rw [kmo]; rfl)) z30
    have z148 : q_ir (q_r f119 mo 15) as := Eq.trans (hF.r hmo (by rw [kmo]; rfl)) z31
    have z149 : q_ir (q_r f119 mo 16) aw := Eq.trans (hF.r hmo (by rw [kmo]; rfl)) z32
    have z150 : q_ir (q_r f119 mo 17) pa := Eq.trans (hF.r hmo (by rw [kmo]; rfl)) z33
    have z151 : q_ir (q_r f119 mo 18) nm := Eq.trans (hF.r hmo (by rw [kmo]; rfl)) z34
    have z152 : q_ir (q_r f119 mo 19) snm := Eq.trans (hF.r hmo (by rw [kmo]; rfl)) z35
    have z153 : q_ir (q_r f119 mo 20) anm := Eq.trans (hF.r hmo (by rw [kmo]; rfl)) z36
    have z154 : q_ir (q_r f119 mo 24) hp := Eq.trans (hF.r hmo (by rw [kmo]; rfl)) z37
    have z155 : q_ir (q_r f119 mo 25) dy := Eq.trans (hF.r hmo (by rw [kmo]; rfl)) z38
    have z156 : q_ir (q_r f119 mo 29) cs := Eq.trans (hF.r hmo (by rw [kmo]; rfl)) z39
    have z157 : q_ir (q_r f119 mo 30) c1 := Eq.trans (hF.r hmo (by rw [kmo]; rfl)) z40
    have z158 : q_ir (q_r f119 mo 31) c2 := Eq.trans (hF.r hmo (by rw [kmo]; rfl)) z41
    have z159 : q_ir (q_r f119 mo 32) c3 := Eq.trans (hF.r hmo (by rw [kmo]; rfl)) z42
    have z160 : q_ir (q_r f119 mo 33) bg := Eq.trans (hF.r hmo (by rw [kmo]; rfl)) z43
    have z161 : q_ir (q_r f119 mo 34) lp := Eq.trans (hF.r hmo (by rw [kmo]; rfl)) z44
    have z162 : q_ir (q_r f119 mo 38) rp := Eq.trans (hF.r hmo (by rw [kmo]; rfl)) z45
    have g163 : q_z f119 x 9 = q_z f119 mo 22 := tk_s2_tr g47 (hF.z hx (by rw [kx]; rfl)) (hF.z hmo (by rw [kmo]; rfl))
    have g164 : q_sv f119 mo sd := q_sv_tr g49 (hF.z hmo (by rw [kmo]; rfl)) (fun i9 => hF.z hsd (by rw [ksd]; rfl))
    have g165 : tk_bb f119 bu ba tn := tk_bb_tr g50 (fun i9 => hF.z hbu (by rw [kbu]; rfl)) (fun i9 => hF.z hba (by rw [kba]; rfl))
    have g166 : tk_ij K L f119 nds := tk_ij_tr g51 (fun i9 => hF.r hnds (by rw [knds]; rfl))
    have g167 : tk_vs K L f119 x sv nsv ls9 := tk_vs_tr g52 (hF.z hx (by rw [kx]; rfl)) (hF.z hsv (by rw [ksv]; rfl)) (fun a9 h9 k9 => hF.j h9 (by rw [k9]; rfl)) (fun i9 => hF.r hnsv (by rw [knsv]; rfl))
    have g168 : tk_nq f119 nm nl9 := tk_nq_tr g53 (fun i9 => hF.j hnm (by rw [knm]; rfl))
    have g169 : tk_rs f119 mo sd snm ls9 := tk_rs_tr g54 (hF.z hmo (by rw [kmo]; rfl)) (fun i9 h9 k9 => hF.z hsd (by rw [ksd]; exact q_inWr rfl h9 k9)) (fun i9 => hF.j hsnm (by rw [ksnm]; rfl))
    have g170 : tk_vn K L 5 f119 now ndn nl9 := tk_vn_tr g6 (hF.z hnow (by rw [know]; rfl)) (fun a9 h9 k9 => hF.j h9 (by rw [k9]; rfl)) (fun i9 => hF.r hndn (by rw [kndn]; rfl))
    have g171 : tk_vk K L f119 hist ka now ndn := tk_vk_tr g7 (hF.z hhist (by rw [khist]; rfl)) (hF.z hhist (by rw [khist]; rfl)) (hF.z hnow (by rw [know]; rfl)) (fun a9 h9 k9 => hF.j h9 (by rw [k9]; rfl)) (fun i9 => hF.r hndn (by rw [kndn]; rfl)) (fun a9 h9 k9 => hF.z h9 (by rw [k9]; rfl)) (fun a9 h9 k9 => hF.j h9 (by rw [k9]; rfl)) (fun i9 => hF.r hka (by rw [kka]; rfl)) (fun a9 h9 k9 => hF.r h9 (by rw [k9]; rfl)) (fun a9 h9 k9 i9 => hF.r h9 (by rw [k9]; rfl))
    obtain ⟨x172, ex172⟩ : ∃ zz, q_is (q_z f119 sr 3) zz := ⟨_, q_isr _⟩
    obtain ⟨lx172, ux172⟩ := q_isb ex172 ⟨lz122, uz122⟩
    obtain ⟨x173, ex173⟩ : ∃ zz, q_is (q_z f119 sr 4) zz := ⟨_, q_isr _⟩
    obtain ⟨lx173, ux173⟩ := q_isb ex173 ⟨lz123, uz123⟩
    refine lv_pop cx.1 cx.2.1 dL_law_1488 rfl ?_
    refine lv_goto (tgt := 1521) cx.1 cx.2.1 dL_law_1489 (by decide) ?_
    refine W.widen (k := cells + 6) (n := slots + 36) (by omega) (by omega) ?_
    exact kk f119 H locs ls tn nl9 ls9 xc hB ⟨⟨z128, (Eq.trans z129 (by omega)), by omega, by omega⟩, g125, g126, g164, q_isu ex172 (by omega), q_isu ex173 (by omega), tk_bb_le g165 (by omega), z124, by omega, g170, g171, g167, g168, g169, g127, g163⟩ (lv_sub hl [0, 1, 2, 3, 4, 5] rfl)
set_option maxHeartbeats 4000000 in
set_option maxRecDepth 100000 in
theorem law_c1492 {p : Program} {l : Launch} {e : Env} {s : State} {m : MethodId} {below : List Frame} {meth : Method} {c : Code} {b N9 : Nat} {xs : Nat → Int32} (hfl : l.stackTraces = false) (hN9 : N9 ≤ 3072) (C0 : lw_At p s m meth c b N9 xs) (cx : CallFix p m c cL_law 10 s #[Value.ref b] q_al RL) {g : q_G} {ad : Nat → Nat} {K : Nat → Nat} {L : List Nat} (hN : L.Nodup) (hLA : ∀ q, q ∈ L → s.heap.size ≤ q) (hX : q_X ad (fun q => q ∈ L) s) {f0 : Nat → va_E} {x : Nat} (hx : x ∈ L) (kx : K x = 11) {so : Nat} (hso : so ∈ L) (kso : K so = 8) {rd : Nat} (hrd : rd ∈ L) (krd : K rd = 9) {scr : Nat} (hscr : scr ∈ L) (kscr : K scr = 7) {fc : Nat} (hfc : fc ∈ L) (kfc : K fc = 1) {hist : Nat} (hhist : hist ∈ L) (khist : K hist = 2) {rep : Nat} (hrep : rep ∈ L) (krep : K rep = 6) {now : Nat} (hnow : now ∈ L) (know : K now = 10) {dr : Nat} (hdr : dr ∈ L) (kdr : K dr = 13) {sv : Nat} (hsv : sv ∈ L) (ksv : K sv = 14) {tr : Nat} (htr : tr ∈ L) (ktr : K tr = 15) {ba : Nat} (hba : ba ∈ L) (kba : K ba = 142) {nds : Nat} (hnds : nds ∈ L) (knds : K nds = 111) {ka : Nat} (hka : ka ∈ L) (kka : K ka = 140) {ndn : Nat} (hndn : ndn ∈ L) (kndn : K ndn = 110) {nsv : Nat} (hnsv : nsv ∈ L) (knsv : K nsv = 112) {mo : Nat} (hmo : mo ∈ L) (kmo : K mo = 12) {bu : Nat} (hbu : bu ∈ L) (kbu : K bu = 150) {sr : Nat} (hsr : sr ∈ L) (ksr : K sr = 151) {sd : Nat} (hsd : sd ∈ L) (ksd : K sd = 152) {as : Nat} (has : as ∈ L) (kas : K as = 153) {aw : Nat} (haw : aw ∈ L) (kaw : K aw = 154) {pa : Nat} (hpa : pa ∈ L) (kpa : K pa = 155) {nm : Nat} (hnm : nm ∈ L) (knm : K nm = 156) {snm : Nat} (hsnm : snm ∈ L) (ksnm : K snm = 157) {anm : Nat} (hanm : anm ∈ L) (kanm : K anm = 158) {hp : Nat} (hhp : hp ∈ L) (khp : K hp = 159) {dy : Nat} (hdy : dy ∈ L) (kdy : K dy = 160) {cs : Nat} (hcs : cs ∈ L) (kcs : K cs = 161) {c1 : Nat} (hc1 : c1 ∈ L) (kc1 : K c1 = 162) {c2 : Nat} (hc2 : c2 ∈ L) (kc2 : K c2 = 163) {c3 : Nat} (hc3 : c3 ∈ L) (kc3 : K c3 = 164) {bg : Nat} (hbg : bg ∈ L) (kbg : K bg = 165) {lp : Nat} (hlp : lp ∈ L) (klp : K lp = 166) {rp : Nat} (hrp : rp ∈ L) (krp : K rp = 167) {out : Nat} (hout : out ∈ L) (kout : K out = 168) {outD : Nat} (houtD : outD ∈ L) (koutD : K outD = 169) (hr0 : q_ir (q_r f0 x 0) so) (hr1 : q_ir (q_r f0 x 1) rd) (hr2 : q_ir (q_r f0 x 2) scr) (hr3 : q_ir (q_r f0 x 3) fc) (hr4 : q_ir (q_r f0 x 4) hist) (hr5 : q_ir (q_r f0 x 5) rep) (hr6 : q_ir (q_r f0 x 6) now) (hr7 : q_ir (q_r f0 x 7) dr) (hr8 : q_ir (q_r f0 x 8) sv) (hr9 : q_ir (q_r f0 fc 0) tr) (hr10 : q_ir (q_r f0 so 0) ba) (hr11 : q_ir (q_r f0 dr 0) nds) (hr12 : q_ir (q_r f0 hist 0) ka) (hr13 : q_ir (q_r f0 now 0) ndn) (hr14 : q_ir (q_r f0 sv 0) nsv) (hr15 : q_ir (q_r f0 mo 1) bu) (hr16 : q_ir (q_r f0 mo 13) sr) (hr17 : q_ir (q_r f0 mo 14) sd) (hr18 : q_ir (q_r f0 mo 15) as) (hr19 : q_ir (q_r f0 mo 16) aw) (hr20 : q_ir (q_r f0 mo 17) pa) (hr21 : q_ir (q_r f0 mo 18) nm) (hr22 : q_ir (q_r f0 mo 19) snm) (hr23 : q_ir (q_r f0 mo 20) anm) (hr24 : q_ir (q_r f0 mo 24) hp) (hr25 : q_ir (q_r f0 mo 25) dy) (hr26 : q_ir (q_r f0 mo 29) cs) (hr27 : q_ir (q_r f0 mo 30) c1) (hr28 : q_ir (q_r f0 mo 31) c2) (hr29 : q_ir (q_r f0 mo 32) c3) (hr30 : q_ir (q_r f0 mo 33) bg) (hr31 : q_ir (q_r f0 mo 34) lp) (hr32 : q_ir (q_r f0 mo 38) rp) (hij : tk_ij K L f0 nds) {f : Nat → va_E} {H : Heap} {locs : List Loc} {ls : Array Slot} {cells slots : Nat} {ii tn : Int} {nl9 ls9 : List (List Int)} {xc : Int} (hB : q_B g K L (fun q => s.heap.size ≤ q) [(0, 0, 6), (2, 1, 2), (3, 0, 4), (4, 0, 7), (5, 0, 9), (6, 1, 1), (7, 1, 4), (8, 1, 9), (9, 0, 2), (10, 3, 15), (11, 9, 9), (12, 0, 0), (12, 2, 12), (12, 21, 23), (12, 26, 28), (12, 35, 37), (12, 39, 40), (13, 3, 15), (14, 3, 15), (15, 3, 15), (16, 3, 15), (17, 0, 9), (18, 0, 9), (19, 0, 9), (20, 0, 9), (21, 0, 4), (22, 0, 4), (23, 0, 4), (24, 0, 4), (25, 0, 7), (26, 0, 7), (27, 0, 7), (28, 0, 7), (142, 0, 599), (143, 0, 599), (150, 0, 599), (151, 0, 657), (152, 0, 657), (153, 0, 657), (154, 0, 657), (155, 0, 3947), (156, 0, 9), (157, 0, 9), (158, 0, 9), (159, 0, 9), (160, 0, 9), (161, 0, 59), (162, 0, 58), (163, 0, 58), (164, 0, 58), (165, 0, 1), (166, 0, 1), (167, 0, 479), (168, 0, 0), (169, 0, 0)] f0 f s H locs) (hI : q_Iv5 K L f x so mo sr pa sd bu ba now ndn hist ka sv nsv nm snm tn nl9 ls9 xc) (hl : lv_has ls 10 [(5, .int (q_i ii)), (4, .ref outD), (3, .ref out), (2, .ref mo), (1, .ref x), (0, .ref b)]) (hi0 : 0 ≤ ii) (hi6 : ii + 6 ≤ N9) (hce : cells + 6 ≤ 10000) (hse : slots + 36 ≤ 100000) (kk : ∀ (f1 : Nat → va_E) (H1 : Heap) (locs1 : List Loc) (ls1 : Array Slot) (tn1 : Int) (nl1 ls1_ : List (List Int)) (xc1 : Int), q_B g K L (fun q => s.heap.size ≤ q) [(0, 0, 6), (2, 1, 2), (3, 0, 4), (4, 0, 7), (5, 0, 9), (6, 1, 1), (7, 1, 4), (8, 1, 9), (9, 0, 2), (10, 3, 15), (11, 9, 9), (12, 0, 0), (12, 2, 12), (12, 21, 23), (12, 26, 28), (12, 35, 37), (12, 39, 40), (13, 3, 15), (14, 3, 15), (15, 3, 15), (16, 3, 15), (17, 0, 9), (18, 0, 9), (19, 0, 9), (20, 0, 9), (21, 0, 4), (22, 0, 4), (23, 0, 4), (24, 0, 4), (25, 0, 7), (26, 0, 7), (27, 0, 7), (28, 0, 7), (142, 0, 599), (143, 0, 599), (150, 0, 599), (151, 0, 657), (152, 0, 657), (153, 0, 657), (154, 0, 657), (155, 0, 3947), (156, 0, 9), (157, 0, 9), (158, 0, 9), (159, 0, 9), (160, 0, 9), (161, 0, 59), (162, 0, 58), (163, 0, 58), (164, 0, 58), (165, 0, 1), (166, 0, 1), (167, 0, 479), (168, 0, 0), (169, 0, 0)] f0 f1 s H1 locs1 → q_Iv5 K L f1 x so mo sr pa sd bu ba now ndn hist ka sv nsv nm snm tn1 nl1 ls1_ xc1 → lv_has ls1 10 [(5, .int (q_i ii)), (4, .ref outD), (3, .ref out), (2, .ref mo), (1, .ref x), (0, .ref b)] → W p l e room_1 s m #[Value.ref b] below meth c H1 locs1 (cells + 6) (slots + 36) (lw_Z below #[Value.ref b] s) (F0 m 1521 ls1 [])) : W p l e room_1 s m #[Value.ref b] below meth c H locs (cells) (slots) (lw_Z below #[Value.ref b] s) (F0 m 1492 ls []) := by
  have hXs := C0.2.2.2.2.2.2.1
  have hbl := C0.2.2.2.2.2.2.2.1
  have hbA := q_bA hbl
  obtain ⟨⟨hn0, hn1, ltn, utn⟩, hgr, hpk, hsd9, ht3, ht4, hbb, hsr0, hxc, hvn, hvk, hvs, hrn9, hrs9, hpc, hs22⟩ := hI
  have lxc : 0 ≤ xc := by omega
  have uxc : xc ≤ 10 := by have h7 := hvn.2.1.2; omega
  have hr0 : q_ir (q_r f x 0) so := Eq.trans (hB.2.2.r hx (by rw [kx]; rfl)) hr0
  have hr1 : q_ir (q_r f x 1) rd := Eq.trans (hB.2.2.r hx (by rw [kx]; rfl)) hr1
  have hr2 : q_ir (q_r f x 2) scr := Eq.trans (hB.2.2.r hx (by rw [kx]; rfl)) hr2
  have hr3 : q_ir (q_r f x 3) fc := Eq.trans (hB.2.2.r hx (by rw [kx]; rfl)) hr3
  have hr4 : q_ir (q_r f x 4) hist := Eq.trans (hB.2.2.r hx (by rw [kx]; rfl)) hr4
  have hr5 : q_ir (q_r f x 5) rep := Eq.trans (hB.2.2.r hx (by rw [kx]; rfl)) hr5
  have hr6 : q_ir (q_r f x 6) now := Eq.trans (hB.2.2.r hx (by rw [kx]; rfl)) hr6
  have hr7 : q_ir (q_r f x 7) dr := Eq.trans (hB.2.2.r hx (by rw [kx]; rfl)) hr7
  have hr8 : q_ir (q_r f x 8) sv := Eq.trans (hB.2.2.r hx (by rw [kx]; rfl)) hr8
  have hr9 : q_ir (q_r f fc 0) tr := Eq.trans (hB.2.2.r hfc (by rw [kfc]; rfl)) hr9
  have hr10 : q_ir (q_r f so 0) ba := Eq.trans (hB.2.2.r hso (by rw [kso]; rfl)) hr10
  have hr11 : q_ir (q_r f dr 0) nds := Eq.trans (hB.2.2.r hdr (by rw [kdr]; rfl)) hr11
  have hr12 : q_ir (q_r f hist 0) ka := Eq.trans (hB.2.2.r hhist (by rw [khist]; rfl)) hr12
  have hr13 : q_ir (q_r f now 0) ndn := Eq.trans (hB.2.2.r hnow (by rw [know]; rfl)) hr13
  have hr14 : q_ir (q_r f sv 0) nsv := Eq.trans (hB.2.2.r hsv (by rw [ksv]; rfl)) hr14
  have hr15 : q_ir (q_r f mo 1) bu := Eq.trans (hB.2.2.r hmo (by rw [kmo]; rfl)) hr15
  have hr16 : q_ir (q_r f mo 13) sr := Eq.trans (hB.2.2.r hmo (by rw [kmo]; rfl)) hr16
  have hr17 : q_ir (q_r f mo 14) sd := Eq.trans (hB.2.2.r hmo (by rw [kmo]; rfl)) hr17
  have hr18 : q_ir (q_r f mo 15) as := Eq.trans (hB.2.2.r hmo (by rw [kmo]; rfl)) hr18
  have hr19 : q_ir (q_r f mo 16) aw := Eq.trans (hB.2.2.r hmo (by rw [kmo]; rfl)) hr19
  have hr20 : q_ir (q_r f mo 17) pa := Eq.trans (hB.2.2.r hmo (by rw [kmo]; rfl)) hr20
  have hr21 : q_ir (q_r f mo 18) nm := Eq.trans (hB.2.2.r hmo (by rw [kmo]; rfl)) hr21
  have hr22 : q_ir (q_r f mo 19) snm := Eq.trans (hB.2.2.r hmo (by rw [kmo]; rfl)) hr22
  have hr23 : q_ir (q_r f mo 20) anm := Eq.trans (hB.2.2.r hmo (by rw [kmo]; rfl)) hr23
  have hr24 : q_ir (q_r f mo 24) hp := Eq.trans (hB.2.2.r hmo (by rw [kmo]; rfl)) hr24
  have hr25 : q_ir (q_r f mo 25) dy := Eq.trans (hB.2.2.r hmo (by rw [kmo]; rfl)) hr25
  have hr26 : q_ir (q_r f mo 29) cs := Eq.trans (hB.2.2.r hmo (by rw [kmo]; rfl)) hr26
  have hr27 : q_ir (q_r f mo 30) c1 := Eq.trans (hB.2.2.r hmo (by rw [kmo]; rfl)) hr27
  have hr28 : q_ir (q_r f mo 31) c2 := Eq.trans (hB.2.2.r hmo (by rw [kmo]; rfl)) hr28
  have hr29 : q_ir (q_r f mo 32) c3 := Eq.trans (hB.2.2.r hmo (by rw [kmo]; rfl)) hr29
  have hr30 : q_ir (q_r f mo 33) bg := Eq.trans (hB.2.2.r hmo (by rw [kmo]; rfl)) hr30
  have hr31 : q_ir (q_r f mo 34) lp := Eq.trans (hB.2.2.r hmo (by rw [kmo]; rfl)) hr31
  have hr32 : q_ir (q_r f mo 38) rp := Eq.trans (hB.2.2.r hmo (by rw [kmo]; rfl)) hr32
  have hij : tk_ij K L f nds := tk_ij_tr hij (fun i9 => hB.2.2.r hnds (by rw [knds]; rfl))
  obtain ⟨x1, ex1⟩ : ∃ zz, q_is (q_z f sr 3) zz := ⟨_, q_isr _⟩
  obtain ⟨lx1, ux1⟩ : 0 ≤ x1 ∧ x1 ≤ 9999 := q_isb ex1 ⟨(hgr 3 (by decide)).1, ht3⟩
  obtain ⟨x2, ex2⟩ : ∃ zz, q_is (q_z f sr 4) zz := ⟨_, q_isr _⟩
  obtain ⟨lx2, ux2⟩ : 0 ≤ x2 ∧ x2 ≤ 60 := q_isb ex2 ⟨(hgr 4 (by decide)).1, ht4⟩
  refine q_ald_n cx dL_law_1492 rfl (lv_at hl 4 rfl) ?_
  refine q_cVi (As := []) (rest := []) cx hB (fun q h => hLA q h) hN hx kx (by decide) rfl (f_xsave l g hN hB.2.1 nl9 ls9 x hx kx so hso kso rd hrd krd scr hscr kscr fc hfc kfc hist hhist khist rep hrep krep now hnow know dr hdr kdr sv hsv ksv tr htr ktr ba hba kba nds hnds knds ka hka kka ndn hndn kndn nsv hnsv knsv hr0 hr1 hr2 hr3 hr4 hr5 hr6 hr7 hr8 hr9 hr10 hr11 hr12 hr13 hr14 hvn hvs) q_cL_254 q_dX11_save ⟨by decide, by show cells + 0 ≤ 601024; omega, by show slots + 0 ≤ 7293034; omega⟩ rfl rfl hl.1 rfl (Nat.le_of_ble_eq_true rfl) dL_law_1493 (fun y4 H locs f3 ry4 h5 hF hB => ?_)
  obtain ⟨z6, g7⟩ := h5
  have z8 : q_is (q_z f3 so 1) tn := Eq.trans (hF.z hso (by rw [kso]; rfl)) hn0
  have z9 : q_is (q_z f3 mo 2) tn := Eq.trans (hF.z hmo (by rw [kmo]; rfl)) hn1
  have z10 : q_is (q_z f3 sr 0) xc := Eq.trans (hF.z hsr (by rw [ksr]; rfl)) hsr0
  have z11 : q_is (q_z f3 sr 3) x1 := Eq.trans (hF.z hsr (by rw [ksr]; rfl)) ex1
  have z12 : q_is (q_z f3 sr 4) x2 := Eq.trans (hF.z hsr (by rw [ksr]; rfl)) ex2
  have z13 : q_ir (q_r f3 x 0) so := Eq.trans (hF.r hx (by rw [kx]; rfl)) hr0
  have z14 : q_ir (q_r f3 x 1) rd := Eq.trans (hF.r hx (by rw [kx]; rfl)) hr1
  have z15 : q_ir (q_r f3 x 2) scr := Eq.trans (hF.r hx (by rw [kx]; rfl)) hr2
  have z16 : q_ir (q_r f3 x 3) fc := Eq.trans (hF.r hx (by rw [kx]; rfl)) hr3
  have z17 : q_ir (q_r f3 x 4) hist := Eq.trans (hF.r hx (by rw [kx]; rfl)) hr4
  have z18 : q_ir (q_r f3 x 5) rep := Eq.trans (hF.r hx (by rw [kx]; rfl)) hr5
  have z19 : q_ir (q_r f3 x 6) now := Eq.trans (hF.r hx (by rw [kx]; rfl)) hr6
  have z20 : q_ir (q_r f3 x 7) dr := Eq.trans (hF.r hx (by rw [kx]; rfl)) hr7
  have z21 : q_ir (q_r f3 x 8) sv := Eq.trans (hF.r hx (by rw [kx]; rfl)) hr8
  have z22 : q_ir (q_r f3 fc 0) tr := Eq.trans (hF.r hfc (by rw [kfc]; rfl)) hr9
  have z23 : q_ir (q_r f3 so 0) ba := Eq.trans (hF.r hso (by rw [kso]; rfl)) hr10
  have z24 : q_ir (q_r f3 dr 0) nds := Eq.trans (hF.r hdr (by rw [kdr]; rfl)) hr11
  have z25 : q_ir (q_r f3 hist 0) ka := Eq.trans (hF.r hhist (by rw [khist]; rfl)) hr12
  have z26 : q_ir (q_r f3 now 0) ndn := Eq.trans (hF.r hnow (by rw [know]; rfl)) hr13
  have z27 : q_ir (q_r f3 sv 0) nsv := Eq.trans (hF.r hsv (by rw [ksv]; rfl)) hr14
  have z28 : q_ir (q_r f3 mo 1) bu := Eq.trans (hF.r hmo (by rw [kmo]; rfl)) hr15
  have z29 : q_ir (q_r f3 mo 13) sr := Eq.trans (hF.r hmo (by rw [kmo]; rfl)) hr16
  have z30 : q_ir (q_r f3 mo 14) sd := Eq.trans (hF.r hmo (by rw [kmo]; rfl)) hr17
  have z31 : q_ir (q_r f3 mo 15) as := Eq.trans (hF.r hmo (by rw [kmo]; rfl)) hr18
  have z32 : q_ir (q_r f3 mo 16) aw := Eq.trans (hF.r hmo (by rw [kmo]; rfl)) hr19
  have z33 : q_ir (q_r f3 mo 17) pa := Eq.trans (hF.r hmo (by rw [kmo]; rfl)) hr20
  have z34 : q_ir (q_r f3 mo 18) nm := Eq.trans (hF.r hmo (by rw [kmo]; rfl)) hr21
  have z35 : q_ir (q_r f3 mo 19) snm := Eq.trans (hF.r hmo (by rw [kmo]; rfl)) hr22
  have z36 : q_ir (q_r f3 mo 20) anm := Eq.trans (hF.r hmo (by rw [kmo]; rfl)) hr23
  have z37 : q_ir (q_r f3 mo 24) hp := Eq.trans (hF.r hmo (by rw [kmo]; rfl)) hr24
  have z38 : q_ir (q_r f3 mo 25) dy := Eq.trans (hF.r hmo (by rw [kmo]; rfl)) hr25
  have z39 : q_ir (q_r f3 mo 29) cs := Eq.trans (hF.r hmo (by rw [kmo]; rfl)) hr26
  have z40 : q_ir (q_r f3 mo 30) c1 := Eq.trans (hF.r hmo (by rw [kmo]; rfl)) hr27
  have z41 : q_ir (q_r f3 mo 31) c2 := Eq.trans (hF.r hmo (by rw [kmo]; rfl)) hr28
  have z42 : q_ir (q_r f3 mo 32) c3 := Eq.trans (hF.r hmo (by rw [kmo]; rfl)) hr29
  have z43 : q_ir (q_r f3 mo 33) bg := Eq.trans (hF.r hmo (by rw [kmo]; rfl)) hr30
  have z44 : q_ir (q_r f3 mo 34) lp := Eq.trans (hF.r hmo (by rw [kmo]; rfl)) hr31
  have z45 : q_ir (q_r f3 mo 38) rp := Eq.trans (hF.r hmo (by rw [kmo]; rfl)) hr32
  have g46 : q_gr f3 sr := q_gr_fr hgr (fun i9 _ => hF.z hsr (by rw [ksr]; rfl))
  have g47 : q_pk f3 mo pa := q_pk_tr hpk (hF.z hmo (by rw [kmo]; rfl)) (fun i9 => hF.z hpa (by rw [kpa]; rfl))
  have g48 : q_sv f3 mo sd := q_sv_tr hsd9 (hF.z hmo (by rw [kmo]; rfl)) (fun i9 => hF.z hsd (by rw [ksd]; rfl))
  have g49 : tk_bb f3 bu ba tn := tk_bb_tr hbb (fun i9 => hF.z hbu (by rw [kbu]; rfl)) (fun i9 => hF.z hba (by rw [kba]; rfl))
  have g50 : tk_ij K L f3 nds := tk_ij_tr hij (fun i9 => hF.r hnds (by rw [knds]; rfl))
  have g51 : tk_vn K L 5 f3 now ndn nl9 := tk_vn_tr hvn (hF.z hnow (by rw [know]; rfl)) (fun a9 h9 k9 => hF.j h9 (by rw [k9]; rfl)) (fun i9 => hF.r hndn (by rw [kndn]; rfl))
  have g52 : tk_vk K L f3 hist ka now ndn := tk_vk_tr hvk (hF.z hhist (by rw [khist]; rfl)) (hF.z hhist (by rw [khist]; rfl)) (hF.z hnow (by rw [know]; rfl)) (fun a9 h9 k9 => hF.j h9 (by rw [k9]; rfl)) (fun i9 => hF.r hndn (by rw [kndn]; rfl)) (fun a9 h9 k9 => hF.z h9 (by rw [k9]; rfl)) (fun a9 h9 k9 => hF.j h9 (by rw [k9]; rfl)) (fun i9 => hF.r hka (by rw [kka]; rfl)) (fun a9 h9 k9 => hF.r h9 (by rw [k9]; rfl)) (fun a9 h9 k9 i9 => hF.r h9 (by rw [k9]; rfl))
  have g53 : tk_nq f3 nm nl9 := tk_nq_tr hrn9 (fun i9 => hF.j hnm (by rw [knm]; rfl))
  have g54 : tk_rs f3 mo sd snm ls9 := tk_rs_tr hrs9 (hF.z hmo (by rw [kmo]; rfl)) (fun i9 h9 k9 => hF.z hsd (by rw [ksd]; exact q_inWr rfl h9 k9)) (fun i9 => hF.j hsnm (by rw [ksnm]; rfl))
  have g55 : q_pc f3 mo pa xc := q_pc_tr hpc (hF.z hmo (by rw [kmo]; rfl)) (fun i9 => hF.z hpa (by rw [kpa]; rfl))
  refine lv_pop cx.1 cx.2.1 dL_law_1496 rfl ?_
  refine q_ald_n cx dL_law_1497 rfl (lv_at hl 3 rfl) ?_
  refine q_cVi (As := []) (rest := []) cx hB (fun q h => hLA q h) hN hmo kmo (by decide) rfl (f_msave l g hN hB.2.1 nl9 ls9 mo hmo kmo sr hsr ksr sd hsd ksd nm hnm knm snm hsnm ksnm x1 (by omega) (by omega) x2 (by omega) (by omega) xc (by omega) (by omega) z11 z12 z10 z29 z30 z34 z35 hxc g46 g53) q_cL_257 q_dX12_save ⟨by decide, by show cells + 0 ≤ 601024; omega, by show slots + 0 ≤ 7293034; omega⟩ rfl rfl hl.1 rfl (Nat.le_of_ble_eq_true rfl) dL_law_1498 (fun y57 H locs f56 ry57 h58 hF hB => ?_)
  obtain ⟨z59, g60, g61⟩ := h58
  have z62 : q_is (q_z f56 so 1) tn := Eq.trans (hF.z hso (by rw [kso]; rfl)) z8
  have z63 : q_is (q_z f56 mo 2) tn := Eq.trans (hF.z hmo (by rw [kmo]; rfl)) z9
  have z64 : q_is (q_z f56 sr 0) xc := Eq.trans (hF.z hsr (by rw [ksr]; rfl)) z10
  have z65 : q_is (q_z f56 sr 3) x1 := Eq.trans (hF.z hsr (by rw [ksr]; rfl)) z11
  have z66 : q_is (q_z f56 sr 4) x2 := Eq.trans (hF.z hsr (by rw [ksr]; rfl)) z12
  have z67 : q_is (q_z f56 x 9) 1 := Eq.trans (hF.z hx (by rw [kx]; rfl)) z6
  have z68 : q_ir (q_r f56 x 0) so := Eq.trans (hF.r hx (by rw [kx]; rfl)) z13
  have z69 : q_ir (q_r f56 x 1) rd := Eq.trans (hF.r hx (by rw [kx]; rfl)) z14
  have z70 : q_ir (q_r f56 x 2) scr := Eq.trans (hF.r hx (by rw [kx]; rfl)) z15
  have z71 : q_ir (q_r f56 x 3) fc := Eq.trans (hF.r hx (by rw [kx]; rfl)) z16
  have z72 : q_ir (q_r f56 x 4) hist := Eq.trans (hF.r hx (by rw [kx]; rfl)) z17
  have z73 : q_ir (q_r f56 x 5) rep := Eq.trans (hF.r hx (by rw [kx]; rfl)) z18
  have z74 : q_ir (q_r f56 x 6) now := Eq.trans (hF.r hx (by rw [kx]; rfl)) z19
  have z75 : q_ir (q_r f56 x 7) dr := Eq.trans (hF.r hx (by rw [kx]; rfl)) z20
  have z76 : q_ir (q_r f56 x 8) sv := Eq.trans (hF.r hx (by rw [kx]; rfl)) z21
  have z77 : q_ir (q_r f56 fc 0) tr := Eq.trans (hF.r hfc (by rw [kfc]; rfl)) z22
  have z78 : q_ir (q_r f56 so 0) ba := Eq.trans (hF.r hso (by rw [kso]; rfl)) z23
  have z79 : q_ir (q_r f56 dr 0) nds := Eq.trans (hF.r hdr (by rw [kdr]; rfl)) z24
  have z80 : q_ir (q_r f56 hist 0) ka := Eq.trans (hF.r hhist (by rw [khist]; rfl)) z25
  have z81 : q_ir (q_r f56 now 0) ndn := Eq.trans (hF.r hnow (by rw [know]; rfl)) z26
  have z82 : q_ir (q_r f56 sv 0) nsv := Eq.trans (hF.r hsv (by rw [ksv]; rfl)) z27
  have z83 : q_ir (q_r f56 mo 1) bu := Eq.trans (hF.r hmo (by rw [kmo]; rfl)) z28
  have z84 : q_ir (q_r f56 mo 13) sr := Eq.trans (hF.r hmo (by rw [kmo]; rfl)) z29
  have z85 : q_ir (q_r f56 mo 14) sd := Eq.trans (hF.r hmo (by rw [kmo]; rfl)) z30
  have z86 : q_ir (q_r f56 mo 15) as := Eq.trans (hF.r hmo (by rw [kmo]; rfl)) z31
  have z87 : q_ir (q_r f56 mo 16) aw := Eq.trans (hF.r hmo (by rw [kmo]; rfl)) z32
  have z88 : q_ir (q_r f56 mo 17) pa := Eq.trans (hF.r hmo (by rw [kmo]; rfl)) z33
  have z89 : q_ir (q_r f56 mo 18) nm := Eq.trans (hF.r hmo (by rw [kmo]; rfl)) z34
  have z90 : q_ir (q_r f56 mo 19) snm := Eq.trans (hF.r hmo (by rw [kmo]; rfl)) z35
  have z91 : q_ir (q_r f56 mo 20) anm := Eq.trans (hF.r hmo (by rw [kmo]; rfl)) z36
  have z92 : q_ir (q_r f56 mo 24) hp := Eq.trans (hF.r hmo (by rw [kmo]; rfl)) z37
  have z93 : q_ir (q_r f56 mo 25) dy := Eq.trans (hF.r hmo (by rw [kmo]; rfl)) z38
  have z94 : q_ir (q_r f56 mo 29) cs := Eq.trans (hF.r hmo (by rw [kmo]; rfl)) z39
  have z95 : q_ir (q_r f56 mo 30) c1 := Eq.trans (hF.r hmo (by rw [kmo]; rfl)) z40
  have z96 : q_ir (q_r f56 mo 31) c2 := Eq.trans (hF.r hmo (by rw [kmo]; rfl)) z41
  have z97 : q_ir (q_r f56 mo 32) c3 := Eq.trans (hF.r hmo (by rw [kmo]; rfl)) z42
  have z98 : q_ir (q_r f56 mo 33) bg := Eq.trans (hF.r hmo (by rw [kmo]; rfl)) z43
  have z99 : q_ir (q_r f56 mo 34) lp := Eq.trans (hF.r hmo (by rw [kmo]; rfl)) z44
  have z100 : q_ir (q_r f56 mo 38) rp := Eq.trans (hF.r hmo (by rw [kmo]; rfl)) z45
  have g101 : q_gr f56 sr := q_gr_fr g46 (fun i9 _ => hF.z hsr (by rw [ksr]; rfl))
  have g102 : q_pk f56 mo pa := q_pk_tr g47 (hF.z hmo (by rw [kmo]; rfl)) (fun i9 => hF.z hpa (by rw [kpa]; rfl))
  have g103 : tk_bb f56 bu ba tn := tk_bb_tr g49 (fun i9 => hF.z hbu (by rw [kbu]; rfl)) (fun i9 => hF.z hba (by rw [kba]; rfl))
  have g104 : tk_ij K L f56 nds := tk_ij_tr g50 (fun i9 => hF.r hnds (by rw [knds]; rfl))
  have g105 : tk_vn K L 5 f56 now ndn nl9 := tk_vn_tr g51 (hF.z hnow (by rw [know]; rfl)) (fun a9 h9 k9 => hF.j h9 (by rw [k9]; rfl)) (fun i9 => hF.r hndn (by rw [kndn]; rfl))
  have g106 : tk_vk K L f56 hist ka now ndn := tk_vk_tr g52 (hF.z hhist (by rw [khist]; rfl)) (hF.z hhist (by rw [khist]; rfl)) (hF.z hnow (by rw [know]; rfl)) (fun a9 h9 k9 => hF.j h9 (by rw [k9]; rfl)) (fun i9 => hF.r hndn (by rw [kndn]; rfl)) (fun a9 h9 k9 => hF.z h9 (by rw [k9]; rfl)) (fun a9 h9 k9 => hF.j h9 (by rw [k9]; rfl)) (fun i9 => hF.r hka (by rw [kka]; rfl)) (fun a9 h9 k9 => hF.r h9 (by rw [k9]; rfl)) (fun a9 h9 k9 i9 => hF.r h9 (by rw [k9]; rfl))
  have g107 : tk_nq f56 nm nl9 := tk_nq_tr g53 (fun i9 => hF.j hnm (by rw [knm]; rfl))
  have g108 : q_pc f56 mo pa xc := q_pc_tr g55 (hF.z hmo (by rw [kmo]; rfl)) (fun i9 => hF.z hpa (by rw [kpa]; rfl))
  have g109 : tk_vs K L f56 x sv nsv nl9 := tk_vs_tr g7 (hF.z hx (by rw [kx]; rfl)) (hF.z hsv (by rw [ksv]; rfl)) (fun a9 h9 k9 => hF.j h9 (by rw [k9]; rfl)) (fun i9 => hF.r hnsv (by rw [knsv]; rfl))
  refine lv_pop cx.1 cx.2.1 dL_law_1501 rfl ?_
  refine lv_goto (tgt := 1521) cx.1 cx.2.1 dL_law_1502 (by decide) ?_
  refine W.widen (k := cells + 6) (n := slots + 36) (by omega) (by omega) ?_
  exact kk f56 H locs ls tn nl9 nl9 xc hB ⟨⟨z62, (Eq.trans z63 (by omega)), by omega, by omega⟩, g101, g102, g60, q_isu z65 (by omega), q_isu z66 (by omega), tk_bb_le g103 (by omega), z64, by omega, g105, g106, g109, g107, g61, g108, (Eq.trans z67 (Eq.trans (by omega) (Eq.symm z59)))⟩ (lv_sub hl [0, 1, 2, 3, 4, 5] rfl)
set_option maxHeartbeats 4000000 in
set_option maxRecDepth 100000 in
theorem law_c1505 {p : Program} {l : Launch} {e : Env} {s : State} {m : MethodId} {below : List Frame} {meth : Method} {c : Code} {b N9 : Nat} {xs : Nat → Int32} (hfl : l.stackTraces = false) (hN9 : N9 ≤ 3072) (C0 : lw_At p s m meth c b N9 xs) (cx : CallFix p m c cL_law 10 s #[Value.ref b] q_al RL) {g : q_G} {ad : Nat → Nat} {K : Nat → Nat} {L : List Nat} (hN : L.Nodup) (hLA : ∀ q, q ∈ L → s.heap.size ≤ q) (hX : q_X ad (fun q => q ∈ L) s) {f0 : Nat → va_E} {x : Nat} (hx : x ∈ L) (kx : K x = 11) {so : Nat} (hso : so ∈ L) (kso : K so = 8) {rd : Nat} (hrd : rd ∈ L) (krd : K rd = 9) {scr : Nat} (hscr : scr ∈ L) (kscr : K scr = 7) {fc : Nat} (hfc : fc ∈ L) (kfc : K fc = 1) {hist : Nat} (hhist : hist ∈ L) (khist : K hist = 2) {rep : Nat} (hrep : rep ∈ L) (krep : K rep = 6) {now : Nat} (hnow : now ∈ L) (know : K now = 10) {dr : Nat} (hdr : dr ∈ L) (kdr : K dr = 13) {sv : Nat} (hsv : sv ∈ L) (ksv : K sv = 14) {tr : Nat} (htr : tr ∈ L) (ktr : K tr = 15) {ba : Nat} (hba : ba ∈ L) (kba : K ba = 142) {nds : Nat} (hnds : nds ∈ L) (knds : K nds = 111) {ka : Nat} (hka : ka ∈ L) (kka : K ka = 140) {ndn : Nat} (hndn : ndn ∈ L) (kndn : K ndn = 110) {nsv : Nat} (hnsv : nsv ∈ L) (knsv : K nsv = 112) {mo : Nat} (hmo : mo ∈ L) (kmo : K mo = 12) {bu : Nat} (hbu : bu ∈ L) (kbu : K bu = 150) {sr : Nat} (hsr : sr ∈ L) (ksr : K sr = 151) {sd : Nat} (hsd : sd ∈ L) (ksd : K sd = 152) {as : Nat} (has : as ∈ L) (kas : K as = 153) {aw : Nat} (haw : aw ∈ L) (kaw : K aw = 154) {pa : Nat} (hpa : pa ∈ L) (kpa : K pa = 155) {nm : Nat} (hnm : nm ∈ L) (knm : K nm = 156) {snm : Nat} (hsnm : snm ∈ L) (ksnm : K snm = 157) {anm : Nat} (hanm : anm ∈ L) (kanm : K anm = 158) {hp : Nat} (hhp : hp ∈ L) (khp : K hp = 159) {dy : Nat} (hdy : dy ∈ L) (kdy : K dy = 160) {cs : Nat} (hcs : cs ∈ L) (kcs : K cs = 161) {c1 : Nat} (hc1 : c1 ∈ L) (kc1 : K c1 = 162) {c2 : Nat} (hc2 : c2 ∈ L) (kc2 : K c2 = 163) {c3 : Nat} (hc3 : c3 ∈ L) (kc3 : K c3 = 164) {bg : Nat} (hbg : bg ∈ L) (kbg : K bg = 165) {lp : Nat} (hlp : lp ∈ L) (klp : K lp = 166) {rp : Nat} (hrp : rp ∈ L) (krp : K rp = 167) {out : Nat} (hout : out ∈ L) (kout : K out = 168) {outD : Nat} (houtD : outD ∈ L) (koutD : K outD = 169) (hr0 : q_ir (q_r f0 x 0) so) (hr1 : q_ir (q_r f0 x 1) rd) (hr2 : q_ir (q_r f0 x 2) scr) (hr3 : q_ir (q_r f0 x 3) fc) (hr4 : q_ir (q_r f0 x 4) hist) (hr5 : q_ir (q_r f0 x 5) rep) (hr6 : q_ir (q_r f0 x 6) now) (hr7 : q_ir (q_r f0 x 7) dr) (hr8 : q_ir (q_r f0 x 8) sv) (hr9 : q_ir (q_r f0 fc 0) tr) (hr10 : q_ir (q_r f0 so 0) ba) (hr11 : q_ir (q_r f0 dr 0) nds) (hr12 : q_ir (q_r f0 hist 0) ka) (hr13 : q_ir (q_r f0 now 0) ndn) (hr14 : q_ir (q_r f0 sv 0) nsv) (hr15 : q_ir (q_r f0 mo 1) bu) (hr16 : q_ir (q_r f0 mo 13) sr) (hr17 : q_ir (q_r f0 mo 14) sd) (hr18 : q_ir (q_r f0 mo 15) as) (hr19 : q_ir (q_r f0 mo 16) aw) (hr20 : q_ir (q_r f0 mo 17) pa) (hr21 : q_ir (q_r f0 mo 18) nm) (hr22 : q_ir (q_r f0 mo 19) snm) (hr23 : q_ir (q_r f0 mo 20) anm) (hr24 : q_ir (q_r f0 mo 24) hp) (hr25 : q_ir (q_r f0 mo 25) dy) (hr26 : q_ir (q_r f0 mo 29) cs) (hr27 : q_ir (q_r f0 mo 30) c1) (hr28 : q_ir (q_r f0 mo 31) c2) (hr29 : q_ir (q_r f0 mo 32) c3) (hr30 : q_ir (q_r f0 mo 33) bg) (hr31 : q_ir (q_r f0 mo 34) lp) (hr32 : q_ir (q_r f0 mo 38) rp) (hij : tk_ij K L f0 nds) {f : Nat → va_E} {H : Heap} {locs : List Loc} {ls : Array Slot} {cells slots : Nat} {ii tn : Int} {nl9 ls9 : List (List Int)} {xc : Int} (hB : q_B g K L (fun q => s.heap.size ≤ q) [(0, 0, 6), (2, 1, 2), (3, 0, 4), (4, 0, 7), (5, 0, 9), (6, 1, 1), (7, 1, 4), (8, 1, 9), (9, 0, 2), (10, 3, 15), (11, 9, 9), (12, 0, 0), (12, 2, 12), (12, 21, 23), (12, 26, 28), (12, 35, 37), (12, 39, 40), (13, 3, 15), (14, 3, 15), (15, 3, 15), (16, 3, 15), (17, 0, 9), (18, 0, 9), (19, 0, 9), (20, 0, 9), (21, 0, 4), (22, 0, 4), (23, 0, 4), (24, 0, 4), (25, 0, 7), (26, 0, 7), (27, 0, 7), (28, 0, 7), (142, 0, 599), (143, 0, 599), (150, 0, 599), (151, 0, 657), (152, 0, 657), (153, 0, 657), (154, 0, 657), (155, 0, 3947), (156, 0, 9), (157, 0, 9), (158, 0, 9), (159, 0, 9), (160, 0, 9), (161, 0, 59), (162, 0, 58), (163, 0, 58), (164, 0, 58), (165, 0, 1), (166, 0, 1), (167, 0, 479), (168, 0, 0), (169, 0, 0)] f0 f s H locs) (hI : q_Iv5 K L f x so mo sr pa sd bu ba now ndn hist ka sv nsv nm snm tn nl9 ls9 xc) (hl : lv_has ls 10 [(5, .int (q_i ii)), (4, .ref outD), (3, .ref out), (2, .ref mo), (1, .ref x), (0, .ref b)]) (hi0 : 0 ≤ ii) (hi6 : ii + 6 ≤ N9) (hce : cells + 6 ≤ 10000) (hse : slots + 36 ≤ 100000) (kk : ∀ (f1 : Nat → va_E) (H1 : Heap) (locs1 : List Loc) (ls1 : Array Slot) (tn1 : Int) (nl1 ls1_ : List (List Int)) (xc1 : Int), q_B g K L (fun q => s.heap.size ≤ q) [(0, 0, 6), (2, 1, 2), (3, 0, 4), (4, 0, 7), (5, 0, 9), (6, 1, 1), (7, 1, 4), (8, 1, 9), (9, 0, 2), (10, 3, 15), (11, 9, 9), (12, 0, 0), (12, 2, 12), (12, 21, 23), (12, 26, 28), (12, 35, 37), (12, 39, 40), (13, 3, 15), (14, 3, 15), (15, 3, 15), (16, 3, 15), (17, 0, 9), (18, 0, 9), (19, 0, 9), (20, 0, 9), (21, 0, 4), (22, 0, 4), (23, 0, 4), (24, 0, 4), (25, 0, 7), (26, 0, 7), (27, 0, 7), (28, 0, 7), (142, 0, 599), (143, 0, 599), (150, 0, 599), (151, 0, 657), (152, 0, 657), (153, 0, 657), (154, 0, 657), (155, 0, 3947), (156, 0, 9), (157, 0, 9), (158, 0, 9), (159, 0, 9), (160, 0, 9), (161, 0, 59), (162, 0, 58), (163, 0, 58), (164, 0, 58), (165, 0, 1), (166, 0, 1), (167, 0, 479), (168, 0, 0), (169, 0, 0)] f0 f1 s H1 locs1 → q_Iv5 K L f1 x so mo sr pa sd bu ba now ndn hist ka sv nsv nm snm tn1 nl1 ls1_ xc1 → lv_has ls1 10 [(5, .int (q_i ii)), (4, .ref outD), (3, .ref out), (2, .ref mo), (1, .ref x), (0, .ref b)] → W p l e room_1 s m #[Value.ref b] below meth c H1 locs1 (cells + 6) (slots + 36) (lw_Z below #[Value.ref b] s) (F0 m 1521 ls1 [])) : W p l e room_1 s m #[Value.ref b] below meth c H locs (cells) (slots) (lw_Z below #[Value.ref b] s) (F0 m 1505 ls []) := by
  have hXs := C0.2.2.2.2.2.2.1
  have hbl := C0.2.2.2.2.2.2.2.1
  have hbA := q_bA hbl
  obtain ⟨⟨hn0, hn1, ltn, utn⟩, hgr, hpk, hsd9, ht3, ht4, hbb, hsr0, hxc, hvn, hvk, hvs, hrn9, hrs9, hpc, hs22⟩ := hI
  have lxc : 0 ≤ xc := by omega
  have uxc : xc ≤ 10 := by have h7 := hvn.2.1.2; omega
  have hr0 : q_ir (q_r f x 0) so := Eq.trans (hB.2.2.r hx (by rw [kx]; rfl)) hr0
  have hr1 : q_ir (q_r f x 1) rd := Eq.trans (hB.2.2.r hx (by rw [kx]; rfl)) hr1
  have hr2 : q_ir (q_r f x 2) scr := Eq.trans (hB.2.2.r hx (by rw [kx]; rfl)) hr2
  have hr3 : q_ir (q_r f x 3) fc := Eq.trans (hB.2.2.r hx (by rw [kx]; rfl)) hr3
  have hr4 : q_ir (q_r f x 4) hist := Eq.trans (hB.2.2.r hx (by rw [kx]; rfl)) hr4
  have hr5 : q_ir (q_r f x 5) rep := Eq.trans (hB.2.2.r hx (by rw [kx]; rfl)) hr5
  have hr6 : q_ir (q_r f x 6) now := Eq.trans (hB.2.2.r hx (by rw [kx]; rfl)) hr6
  have hr7 : q_ir (q_r f x 7) dr := Eq.trans (hB.2.2.r hx (by rw [kx]; rfl)) hr7
  have hr8 : q_ir (q_r f x 8) sv := Eq.trans (hB.2.2.r hx (by rw [kx]; rfl)) hr8
  have hr9 : q_ir (q_r f fc 0) tr := Eq.trans (hB.2.2.r hfc (by rw [kfc]; rfl)) hr9
  have hr10 : q_ir (q_r f so 0) ba := Eq.trans (hB.2.2.r hso (by rw [kso]; rfl)) hr10
  have hr11 : q_ir (q_r f dr 0) nds := Eq.trans (hB.2.2.r hdr (by rw [kdr]; rfl)) hr11
  have hr12 : q_ir (q_r f hist 0) ka := Eq.trans (hB.2.2.r hhist (by rw [khist]; rfl)) hr12
  have hr13 : q_ir (q_r f now 0) ndn := Eq.trans (hB.2.2.r hnow (by rw [know]; rfl)) hr13
  have hr14 : q_ir (q_r f sv 0) nsv := Eq.trans (hB.2.2.r hsv (by rw [ksv]; rfl)) hr14
  have hr15 : q_ir (q_r f mo 1) bu := Eq.trans (hB.2.2.r hmo (by rw [kmo]; rfl)) hr15
  have hr16 : q_ir (q_r f mo 13) sr := Eq.trans (hB.2.2.r hmo (by rw [kmo]; rfl)) hr16
  have hr17 : q_ir (q_r f mo 14) sd := Eq.trans (hB.2.2.r hmo (by rw [kmo]; rfl)) hr17
  have hr18 : q_ir (q_r f mo 15) as := Eq.trans (hB.2.2.r hmo (by rw [kmo]; rfl)) hr18
  have hr19 : q_ir (q_r f mo 16) aw := Eq.trans (hB.2.2.r hmo (by rw [kmo]; rfl)) hr19
  have hr20 : q_ir (q_r f mo 17) pa := Eq.trans (hB.2.2.r hmo (by rw [kmo]; rfl)) hr20
  have hr21 : q_ir (q_r f mo 18) nm := Eq.trans (hB.2.2.r hmo (by rw [kmo]; rfl)) hr21
  have hr22 : q_ir (q_r f mo 19) snm := Eq.trans (hB.2.2.r hmo (by rw [kmo]; rfl)) hr22
  have hr23 : q_ir (q_r f mo 20) anm := Eq.trans (hB.2.2.r hmo (by rw [kmo]; rfl)) hr23
  have hr24 : q_ir (q_r f mo 24) hp := Eq.trans (hB.2.2.r hmo (by rw [kmo]; rfl)) hr24
  have hr25 : q_ir (q_r f mo 25) dy := Eq.trans (hB.2.2.r hmo (by rw [kmo]; rfl)) hr25
  have hr26 : q_ir (q_r f mo 29) cs := Eq.trans (hB.2.2.r hmo (by rw [kmo]; rfl)) hr26
  have hr27 : q_ir (q_r f mo 30) c1 := Eq.trans (hB.2.2.r hmo (by rw [kmo]; rfl)) hr27
  have hr28 : q_ir (q_r f mo 31) c2 := Eq.trans (hB.2.2.r hmo (by rw [kmo]; rfl)) hr28
  have hr29 : q_ir (q_r f mo 32) c3 := Eq.trans (hB.2.2.r hmo (by rw [kmo]; rfl)) hr29
  have hr30 : q_ir (q_r f mo 33) bg := Eq.trans (hB.2.2.r hmo (by rw [kmo]; rfl)) hr30
  have hr31 : q_ir (q_r f mo 34) lp := Eq.trans (hB.2.2.r hmo (by rw [kmo]; rfl)) hr31
  have hr32 : q_ir (q_r f mo 38) rp := Eq.trans (hB.2.2.r hmo (by rw [kmo]; rfl)) hr32
  have hij : tk_ij K L f nds := tk_ij_tr hij (fun i9 => hB.2.2.r hnds (by rw [knds]; rfl))
  obtain ⟨x1, ex1⟩ : ∃ zz, q_is (q_z f mo 22) zz := ⟨_, q_isr _⟩
  obtain ⟨lx1, ux1⟩ := q_isb ex1 (q_fib hB.2.1 hmo kmo (by decide) rfl)
  obtain ⟨x2, ex2⟩ : ∃ zz, q_is (q_z f sr 3) zz := ⟨_, q_isr _⟩
  obtain ⟨lx2, ux2⟩ : 0 ≤ x2 ∧ x2 ≤ 9999 := q_isb ex2 ⟨(hgr 3 (by decide)).1, ht3⟩
  obtain ⟨x3, ex3⟩ : ∃ zz, q_is (q_z f sr 4) zz := ⟨_, q_isr _⟩
  obtain ⟨lx3, ux3⟩ : 0 ≤ x3 ∧ x3 ≤ 60 := q_isb ex3 ⟨(hgr 4 (by decide)).1, ht4⟩
  refine q_ald_n cx dL_law_1505 rfl (lv_at hl 4 rfl) ?_
  refine q_ald_n cx dL_law_1506 rfl (lv_at hl 2 rfl) ?_
  refine q_cWS (As := [.ref x, .ref out]) (rest := []) cx hX hB (fun q h => hLA q h) (fun q h1 h2 => absurd h1 (Nat.not_le_of_lt h2)) hN (f_wrestore l g ad hN hB.2.1 hfl nl9 ls9 x hx kx out hout kout so hso kso rd hrd krd scr hscr kscr fc hfc kfc hist hhist khist rep hrep krep now hnow know dr hdr kdr sv hsv ksv tr htr ktr ba hba kba nds hnds knds ka hka kka ndn hndn kndn nsv hnsv knsv hr0 hr1 hr2 hr3 hr4 hr5 hr6 hr7 hr8 hr9 hr10 hr11 hr12 hr13 hr14 hvn hvk hvs) q_cL_258 q_dL_restore ⟨by decide, by show cells + 1 ≤ 601024; omega, by show slots + 6 ≤ 7293034; omega⟩ rfl rfl hl.1 rfl (Nat.le_of_ble_eq_true rfl) dL_law_1507 (fun v9 H locs f4 h6 hF hB => ?_)
  obtain ⟨y5, rfl, ry5, h6⟩ := h6
  refine W.eq (g2 := F0 m 1510 ls [.int (q_i y5)]) rfl ?_
  rcases h6 with h7 | h8
  · obtain ⟨qy5, t9, t10, g11, g12⟩ := h7
    have z13 : q_is (q_z f4 so 1) tn := Eq.trans (hF.z hso (by rw [kso]; rfl)) hn0
    have z14 : q_is (q_z f4 mo 2) tn := Eq.trans (hF.z hmo (by rw [kmo]; rfl)) hn1
    have z15 : q_is (q_z f4 sr 0) xc := Eq.trans (hF.z hsr (by rw [ksr]; rfl)) hsr0
    have z16 : q_is (q_z f4 mo 22) x1 := Eq.trans (hF.z hmo (by rw [kmo]; rfl)) ex1
    have z17 : q_is (q_z f4 sr 3) x2 := Eq.trans (hF.z hsr (by rw [ksr]; rfl)) ex2
    have z18 : q_is (q_z f4 sr 4) x3 := Eq.trans (hF.z hsr (by rw [ksr]; rfl)) ex3
    have z19 : q_ir (q_r f4 x 0) so := Eq.trans (hF.r hx (by rw [kx]; rfl)) hr0
    have z20 : q_ir (q_r f4 x 1) rd := Eq.trans (hF.r hx (by rw [kx]; rfl)) hr1
    have z21 : q_ir (q_r f4 x 2) scr := Eq.trans (hF.r hx (by rw [kx]; rfl)) hr2
    have z22 : q_ir (q_r f4 x 3) fc := Eq.trans (hF.r hx (by rw [kx]; rfl)) hr3
    have z23 : q_ir (q_r f4 x 4) hist := Eq.trans (hF.r hx (by rw [kx]; rfl)) hr4
    have z24 : q_ir (q_r f4 x 5) rep := Eq.trans (hF.r hx (by rw [kx]; rfl)) hr5
    have z25 : q_ir (q_r f4 x 6) now := Eq.trans (hF.r hx (by rw [kx]; rfl)) hr6
    have z26 : q_ir (q_r f4 x 7) dr := Eq.trans (hF.r hx (by rw [kx]; rfl)) hr7
    have z27 : q_ir (q_r f4 x 8) sv := Eq.trans (hF.r hx (by rw [kx]; rfl)) hr8
    have z28 : q_ir (q_r f4 fc 0) tr := Eq.trans (hF.r hfc (by rw [kfc]; rfl)) hr9
    have z29 : q_ir (q_r f4 so 0) ba := Eq.trans (hF.r hso (by rw [kso]; rfl)) hr10
    have z30 : q_ir (q_r f4 dr 0) nds := Eq.trans (hF.r hdr (by rw [kdr]; rfl)) hr11
    have z31 : q_ir (q_r f4 hist 0) ka := Eq.trans (hF.r hhist (by rw [khist]; rfl)) hr12
    have z32 : q_ir (q_r f4 now 0) ndn := Eq.trans (hF.r hnow (by rw [know]; rfl)) hr13
    have z33 : q_ir (q_r f4 sv 0) nsv := Eq.trans (hF.r hsv (by rw [ksv]; rfl)) hr14
    have z34 : q_ir (q_r f4 mo 1) bu := Eq.trans (hF.r hmo (by rw [kmo]; rfl)) hr15
    have z35 : q_ir (q_r f4 mo 13) sr := Eq.trans (hF.r hmo (by rw [kmo]; rfl)) hr16
    have z36 : q_ir (q_r f4 mo 14) sd := Eq.trans (hF.r hmo (by rw [kmo]; rfl)) hr17
    have z37 : q_ir (q_r f4 mo 15) as := Eq.trans (hF.r hmo (by rw [kmo]; rfl)) hr18
    have z38 : q_ir (q_r f4 mo 16) aw := Eq.trans (hF.r hmo (by rw [kmo]; rfl)) hr19
    have z39 : q_ir (q_r f4 mo 17) pa := Eq.trans (hF.r hmo (by rw [kmo]; rfl)) hr20
    have z40 : q_ir (q_r f4 mo 18) nm := Eq.trans (hF.r hmo (by rw [kmo]; rfl)) hr21
    have z41 : q_ir (q_r f4 mo 19) snm := Eq.trans (hF.r hmo (by rw [kmo]; rfl)) hr22
    have z42 : q_ir (q_r f4 mo 20) anm := Eq.trans (hF.r hmo (by rw [kmo]; rfl)) hr23
    have z43 : q_ir (q_r f4 mo 24) hp := Eq.trans (hF.r hmo (by rw [kmo]; rfl)) hr24
    have z44 : q_ir (q_r f4 mo 25) dy := Eq.trans (hF.r hmo (by rw [kmo]; rfl)) hr25
    have z45 : q_ir (q_r f4 mo 29) cs := Eq.trans (hF.r hmo (by rw [kmo]; rfl)) hr26
    have z46 : q_ir (q_r f4 mo 30) c1 := Eq.trans (hF.r hmo (by rw [kmo]; rfl)) hr27
    have z47 : q_ir (q_r f4 mo 31) c2 := Eq.trans (hF.r hmo (by rw [kmo]; rfl)) hr28
    have z48 : q_ir (q_r f4 mo 32) c3 := Eq.trans (hF.r hmo (by rw [kmo]; rfl)) hr29
    have z49 : q_ir (q_r f4 mo 33) bg := Eq.trans (hF.r hmo (by rw [kmo]; rfl)) hr30
    have z50 : q_ir (q_r f4 mo 34) lp := Eq.trans (hF.r hmo (by rw [kmo]; rfl)) hr31
    have z51 : q_ir (q_r f4 mo 38) rp := Eq.trans (hF.r hmo (by rw [kmo]; rfl)) hr32
    have g52 : q_gr f4 sr := q_gr_fr hgr (fun i9 _ => hF.z hsr (by rw [ksr]; rfl))
    have g53 : q_z f4 x 9 = q_z f4 mo 22 := tk_s2_tr hs22 (hF.z hx (by rw [kx]; rfl)) (hF.z hmo (by rw [kmo]; rfl))
    have g54 : q_pk f4 mo pa := q_pk_tr hpk (hF.z hmo (by rw [kmo]; rfl)) (fun i9 => hF.z hpa (by rw [kpa]; rfl))
    have g55 : q_sv f4 mo sd := q_sv_tr hsd9 (hF.z hmo (by rw [kmo]; rfl)) (fun i9 => hF.z hsd (by rw [ksd]; rfl))
    have g56 : tk_bb f4 bu ba tn := tk_bb_tr hbb (fun i9 => hF.z hbu (by rw [kbu]; rfl)) (fun i9 => hF.z hba (by rw [kba]; rfl))
    have g57 : tk_ij K L f4 nds := tk_ij_tr hij (fun i9 => hF.r hnds (by rw [knds]; rfl))
    have g58 : tk_vs K L f4 x sv nsv ls9 := tk_vs_tr hvs (hF.z hx (by rw [kx]; rfl)) (hF.z hsv (by rw [ksv]; rfl)) (fun a9 h9 k9 => hF.j h9 (by rw [k9]; rfl)) (fun i9 => hF.r hnsv (by rw [knsv]; rfl))
    have g59 : tk_nq f4 nm nl9 := tk_nq_tr hrn9 (fun i9 => hF.j hnm (by rw [knm]; rfl))
    have g60 : tk_rs f4 mo sd snm ls9 := tk_rs_tr hrs9 (hF.z hmo (by rw [kmo]; rfl)) (fun i9 h9 k9 => hF.z hsd (by rw [ksd]; exact q_inWr rfl h9 k9)) (fun i9 => hF.j hsnm (by rw [ksnm]; rfl))
    have g61 : q_pc f4 mo pa xc := q_pc_tr hpc (hF.z hmo (by rw [kmo]; rfl)) (fun i9 => hF.z hpa (by rw [kpa]; rfl))
    subst qy5
    have hx9 : x1 = 1 := (Eq.trans (Eq.symm ex1) (hs22.symm.trans t9))
    refine lv_istore (lv' := [(6, .int (q_i 0)), (5, .int (q_i ii)), (4, .ref outD), (3, .ref out), (2, .ref mo), (1, .ref x), (0, .ref b)]) cx.1 cx.2.1 dL_law_1510 hl (by decide) rfl (fun ls hl => ?_)
    refine q_ald_n cx dL_law_1512 rfl (lv_at hl 4 rfl) ?_
    obtain ⟨x62, ex62⟩ : ∃ zz, q_is (q_z f4 sd 0) zz := ⟨_, q_isr _⟩
    obtain ⟨lx62, ux62⟩ : 0 ≤ x62 ∧ x62 ≤ 10 := q_isb ex62 (q_ai hB.2.1 hsd ksd (by decide) rfl (by decide) rfl)
    refine q_cVi (As := []) (rest := []) cx hB (fun q h => hLA q h) hN hmo kmo (by decide) rfl (f_mrestore l g hN hB.2.1 ls9 mo hmo kmo sr hsr ksr sd hsd ksd nm hnm knm snm hsnm ksnm pa hpa kpa x2 (by omega) (by omega) x3 (by omega) (by omega) x62 (by omega) (by omega) z17 z18 (Eq.trans z16 (by omega)) ex62 z35 z36 z40 z41 z39 g52 g54 g55 g60) q_cL_260 q_dX12_restore ⟨by decide, by show cells + 1 ≤ 601024; omega, by show slots + 6 ≤ 7293034; omega⟩ rfl rfl hl.1 rfl (Nat.le_of_ble_eq_true rfl) dL_law_1513 (fun y64 H locs f63 ry64 h65 hF hB => ?_)
    obtain ⟨lz66, uz66, lz67, uz67, z68, z69, z70, t71, t72, g73, g74⟩ := h65
    have z75 : q_is (q_z f63 so 1) tn := Eq.trans (hF.z hso (by rw [kso]; rfl)) z13
    have z76 : q_is (q_z f63 mo 2) tn := Eq.trans (hF.z hmo (by rw [kmo]; rfl)) z14
    have z77 : q_is (q_z f63 mo 22) x1 := Eq.trans (hF.z hmo (by rw [kmo]; rfl)) z16
    have z78 : q_is (q_z f63 sd 0) x62 := Eq.trans (hF.z hsd (by rw [ksd]; rfl)) ex62
    have z79 : q_ir (q_r f63 x 0) so := Eq.trans (hF.r hx (by rw [kx]; rfl)) z19
    have z80 : q_ir (q_r f63 x 1) rd := Eq.trans (hF.r hx (by rw [kx]; rfl)) z20
    have z81 : q_ir (q_r f63 x 2) scr := Eq.trans (hF.r hx (by rw [kx]; rfl)) z21
    have z82 : q_ir (q_r f63 x 3) fc := Eq.trans (hF.r hx (by rw [kx]; rfl)) z22
    have z83 : q_ir (q_r f63 x 4) hist := Eq.trans (hF.r hx (by rw [kx]; rfl)) z23
    have z84 : q_ir (q_r f63 x 5) rep := Eq.trans (hF.r hx (by rw [kx]; rfl)) z24
    have z85 : q_ir (q_r f63 x 6) now := Eq.trans (hF.r hx (by rw [kx]; rfl)) z25
    have z86 : q_ir (q_r f63 x 7) dr := Eq.trans (hF.r hx (by rw [kx]; rfl)) z26
    have z87 : q_ir (q_r f63 x 8) sv := Eq.trans (hF.r hx (by rw [kx]; rfl)) z27
    have z88 : q_ir (q_r f63 fc 0) tr := Eq.trans (hF.r hfc (by rw [kfc]; rfl)) z28
    have z89 : q_ir (q_r f63 so 0) ba := Eq.trans (hF.r hso (by rw [kso]; rfl)) z29
    have z90 : q_ir (q_r f63 dr 0) nds := Eq.trans (hF.r hdr (by rw [kdr]; rfl)) z30
    have z91 : q_ir (q_r f63 hist 0) ka := Eq.trans (hF.r hhist (by rw [khist]; rfl)) z31
    have z92 : q_ir (q_r f63 now 0) ndn := Eq.trans (hF.r hnow (by rw [know]; rfl)) z32
    have z93 : q_ir (q_r f63 sv 0) nsv := Eq.trans (hF.r hsv (by rw [ksv]; rfl)) z33
    have z94 : q_ir (q_r f63 mo 1) bu := Eq.trans (hF.r hmo (by rw [kmo]; rfl)) z34
    have z95 : q_ir (q_r f63 mo 13) sr := Eq.trans (hF.r hmo (by rw [kmo]; rfl)) z35
    have z96 : q_ir (q_r f63 mo 14) sd := Eq.trans (hF.r hmo (by rw [kmo]; rfl)) z36
    have z97 : q_ir (q_r f63 mo 15) as := Eq.trans (hF.r hmo (by rw [kmo]; rfl)) z37
    have z98 : q_ir (q_r f63 mo 16) aw := Eq.trans (hF.r hmo (by rw [kmo]; rfl)) z38
    have z99 : q_ir (q_r f63 mo 17) pa := Eq.trans (hF.r hmo (by rw [kmo]; rfl)) z39
    have z100 : q_ir (q_r f63 mo 18) nm := Eq.trans (hF.r hmo (by rw [kmo]; rfl)) z40
    have z101 : q_ir (q_r f63 mo 19) snm := Eq.trans (hF.r hmo (by rw [kmo]; rfl)) z41
    have z102 : q_ir (q_r f63 mo 20) anm := Eq.trans (hF.r hmo (by rw [kmo]; rfl)) z42
    have z103 : q_ir (q_r f63 mo 24) hp := Eq.trans (hF.r hmo (by rw [kmo]; rfl)) z43
    have z104 : q_ir (q_r f63 mo 25) dy := Eq.trans (hF.r hmo (by rw [kmo]; rfl)) z44
    have z105 : q_ir (q_r f63 mo 29) cs := Eq.trans (hF.r hmo (by rw [kmo]; rfl)) z45
    have z106 : q_ir (q_r f63 mo 30) c1 := Eq.trans (hF.r hmo (by rw [kmo]; rfl)) z46
    have z107 : q_ir (q_r f63 mo 31) c2 := Eq.trans (hF.r hmo (by rw [kmo]; rfl)) z47
    have z108 : q_ir (q_r f63 mo 32) c3 := Eq.trans (hF.r hmo (by rw [kmo]; rfl)) z48
    have z109 : q_ir (q_r f63 mo 33) bg := Eq.trans (hF.r hmo (by rw [kmo]; rfl)) z49
    have z110 : q_ir (q_r f63 mo 34) lp := Eq.trans (hF.r hmo (by rw [kmo]; rfl)) z50
    have z111 : q_ir (q_r f63 mo 38) rp := Eq.trans (hF.r hmo (by rw [kmo]; rfl)) z51
    have g112 : q_z f63 x 9 = q_z f63 mo 22 := tk_s2_tr g53 (hF.z hx (by rw [kx]; rfl)) (hF.z hmo (by rw [kmo]; rfl))
    have g113 : q_sv f63 mo sd := q_sv_tr g55 (hF.z hmo (by rw [kmo]; rfl)) (fun i9 => hF.z hsd (by rw [ksd]; rfl))
    have g114 : tk_bb f63 bu ba tn := tk_bb_tr g56 (fun i9 => hF.z hbu (by rw [kbu]; rfl)) (fun i9 => hF.z hba (by rw [kba]; rfl))
    have g115 : tk_ij K L f63 nds := tk_ij_tr g57 (fun i9 => hF.r hnds (by rw [knds]; rfl))
    have g116 : tk_vs K L f63 x sv nsv ls9 := tk_vs_tr g12 (hF.z hx (by rw [kx]; rfl)) (hF.z hsv (by rw [ksv]; rfl)) (fun a9 h9 k9 => hF.j h9 (by rw [k9]; rfl)) (fun i9 => hF.r hnsv (by rw [knsv]; rfl))
    have g117 : tk_rs f63 mo sd snm ls9 := tk_rs_tr g60 (hF.z hmo (by rw [kmo]; rfl)) (fun i9 h9 k9 => hF.z hsd (by rw [ksd]; exact q_inWr rfl h9 k9)) (fun i9 => hF.j hsnm (by rw [ksnm]; rfl))
    have g118 : tk_vk K L f63 hist ka now ndn := tk_vk_tr g11 (hF.z hhist (by rw [khist]; rfl)) (hF.z hhist (by rw [khist]; rfl)) (hF.z hnow (by rw [know]; rfl)) (fun a9 h9 k9 => hF.j h9 (by rw [k9]; rfl)) (fun i9 => hF.r hndn (by rw [kndn]; rfl)) (fun a9 h9 k9 => hF.z h9 (by rw [k9]; rfl)) (fun a9 h9 k9 => hF.j h9 (by rw [k9]; rfl)) (fun i9 => hF.r hka (by rw [kka]; rfl)) (fun a9 h9 k9 => hF.r h9 (by rw [k9]; rfl)) (fun a9 h9 k9 i9 => hF.r h9 (by rw [k9]; rfl))
    have g119 : tk_vn K L 5 f63 now ndn ls9 := tk_vn_tr t10 (hF.z hnow (by rw [know]; rfl)) (fun a9 h9 k9 => hF.j h9 (by rw [k9]; rfl)) (fun i9 => hF.r hndn (by rw [kndn]; rfl))
    obtain ⟨x120, ex120⟩ : ∃ zz, q_is (q_z f63 sr 3) zz := ⟨_, q_isr _⟩
    obtain ⟨lx120, ux120⟩ := q_isb ex120 ⟨lz66, uz66⟩
    obtain ⟨x121, ex121⟩ : ∃ zz, q_is (q_z f63 sr 4) zz := ⟨_, q_isr _⟩
    obtain ⟨lx121, ux121⟩ := q_isb ex121 ⟨lz67, uz67⟩
    have hxc9 : (ls9.length : Int) = x62 := t72
    have hpc9 : q_pc f63 mo pa x62 := k_pc0 z70
    refine lv_istore (lv' := [(7, .int (q_i y64)), (6, .int (q_i 0)), (5, .int (q_i ii)), (4, .ref outD), (3, .ref out), (2, .ref mo), (1, .ref x), (0, .ref b)]) cx.1 cx.2.1 dL_law_1516 hl (by decide) rfl (fun ls hl => ?_)
    refine lv_goto (tgt := 1521) cx.1 cx.2.1 dL_law_1518 (by decide) ?_
    refine W.widen (k := cells + 6) (n := slots + 36) (by omega) (by omega) ?_
    exact kk f63 H locs ls tn ls9 ls9 x62 hB ⟨⟨z75, (Eq.trans z76 (by omega)), by omega, by omega⟩, g73, g74, g113, q_isu ex120 (by omega), q_isu ex121 (by omega), tk_bb_le g114 (by omega), z68, by omega, g119, g118, g116, t71, g117, hpc9, g112⟩ (lv_sub hl [2, 3, 4, 5, 6, 7] rfl)
  · obtain ⟨qy5, t122, t123, g124, g125⟩ := h8
    have z126 : q_is (q_z f4 so 1) tn := Eq.trans (hF.z hso (by rw [kso]; rfl)) hn0
    have z127 : q_is (q_z f4 mo 2) tn := Eq.trans (hF.z hmo (by rw [kmo]; rfl)) hn1
    have z128 : q_is (q_z f4 sr 0) xc := Eq.trans (hF.z hsr (by rw [ksr]; rfl)) hsr0
    have z129 : q_is (q_z f4 mo 22) x1 := Eq.trans (hF.z hmo (by rw [kmo]; rfl)) ex1
    have z130 : q_is (q_z f4 sr 3) x2 := Eq.trans (hF.z hsr (by rw [ksr]; rfl)) ex2
    have z131 : q_is (q_z f4 sr 4) x3 := Eq.trans (hF.z hsr (by rw [ksr]; rfl)) ex3
    have z132 : q_ir (q_r f4 x 0) so := Eq.trans (hF.r hx (by rw [kx]; rfl)) hr0
    have z133 : q_ir (q_r f4 x 1) rd := Eq.trans (hF.r hx (by rw [kx]; rfl)) hr1
    have z134 : q_ir (q_r f4 x 2) scr := Eq.trans (hF.r hx (by rw [kx]; rfl)) hr2
    have z135 : q_ir (q_r f4 x 3) fc := Eq.trans (hF.r hx (by rw [kx]; rfl)) hr3
    have z136 : q_ir (q_r f4 x 4) hist := Eq.trans (hF.r hx (by rw [kx]; rfl)) hr4
    have z137 : q_ir (q_r f4 x 5) rep := Eq.trans (hF.r hx (by rw [kx]; rfl)) hr5
    have z138 : q_ir (q_r f4 x 6) now := Eq.trans (hF.r hx (by rw [kx]; rfl)) hr6
    have z139 : q_ir (q_r f4 x 7) dr := Eq.trans (hF.r hx (by rw [kx]; rfl)) hr7
    have z140 : q_ir (q_r f4 x 8) sv := Eq.trans (hF.r hx (by rw [kx]; rfl)) hr8
    have z141 : q_ir (q_r f4 fc 0) tr := Eq.trans (hF.r hfc (by rw [kfc]; rfl)) hr9
    have z142 : q_ir (q_r f4 so 0) ba := Eq.trans (hF.r hso (by rw [kso]; rfl)) hr10
    have z143 : q_ir (q_r f4 dr 0) nds := Eq.trans (hF.r hdr (by rw [kdr]; rfl)) hr11
    have z144 : q_ir (q_r f4 hist 0) ka := Eq.trans (hF.r hhist (by rw [khist]; rfl)) hr12
    have z145 : q_ir (q_r f4 now 0) ndn := Eq.trans (hF.r hnow (by rw [know]; rfl)) hr13
    have z146 : q_ir (q_r f4 sv 0) nsv := Eq.trans (hF.r hsv (by rw [ksv]; rfl)) hr14
    have z147 : q_ir (q_r f4 mo 1) bu := Eq.trans (hF.r hmo (by rw [kmo]; rfl)) hr15
    have z148 : q_ir (q_r f4 mo 13) sr := Eq.trans (hF.r hmo (by rw [kmo]; rfl)) hr16
    have z149 : q_ir (q_r f4 mo 14) sd := Eq.trans (hF.r hmo (by rw [kmo]; rfl)) hr17
    have z150 : q_ir (q_r f4 mo 15) as := Eq.trans (hF.r hmo (by rw [kmo]; rfl)) hr18
    have z151 : q_ir (q_r f4 mo 16) aw := Eq.trans (hF.r hmo (by rw [kmo]; rfl)) hr19
    have z152 : q_ir (q_r f4 mo 17) pa := Eq.trans (hF.r hmo (by rw [kmo]; rfl)) hr20
    have z153 : q_ir (q_r f4 mo 18) nm := Eq.trans (hF.r hmo (by rw [kmo]; rfl)) hr21
    have z154 : q_ir (q_r f4 mo 19) snm := Eq.trans (hF.r hmo (by rw [kmo]; rfl)) hr22
    have z155 : q_ir (q_r f4 mo 20) anm := Eq.trans (hF.r hmo (by rw [kmo]; rfl)) hr23
    have z156 : q_ir (q_r f4 mo 24) hp := Eq.trans (hF.r hmo (by rw [kmo]; rfl)) hr24
    have z157 : q_ir (q_r f4 mo 25) dy := Eq.trans (hF.r hmo (by rw [kmo]; rfl)) hr25
    have z158 : q_ir (q_r f4 mo 29) cs := Eq.trans (hF.r hmo (by rw [kmo]; rfl)) hr26
    have z159 : q_ir (q_r f4 mo 30) c1 := Eq.trans (hF.r hmo (by rw [kmo]; rfl)) hr27
    have z160 : q_ir (q_r f4 mo 31) c2 := Eq.trans (hF.r hmo (by rw [kmo]; rfl)) hr28
    have z161 : q_ir (q_r f4 mo 32) c3 := Eq.trans (hF.r hmo (by rw [kmo]; rfl)) hr29
    have z162 : q_ir (q_r f4 mo 33) bg := Eq.trans (hF.r hmo (by rw [kmo]; rfl)) hr30
    have z163 : q_ir (q_r f4 mo 34) lp := Eq.trans (hF.r hmo (by rw [kmo]; rfl)) hr31
    have z164 : q_ir (q_r f4 mo 38) rp := Eq.trans (hF.r hmo (by rw [kmo]; rfl)) hr32
    have g165 : q_gr f4 sr := q_gr_fr hgr (fun i9 _ => hF.z hsr (by rw [ksr]; rfl))
    have g166 : q_z f4 x 9 = q_z f4 mo 22 := tk_s2_tr hs22 (hF.z hx (by rw [kx]; rfl)) (hF.z hmo (by rw [kmo]; rfl))
    have g167 : q_pk f4 mo pa := q_pk_tr hpk (hF.z hmo (by rw [kmo]; rfl)) (fun i9 => hF.z hpa (by rw [kpa]; rfl))
    have g168 : q_sv f4 mo sd := q_sv_tr hsd9 (hF.z hmo (by rw [kmo]; rfl)) (fun i9 => hF.z hsd (by rw [ksd]; rfl))
    have g169 : tk_bb f4 bu ba tn := tk_bb_tr hbb (fun i9 => hF.z hbu (by rw [kbu]; rfl)) (fun i9 => hF.z hba (by rw [kba]; rfl))
    have g170 : tk_ij K L f4 nds := tk_ij_tr hij (fun i9 => hF.r hnds (by rw [knds]; rfl))
    have g171 : tk_vs K L f4 x sv nsv ls9 := tk_vs_tr hvs (hF.z hx (by rw [kx]; rfl)) (hF.z hsv (by rw [ksv]; rfl)) (fun a9 h9 k9 => hF.j h9 (by rw [k9]; rfl)) (fun i9 => hF.r hnsv (by rw [knsv]; rfl))
    have g172 : tk_nq f4 nm nl9 := tk_nq_tr hrn9 (fun i9 => hF.j hnm (by rw [knm]; rfl))
    have g173 : tk_rs f4 mo sd snm ls9 := tk_rs_tr hrs9 (hF.z hmo (by rw [kmo]; rfl)) (fun i9 h9 k9 => hF.z hsd (by rw [ksd]; exact q_inWr rfl h9 k9)) (fun i9 => hF.j hsnm (by rw [ksnm]; rfl))
    have g174 : q_pc f4 mo pa xc := q_pc_tr hpc (hF.z hmo (by rw [kmo]; rfl)) (fun i9 => hF.z hpa (by rw [kpa]; rfl))
    subst qy5
    have hx9 : x1 ≠ 1 := fun h9 => t122 (hs22.trans (Eq.trans ex1 h9))
    have hx8 : x1 = 0 := by omega
    refine lv_istore (lv' := [(6, .int (q_i 1)), (5, .int (q_i ii)), (4, .ref outD), (3, .ref out), (2, .ref mo), (1, .ref x), (0, .ref b)]) cx.1 cx.2.1 dL_law_1510 hl (by decide) rfl (fun ls hl => ?_)
    refine q_ald_n cx dL_law_1512 rfl (lv_at hl 4 rfl) ?_
    refine q_cVi (As := []) (rest := []) cx hB (fun q h => hLA q h) hN hmo kmo (by decide) rfl (r_restore0 l g hN hB.2.1 mo hmo kmo sr hsr ksr sd hsd ksd nm hnm knm snm hsnm ksnm pa hpa kpa x2 (by omega) (by omega) x3 (by omega) (by omega) xc (by omega) (by omega) z130 z131 z128 (Eq.trans z129 (by omega)) z148 z149 z153 z154 z152 g165 g167 g168 g174) q_cL_260 q_dX12_restore ⟨by decide, by show cells + 1 ≤ 601024; omega, by show slots + 6 ≤ 7293034; omega⟩ rfl rfl hl.1 rfl (Nat.le_of_ble_eq_true rfl) dL_law_1513 (fun y176 H locs f175 ry176 h177 hF hB => ?_)
    obtain ⟨ly176, uy176, lz178, uz178, lz179, uz179, z180, g181, g182⟩ := h177
    have z183 : q_is (q_z f175 so 1) tn := Eq.trans (hF.z hso (by rw [kso]; rfl)) z126
    have z184 : q_is (q_z f175 mo 2) tn := Eq.trans (hF.z hmo (by rw [kmo]; rfl)) z127
    have z185 : q_is (q_z f175 sr 0) xc := Eq.trans (hF.z hsr (by rw [ksr]; rfl)) z128
    have z186 : q_is (q_z f175 mo 22) x1 := Eq.trans (hF.z hmo (by rw [kmo]; rfl)) z129
    have z187 : q_is (q_z f175 sr 3) x2 := Eq.trans (hF.z hsr (by rw [ksr]; rfl)) z130
    have z188 : q_is (q_z f175 sr 4) x3 := Eq.trans (hF.z hsr (by rw [ksr]; rfl)) z131
    have z189 : q_ir (q_r f175 x 0) so := Eq.trans (hF.r hx (by rw [kx]; rfl)) z132
    have z190 : q_ir (q_r f175 x 1) rd := Eq.trans (hF.r hx (by rw [kx]; rfl)) z133
    have z191 : q_ir (q_r f175 x 2) scr := Eq.trans (hF.r hx (by rw [kx]; rfl)) z134
    have z192 : q_ir (q_r f175 x 3) fc := Eq.trans (hF.r hx (by rw [kx]; rfl)) z135
    have z193 : q_ir (q_r f175 x 4) hist := Eq.trans (hF.r hx (by rw [kx]; rfl)) z136
    have z194 : q_ir (q_r f175 x 5) rep := Eq.trans (hF.r hx (by rw [kx]; rfl)) z137
    have z195 : q_ir (q_r f175 x 6) now := Eq.trans (hF.r hx (by rw [kx]; rfl)) z138
    have z196 : q_ir (q_r f175 x 7) dr := Eq.trans (hF.r hx (by rw [kx]; rfl)) z139
    have z197 : q_ir (q_r f175 x 8) sv := Eq.trans (hF.r hx (by rw [kx]; rfl)) z140
    have z198 : q_ir (q_r f175 fc 0) tr := Eq.trans (hF.r hfc (by rw [kfc]; rfl)) z141
    have z199 : q_ir (q_r f175 so 0) ba := Eq.trans (hF.r hso (by rw [kso]; rfl)) z142
    have z200 : q_ir (q_r f175 dr 0) nds := Eq.trans (hF.r hdr (by rw [kdr]; rfl)) z143
    have z201 : q_ir (q_r f175 hist 0) ka := Eq.trans (hF.r hhist (by rw [khist]; rfl)) z144
    have z202 : q_ir (q_r f175 now 0) ndn := Eq.trans (hF.r hnow (by rw [know]; rfl)) z145
    have z203 : q_ir (q_r f175 sv 0) nsv := Eq.trans (hF.r hsv (by rw [ksv]; rfl)) z146
    have z204 : q_ir (q_r f175 mo 1) bu := Eq.trans (hF.r hmo (by rw [kmo]; rfl)) z147
    have z205 : q_ir (q_r f175 mo 13) sr := Eq.trans (hF.r hmo (by rw [kmo]; rfl)) z148
    have z206 : q_ir (q_r f175 mo 14) sd := Eq.trans (hF.r hmo (by rw [kmo]; rfl)) z149
    have z207 : q_ir (q_r f175 mo 15) as := Eq.trans (hF.r hmo (by rw [kmo]; rfl)) z150
    have z208 : q_ir (q_r f175 mo 16) aw := Eq.trans (hF.r hmo (by rw [kmo]; rfl)) z151
    have z209 : q_ir (q_r f175 mo 17) pa := Eq.trans (hF.r hmo (by rw [kmo]; rfl)) z152
    have z210 : q_ir (q_r f175 mo 18) nm := Eq.trans (hF.r hmo (by rw [kmo]; rfl)) z153
    have z211 : q_ir (q_r f175 mo 19) snm := Eq.trans (hF.r hmo (by rw [kmo]; rfl)) z154
    have z212 : q_ir (q_r f175 mo 20) anm := Eq.trans (hF.r hmo (by rw [kmo]; rfl)) z155
    have z213 : q_ir (q_r f175 mo 24) hp := Eq.trans (hF.r hmo (by rw [kmo]; rfl)) z156
    have z214 : q_ir (q_r f175 mo 25) dy := Eq.trans (hF.r hmo (by rw [kmo]; rfl)) z157
    have z215 : q_ir (q_r f175 mo 29) cs := Eq.trans (hF.r hmo (by rw [kmo]; rfl)) z158
    have z216 : q_ir (q_r f175 mo 30) c1 := Eq.trans (hF.r hmo (by rw [kmo]; rfl)) z159
    have z217 : q_ir (q_r f175 mo 31) c2 := Eq.trans (hF.r hmo (by rw [kmo]; rfl)) z160
    have z218 : q_ir (q_r f175 mo 32) c3 := Eq.trans (hF.r hmo (by rw [kmo]; rfl)) z161
    have z219 : q_ir (q_r f175 mo 33) bg := Eq.trans (hF.r hmo (by rw [kmo]; rfl)) z162
    have z220 : q_ir (q_r f175 mo 34) lp := Eq.trans (hF.r hmo (by rw [kmo]; rfl)) z163
    have z221 : q_ir (q_r f175 mo 38) rp := Eq.trans (hF.r hmo (by rw [kmo]; rfl)) z164
    have g222 : q_gr f175 sr := q_gr_fr g165 (fun i9 _ => hF.z hsr (by rw [ksr]; rfl))
    have g223 : q_z f175 x 9 = q_z f175 mo 22 := tk_s2_tr g166 (hF.z hx (by rw [kx]; rfl)) (hF.z hmo (by rw [kmo]; rfl))
    have g224 : q_pk f175 mo pa := q_pk_tr g167 (hF.z hmo (by rw [kmo]; rfl)) (fun i9 => hF.z hpa (by rw [kpa]; rfl))
    have g225 : q_sv f175 mo sd := q_sv_tr g168 (hF.z hmo (by rw [kmo]; rfl)) (fun i9 => hF.z hsd (by rw [ksd]; rfl))
    have g226 : tk_bb f175 bu ba tn := tk_bb_tr g169 (fun i9 => hF.z hbu (by rw [kbu]; rfl)) (fun i9 => hF.z hba (by rw [kba]; rfl))
    have g227 : tk_ij K L f175 nds := tk_ij_tr g170 (fun i9 => hF.r hnds (by rw [knds]; rfl))
    have g228 : tk_vs K L f175 x sv nsv ls9 := tk_vs_tr g125 (hF.z hx (by rw [kx]; rfl)) (hF.z hsv (by rw [ksv]; rfl)) (fun a9 h9 k9 => hF.j h9 (by rw [k9]; rfl)) (fun i9 => hF.r hnsv (by rw [knsv]; rfl))
    have g229 : tk_nq f175 nm nl9 := tk_nq_tr g172 (fun i9 => hF.j hnm (by rw [knm]; rfl))
    have g230 : tk_rs f175 mo sd snm ls9 := tk_rs_tr g173 (hF.z hmo (by rw [kmo]; rfl)) (fun i9 h9 k9 => hF.z hsd (by rw [ksd]; exact q_inWr rfl h9 k9)) (fun i9 => hF.j hsnm (by rw [ksnm]; rfl))
    have g231 : q_pc f175 mo pa xc := q_pc_tr g174 (hF.z hmo (by rw [kmo]; rfl)) (fun i9 => hF.z hpa (by rw [kpa]; rfl))
    have g232 : tk_vk K L f175 hist ka now ndn := tk_vk_tr g124 (hF.z hhist (by rw [khist]; rfl)) (hF.z hhist (by rw [khist]; rfl)) (hF.z hnow (by rw [know]; rfl)) (fun a9 h9 k9 => hF.j h9 (by rw [k9]; rfl)) (fun i9 => hF.r hndn (by rw [kndn]; rfl)) (fun a9 h9 k9 => hF.z h9 (by rw [k9]; rfl)) (fun a9 h9 k9 => hF.j h9 (by rw [k9]; rfl)) (fun i9 => hF.r hka (by rw [kka]; rfl)) (fun a9 h9 k9 => hF.r h9 (by rw [k9]; rfl)) (fun a9 h9 k9 i9 => hF.r h9 (by rw [k9]; rfl))
    have g233 : tk_vn K L 5 f175 now ndn nl9 := tk_vn_tr t123 (hF.z hnow (by rw [know]; rfl)) (fun a9 h9 k9 => hF.j h9 (by rw [k9]; rfl)) (fun i9 => hF.r hndn (by rw [kndn]; rfl))
    obtain ⟨x234, ex234⟩ : ∃ zz, q_is (q_z f175 sr 3) zz := ⟨_, q_isr _⟩
    obtain ⟨lx234, ux234⟩ := q_isb ex234 ⟨lz178, uz178⟩
    obtain ⟨x235, ex235⟩ : ∃ zz, q_is (q_z f175 sr 4) zz := ⟨_, q_isr _⟩
    obtain ⟨lx235, ux235⟩ := q_isb ex235 ⟨lz179, uz179⟩
    refine lv_istore (lv' := [(7, .int (q_i y176)), (6, .int (q_i 1)), (5, .int (q_i ii)), (4, .ref outD), (3, .ref out), (2, .ref mo), (1, .ref x), (0, .ref b)]) cx.1 cx.2.1 dL_law_1516 hl (by decide) rfl (fun ls hl => ?_)
    refine lv_goto (tgt := 1521) cx.1 cx.2.1 dL_law_1518 (by decide) ?_
    refine W.widen (k := cells + 6) (n := slots + 36) (by omega) (by omega) ?_
    exact kk f175 H locs ls tn nl9 ls9 xc hB ⟨⟨z183, (Eq.trans z184 (by omega)), by omega, by omega⟩, g222, g181, g225, q_isu ex234 (by omega), q_isu ex235 (by omega), tk_bb_le g226 (by omega), z180, by omega, g233, g232, g228, g229, g230, g182, g223⟩ (lv_sub hl [2, 3, 4, 5, 6, 7] rfl)
