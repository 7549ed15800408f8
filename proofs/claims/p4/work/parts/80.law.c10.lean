set_option maxHeartbeats 4000000 in
set_option maxRecDepth 100000 in
theorem law_c1479 {p : Program} {l : Launch} {e : Env} {s : State} {m : MethodId} {below : List Frame} {meth : Method} {c : Code} {b N9 : Nat} {xs : Nat → Int32} (hfl : l.stackTraces = false) (hN9 : N9 ≤ 3072) (C0 : lw_At p s m meth c b N9 xs) (cx : CallFix p m c cL_law 10 s #[Value.ref b] q_al RL) {g : q_G} {ad : Nat → Nat} {K : Nat → Nat} {L : List Nat} (hN : L.Nodup) (hLA : ∀ q, q ∈ L → s.heap.size ≤ q) (hX : q_X ad (fun q => q ∈ L) s) {f0 : Nat → va_E} {x : Nat} (hx : x ∈ L) (kx : K x = 11) {so : Nat} (hso : so ∈ L) (kso : K so = 8) {rd : Nat} (hrd : rd ∈ L) (krd : K rd = 9) {scr : Nat} (hscr : scr ∈ L) (kscr : K scr = 7) {fc : Nat} (hfc : fc ∈ L) (kfc : K fc = 1) {hist : Nat} (hhist : hist ∈ L) (khist : K hist = 2) {rep : Nat} (hrep : rep ∈ L) (krep : K rep = 6) {now : Nat} (hnow : now ∈ L) (know : K now = 10) {dr : Nat} (hdr : dr ∈ L) (kdr : K dr = 13) {sv : Nat} (hsv : sv ∈ L) (ksv : K sv = 14) {tr : Nat} (htr : tr ∈ L) (ktr : K tr = 15) {ba : Nat} (hba : ba ∈ L) (kba : K ba = 142) {nds : Nat} (hnds : nds ∈ L) (knds : K nds = 111) {mo : Nat} (hmo : mo ∈ L) (kmo : K mo = 12) {bu : Nat} (hbu : bu ∈ L) (kbu : K bu = 150) {sr : Nat} (hsr : sr ∈ L) (ksr : K sr = 151) {sd : Nat} (hsd : sd ∈ L) (ksd : K sd = 152) {as : Nat} (has : as ∈ L) (kas : K as = 153) {aw : Nat} (haw : aw ∈ L) (kaw : K aw = 154) {pa : Nat} (hpa : pa ∈ L) (kpa : K pa = 155) {nm : Nat} (hnm : nm ∈ L) (knm : K nm = 156) {snm : Nat} (hsnm : snm ∈ L) (ksnm : K snm = 157) {anm : Nat} (hanm : anm ∈ L) (kanm : K anm = 158) {hp : Nat} (hhp : hp ∈ L) (khp : K hp = 159) {dy : Nat} (hdy : dy ∈ L) (kdy : K dy = 160) {cs : Nat} (hcs : cs ∈ L) (kcs : K cs = 161) {c1 : Nat} (hc1 : c1 ∈ L) (kc1 : K c1 = 162) {c2 : Nat} (hc2 : c2 ∈ L) (kc2 : K c2 = 163) {c3 : Nat} (hc3 : c3 ∈ L) (kc3 : K c3 = 164) {bg : Nat} (hbg : bg ∈ L) (kbg : K bg = 165) {lp : Nat} (hlp : lp ∈ L) (klp : K lp = 166) {rp : Nat} (hrp : rp ∈ L) (krp : K rp = 167) {out : Nat} (hout : out ∈ L) (kout : K out = 168) {outD : Nat} (houtD : outD ∈ L) (koutD : K outD = 169) (hr0 : q_ir (q_r f0 x 0) so) (hr1 : q_ir (q_r f0 x 1) rd) (hr2 : q_ir (q_r f0 x 2) scr) (hr3 : q_ir (q_r f0 x 3) fc) (hr4 : q_ir (q_r f0 x 4) hist) (hr5 : q_ir (q_r f0 x 5) rep) (hr6 : q_ir (q_r f0 x 6) now) (hr7 : q_ir (q_r f0 x 7) dr) (hr8 : q_ir (q_r f0 x 8) sv) (hr9 : q_ir (q_r f0 fc 0) tr) (hr10 : q_ir (q_r f0 so 0) ba) (hr11 : q_ir (q_r f0 dr 0) nds) (hr12 : q_ir (q_r f0 mo 1) bu) (hr13 : q_ir (q_r f0 mo 13) sr) (hr14 : q_ir (q_r f0 mo 14) sd) (hr15 : q_ir (q_r f0 mo 15) as) (hr16 : q_ir (q_r f0 mo 16) aw) (hr17 : q_ir (q_r f0 mo 17) pa) (hr18 : q_ir (q_r f0 mo 18) nm) (hr19 : q_ir (q_r f0 mo 19) snm) (hr20 : q_ir (q_r f0 mo 20) anm) (hr21 : q_ir (q_r f0 mo 24) hp) (hr22 : q_ir (q_r f0 mo 25) dy) (hr23 : q_ir (q_r f0 mo 29) cs) (hr24 : q_ir (q_r f0 mo 30) c1) (hr25 : q_ir (q_r f0 mo 31) c2) (hr26 : q_ir (q_r f0 mo 32) c3) (hr27 : q_ir (q_r f0 mo 33) bg) (hr28 : q_ir (q_r f0 mo 34) lp) (hr29 : q_ir (q_r f0 mo 38) rp) (hij : tk_ij K L f0 nds) {f : Nat → va_E} {H : Heap} {locs : List Loc} {ls : Array Slot} {cells slots : Nat} {ii tn : Int} (hB : q_B g K L (fun q => s.heap.size ≤ q) [(0, 0, 6), (2, 1, 2), (3, 0, 4), (4, 0, 7), (5, 0, 9), (6, 1, 1), (7, 1, 4), (8, 1, 9), (9, 0, 2), (10, 3, 15), (11, 9, 9), (12, 0, 0), (12, 2, 12), (12, 21, 23), (12, 26, 28), (12, 35, 37), (12, 39, 40), (13, 3, 15), (14, 3, 15), (15, 3, 15), (16, 3, 15), (17, 0, 9), (18, 0, 9), (19, 0, 9), (20, 0, 9), (21, 0, 4), (22, 0, 4), (23, 0, 4), (24, 0, 4), (25, 0, 7), (26, 0, 7), (27, 0, 7), (28, 0, 7), (142, 0, 599), (143, 0, 599), (150, 0, 599), (151, 0, 657), (152, 0, 657), (153, 0, 657), (154, 0, 657), (155, 0, 3947), (156, 0, 9), (157, 0, 9), (158, 0, 9), (159, 0, 9), (160, 0, 9), (161, 0, 59), (162, 0, 58), (163, 0, 58), (164, 0, 58), (165, 0, 1), (166, 0, 1), (167, 0, 479), (168, 0, 0), (169, 0, 0)] f0 f s H locs) (hI : q_Iv4 f so mo sr pa sd bu ba tn) (hl : lv_has ls 10 [(5, .int (q_i ii)), (4, .ref outD), (3, .ref out), (2, .ref mo), (1, .ref x), (0, .ref b)]) (hi0 : 0 ≤ ii) (hi6 : ii + 6 ≤ N9) (hce : cells + 6 ≤ 10000) (hse : slots + 36 ≤ 100000) (kk : ∀ (f1 : Nat → va_E) (H1 : Heap) (locs1 : List Loc) (ls1 : Array Slot) (tn1 : Int), q_B g K L (fun q => s.heap.size ≤ q) [(0, 0, 6), (2, 1, 2), (3, 0, 4), (4, 0, 7), (5, 0, 9), (6, 1, 1), (7, 1, 4), (8, 1, 9), (9, 0, 2), (10, 3, 15), (11, 9, 9), (12, 0, 0), (12, 2, 12), (12, 21, 23), (12, 26, 28), (12, 35, 37), (12, 39, 40), (13, 3, 15), (14, 3, 15), (15, 3, 15), (16, 3, 15), (17, 0, 9), (18, 0, 9), (19, 0, 9), (20, 0, 9), (21, 0, 4), (22, 0, 4), (23, 0, 4), (24, 0, 4), (25, 0, 7), (26, 0, 7), (27, 0, 7), (28, 0, 7), (142, 0, 599), (143, 0, 599), (150, 0, 599), (151, 0, 657), (152, 0, 657), (153, 0, 657), (154, 0, 657), (155, 0, 3947), (156, 0, 9), (157, 0, 9), (158, 0, 9), (159, 0, 9), (160, 0, 9), (161, 0, 59), (162, 0, 58), (163, 0, 58), (164, 0, 58), (165, 0, 1), (166, 0, 1), (167, 0, 479), (168, 0, 0), (169, 0, 0)] f0 f1 s H1 locs1 → q_Iv4 f1 so mo sr pa sd bu ba tn1 → lv_has ls1 10 [(5, .int (q_i ii)), (4, .ref outD), (3, .ref out), (2, .ref mo), (1, .ref x), (0, .ref b)] → W p l e room_1 s m #[Value.ref b] below meth c H1 locs1 (cells + 6) (slots + 36) (lw_Z below #[Value.ref b] s) (F0 m 1521 ls1 [])) : W p l e room_1 s m #[Value.ref b] below meth c H locs (cells) (slots) (lw_Z below #[Value.ref b] s) (F0 m 1479 ls []) := by
  have hXs := C0.2.2.2.2.2.2.1
  have hbl := C0.2.2.2.2.2.2.2.1
  have hbA := q_bA hbl
  obtain ⟨⟨hn0, hn1, ltn, utn⟩, hgr, hpk, hsd9, ht3, ht4, hbb⟩ := hI
  have hr0 : q_ir (q_r f x 0) so := Eq.trans (hB.2.2.r hx (by rw [kx]; rfl)) hr0
  have hr1 : q_ir (q_r f x 1) rd := Eq.trans (hB.2.2.r hx (by rw [kx]; rfl)) hr1
  have hr2 : q_ir (q_r f x 2) scr := Eq.trans (hB.2.2.r hx (by rw [kx]; rfl)) hr2
  have hr3 : q_ir (q_r f x 3) fc := Eq.trans (hB.2.2.r hx (by rw [kx]; rfl)) hr3
  have hr4 : q_ir (q_r f x 4) hist := Eq.trans (hB.2.2.r hx (by rw [kx]; rfl)) hr4
  have hr5 : q_ir (q_r f x 5) rep := Eq.trans (hB.2.2.r hx (by rw [kx]; rfl)) hr5
  have hr6 : q_ir (q_r f x 6) now := Eq.trans (hB.2.2.r hx (by rw [kx]; rfl)) hr6
  have hr7 : q_ir (q_r f x 7) dr := Eq.trans (hB.2.2.r hx (by rw [kx]; rfl)) hr7
  have hr8 : q_ir (q_r f x 8) sv := Eq.trans (hB.2.2.r hx (by rw [kx]; rfl)) hr8
  have hr9 : q_ir (q_r f fc 0) tr := Eq.trans (hB.2.2.r hfc (by rw [kfc]; rfl)) hr9
  have hr10 : q_ir (q_r f so 0) ba := Eq.trans (hB.2.2.r hso (by rw [kso]; rfl)) hr10
  have hr11 : q_ir (q_r f dr 0) nds := Eq.trans (hB.2.2.r hdr (by rw [kdr]; rfl)) hr11
  have hr12 : q_ir (q_r f mo 1) bu := Eq.trans (hB.2.2.r hmo (by rw [kmo]; rfl)) hr12
  have hr13 : q_ir (q_r f mo 13) sr := Eq.trans (hB.2.2.r hmo (by rw [kmo]; rfl)) hr13
  have hr14 : q_ir (q_r f mo 14) sd := Eq.trans (hB.2.2.r hmo (by rw [kmo]; rfl)) hr14
  have hr15 : q_ir (q_r f mo 15) as := Eq.trans (hB.2.2.r hmo (by rw [kmo]; rfl)) hr15
  have hr16 : q_ir (q_r f mo 16) aw := Eq.trans (hB.2.2.r hmo (by rw [kmo]; rfl)) hr16
  have hr17 : q_ir (q_r f mo 17) pa := Eq.trans (hB.2.2.r hmo (by rw [kmo]; rfl)) hr17
  have hr18 : q_ir (q_r f mo 18) nm := Eq.trans (hB.2.2.r hmo (by rw [kmo]; rfl)) hr18
  have hr19 : q_ir (q_r f mo 19) snm := Eq.trans (hB.2.2.r hmo (by rw [kmo]; rfl)) hr19
  have hr20 : q_ir (q_r f mo 20) anm := Eq.trans (hB.2.2.r hmo (by rw [kmo]; rfl)) hr20
  have hr21 : q_ir (q_r f mo 24) hp := Eq.trans (hB.2.2.r hmo (by rw [kmo]; rfl)) hr21
  have hr22 : q_ir (q_r f mo 25) dy := Eq.trans (hB.2.2.r hmo (by rw [kmo]; rfl)) hr22
  have hr23 : q_ir (q_r f mo 29) cs := Eq.trans (hB.2.2.r hmo (by rw [kmo]; rfl)) hr23
  have hr24 : q_ir (q_r f mo 30) c1 := Eq.trans (hB.2.2.r hmo (by rw [kmo]; rfl)) hr24
  have hr25 : q_ir (q_r f mo 31) c2 := Eq.trans (hB.2.2.r hmo (by rw [kmo]; rfl)) hr25
  have hr26 : q_ir (q_r f mo 32) c3 := Eq.trans (hB.2.2.r hmo (by rw [kmo]; rfl)) hr26
  have hr27 : q_ir (q_r f mo 33) bg := Eq.trans (hB.2.2.r hmo (by rw [kmo]; rfl)) hr27
  have hr28 : q_ir (q_r f mo 34) lp := Eq.trans (hB.2.2.r hmo (by rw [kmo]; rfl)) hr28
  have hr29 : q_ir (q_r f mo 38) rp := Eq.trans (hB.2.2.r hmo (by rw [kmo]; rfl)) hr29
  have hij : tk_ij K L f nds := tk_ij_tr hij (fun i9 => hB.2.2.r hnds (by rw [knds]; rfl))
  obtain ⟨x1, ex1⟩ : ∃ zz, q_is (q_z f sr 3) zz := ⟨_, q_isr _⟩
  obtain ⟨lx1, ux1⟩ : 0 ≤ x1 ∧ x1 ≤ 9999 := q_isb ex1 ⟨(hgr 3 (by decide)).1, ht3⟩
  obtain ⟨x2, ex2⟩ : ∃ zz, q_is (q_z f sr 4) zz := ⟨_, q_isr _⟩
  obtain ⟨lx2, ux2⟩ : 0 ≤ x2 ∧ x2 ≤ 60 := q_isb ex2 ⟨(hgr 4 (by decide)).1, ht4⟩
  refine q_ald_n cx dL_law_1479 rfl (lv_at hl 4 rfl) ?_
  refine q_cVi (As := []) (rest := []) cx hB (fun q h => hLA q h) hN hx kx (by decide) rfl (x_undo l g hN hB.2.1 x hx kx so hso kso rd hrd krd scr hscr kscr fc hfc kfc hist hhist khist rep hrep krep now hnow know dr hdr kdr sv hsv ksv tr htr ktr hr0 hr1 hr2 hr3 hr4 hr5 hr6 hr7 hr8 hr9) q_cL_250 q_dX11_undo ⟨by decide, by show cells + 0 ≤ 601024; omega, by show slots + 0 ≤ 7293034; omega⟩ rfl rfl hl.1 rfl (Nat.le_of_ble_eq_true rfl) dL_law_1480 (fun y4 H locs f3 ry4 h5 hF hB => ?_)
  have z6 : q_is (q_z f3 so 1) tn := Eq.trans (hF.z hso (by rw [kso]; rfl)) hn0
  have z7 : q_is (q_z f3 mo 2) tn := Eq.trans (hF.z hmo (by rw [kmo]; rfl)) hn1
  have z8 : q_is (q_z f3 sr 3) x1 := Eq.trans (hF.z hsr (by rw [ksr]; rfl)) ex1
  have z9 : q_is (q_z f3 sr 4) x2 := Eq.trans (hF.z hsr (by rw [ksr]; rfl)) ex2
  have z10 : q_ir (q_r f3 x 0) so := Eq.trans (hF.r hx (by rw [kx]; rfl)) hr0
  have z11 : q_ir (q_r f3 x 1) rd := Eq.trans (hF.r hx (by rw [kx]; rfl)) hr1
  have z12 : q_ir (q_r f3 x 2) scr := Eq.trans (hF.r hx (by rw [kx]; rfl)) hr2
  have z13 : q_ir (q_r f3 x 3) fc := Eq.trans (hF.r hx (by rw [kx]; rfl)) hr3
  have z14 : q_ir (q_r f3 x 4) hist := Eq.trans (hF.r hx (by rw [kx]; rfl)) hr4
  have z15 : q_ir (q_r f3 x 5) rep := Eq.trans (hF.r hx (by rw [kx]; rfl)) hr5
  have z16 : q_ir (q_r f3 x 6) now := Eq.trans (hF.r hx (by rw [kx]; rfl)) hr6
  have z17 : q_ir (q_r f3 x 7) dr := Eq.trans (hF.r hx (by rw [kx]; rfl)) hr7
  have z18 : q_ir (q_r f3 x 8) sv := Eq.trans (hF.r hx (by rw [kx]; rfl)) hr8
  have z19 : q_ir (q_r f3 fc 0) tr := Eq.trans (hF.r hfc (by rw [kfc]; rfl)) hr9
  have z20 : q_ir (q_r f3 so 0) ba := Eq.trans (hF.r hso (by rw [kso]; rfl)) hr10
  have z21 : q_ir (q_r f3 dr 0) nds := Eq.trans (hF.r hdr (by rw [kdr]; rfl)) hr11
  have z22 : q_ir (q_r f3 mo 1) bu := Eq.trans (hF.r hmo (by rw [kmo]; rfl)) hr12
  have z23 : q_ir (q_r f3 mo 13) sr := Eq.trans (hF.r hmo (by rw [kmo]; rfl)) hr13
  have z24 : q_ir (q_r f3 mo 14) sd := Eq.trans (hF.r hmo (by rw [kmo]; rfl)) hr14
  have z25 : q_ir (q_r f3 mo 15) as := Eq.trans (hF.r hmo (by rw [kmo]; rfl)) hr15
  have z26 : q_ir (q_r f3 mo 16) aw := Eq.trans (hF.r hmo (by rw [kmo]; rfl)) hr16
  have z27 : q_ir (q_r f3 mo 17) pa := Eq.trans (hF.r hmo (by rw [kmo]; rfl)) hr17
  have z28 : q_ir (q_r f3 mo 18) nm := Eq.trans (hF.r hmo (by rw [kmo]; rfl)) hr18
  have z29 : q_ir (q_r f3 mo 19) snm := Eq.trans (hF.r hmo (by rw [kmo]; rfl)) hr19
  have z30 : q_ir (q_r f3 mo 20) anm := Eq.trans (hF.r hmo (by rw [kmo]; rfl)) hr20
  have z31 : q_ir (q_r f3 mo 24) hp := Eq.trans (hF.r hmo (by rw [kmo]; rfl)) hr21
  have z32 : q_ir (q_r f3 mo 25) dy := Eq.trans (hF.r hmo (by rw [kmo]; rfl)) hr22
  have z33 : q_ir (q_r f3 mo 29) cs := Eq.trans (hF.r hmo (by rw [kmo]; rfl)) hr23
  have z34 : q_ir (q_r f3 mo 30) c1 := Eq.trans (hF.r hmo (by rw [kmo]; rfl)) hr24
  have z35 : q_ir (q_r f3 mo 31) c2 := Eq.trans (hF.r hmo (by rw [kmo]; rfl)) hr25
  have z36 : q_ir (q_r f3 mo 32) c3 := Eq.trans (hF.r hmo (by rw [kmo]; rfl)) hr26
  have z37 : q_ir (q_r f3 mo 33) bg := Eq.trans (hF.r hmo (by rw [kmo]; rfl)) hr27
  have z38 : q_ir (q_r f3 mo 34) lp := Eq.trans (hF.r hmo (by rw [kmo]; rfl)) hr28
  have z39 : q_ir (q_r f3 mo 38) rp := Eq.trans (hF.r hmo (by rw [kmo]; rfl)) hr29
  have g40 : q_gr f3 sr := q_gr_fr hgr (fun i9 _ => hF.z hsr (by rw [ksr]; rfl))
  have g41 : q_pk f3 mo pa := q_pk_tr hpk (hF.z hmo (by rw [kmo]; rfl)) (fun i9 => hF.z hpa (by rw [kpa]; rfl))
  have g42 : q_sv f3 mo sd := q_sv_tr hsd9 (hF.z hmo (by rw [kmo]; rfl)) (fun i9 => hF.z hsd (by rw [ksd]; rfl))
  have g43 : tk_bb f3 bu ba tn := tk_bb_tr hbb (fun i9 => hF.z hbu (by rw [kbu]; rfl)) (fun i9 => hF.z hba (by rw [kba]; rfl))
  have g44 : tk_ij K L f3 nds := tk_ij_tr hij (fun i9 => hF.r hnds (by rw [knds]; rfl))
  refine lv_pop cx.1 cx.2.1 dL_law_1483 rfl ?_
  refine q_ald_n cx dL_law_1484 rfl (lv_at hl 3 rfl) ?_
  obtain ⟨x45, ex45⟩ : ∃ zz, q_is (q_z f3 mo 21) zz := ⟨_, q_isr _⟩
  obtain ⟨lx45, ux45⟩ := q_isb ex45 (q_fib hB.2.1 hmo kmo (by decide) rfl)
  by_cases c46 : x45 ≤ 0
  · refine q_cVi (As := []) (rest := []) cx hB (fun q h => hLA q h) hN hmo kmo (by decide) rfl (r_undo0 l g hN hB.2.1 mo hmo kmo sr hsr ksr pa hpa kpa x1 (by omega) (by omega) x2 (by omega) (by omega) z8 z9 (Eq.trans ex45 (by omega)) z23 z27 g40 g41) q_cL_253 q_dX12_undo ⟨by decide, by show cells + 0 ≤ 601024; omega, by show slots + 0 ≤ 7293034; omega⟩ rfl rfl hl.1 rfl (Nat.le_of_ble_eq_true rfl) dL_law_1485 (fun y48 H locs f47 ry48 h49 hF hB => ?_)
    obtain ⟨qy48, lz50, uz50, lz51, uz51, g52⟩ := h49
    have z53 : q_is (q_z f47 so 1) tn := Eq.trans (hF.z hso (by rw [kso]; rfl)) z6
    have z54 : q_is (q_z f47 mo 2) tn := Eq.trans (hF.z hmo (by rw [kmo]; rfl)) z7
    have z55 : q_is (q_z f47 sr 3) x1 := Eq.trans (hF.z hsr (by rw [ksr]; rfl)) z8
    have z56 : q_is (q_z f47 sr 4) x2 := Eq.trans (hF.z hsr (by rw [ksr]; rfl)) z9
    have z57 : q_is (q_z f47 mo 21) x45 := Eq.trans (hF.z hmo (by rw [kmo]; rfl)) ex45
    have z58 : q_ir (q_r f47 x 0) so := Eq.trans (hF.r hx (by rw [kx]; rfl)) z10
    have z59 : q_ir (q_r f47 x 1) rd := Eq.trans (hF.r hx (by rw [kx]; rfl)) z11
    have z60 : q_ir (q_r f47 x 2) scr := Eq.trans (hF.r hx (by rw [kx]; rfl)) z12
    have z61 : q_ir (q_r f47 x 3) fc := Eq.trans (hF.r hx (by rw [kx]; rfl)) z13
    have z62 : q_ir (q_r f47 x 4) hist := Eq.trans (hF.r hx (by rw [kx]; rfl)) z14
    have z63 : q_ir (q_r f47 x 5) rep := Eq.trans (hF.r hx (by rw [kx]; rfl)) z15
    have z64 : q_ir (q_r f47 x 6) now := Eq.trans (hF.r hx (by rw [kx]; rfl)) z16
    have z65 : q_ir (q_r f47 x 7) dr := Eq.trans (hF.r hx (by rw [kx]; rfl)) z17
    have z66 : q_ir (q_r f47 x 8) sv := Eq.trans (hF.r hx (by rw [kx]; rfl)) z18
    have z67 : q_ir (q_r f47 fc 0) tr := Eq.trans (hF.r hfc (by rw [kfc]; rfl)) z19
    have z68 : q_ir (q_r f47 so 0) ba := Eq.trans (hF.r hso (by rw [kso]; rfl)) z20
    have z69 : q_ir (q_r f47 dr 0) nds := Eq.trans (hF.r hdr (by rw [kdr]; rfl)) z21
    have z70 : q_ir (q_r f47 mo 1) bu := Eq.trans (hF.r hmo (by rw [kmo]; rfl)) z22
    have z71 : q_ir (q_r f47 mo 13) sr := Eq.trans (hF.r hmo (by rw [kmo]; rfl)) z23
    have z72 : q_ir (q_r f47 mo 14) sd := Eq.trans (hF.r hmo (by rw [kmo]; rfl)) z24
    have z73 : q_ir (q_r f47 mo 15) as := Eq.trans (hF.r hmo (by rw [kmo]; rfl)) z25
    have z74 : q_ir (q_r f47 mo 16) aw := Eq.trans (hF.r hmo (by rw [kmo]; rfl)) z26
    have z75 : q_ir (q_r f47 mo 17) pa := Eq.trans (hF.r hmo (by rw [kmo]; rfl)) z27
    have z76 : q_ir (q_r f47 mo 18) nm := Eq.trans (hF.r hmo (by rw [kmo]; rfl)) z28
    have z77 : q_ir (q_r f47 mo 19) snm := Eq.trans (hF.r hmo (by rw [kmo]; rfl)) z29
    have z78 : q_ir (q_r f47 mo 20) anm := Eq.trans (hF.r hmo (by rw [kmo]; rfl)) z30
    have z79 : q_ir (q_r f47 mo 24) hp := Eq.trans (hF.r hmo (by rw [kmo]; rfl)) z31
    have z80 : q_ir (q_r f47 mo 25) dy := Eq.trans (hF.r hmo (by rw [kmo]; rfl)) z32
    have z81 : q_ir (q_r f47 mo 29) cs := Eq.trans (hF.r hmo (by rw [kmo]; rfl)) z33
    have z82 : q_ir (q_r f47 mo 30) c1 := Eq.trans (hF.r hmo (by rw [kmo]; rfl)) z34
    have z83 : q_ir (q_r f47 mo 31) c2 := Eq.trans (hF.r hmo (by rw [kmo]; rfl)) z35
    have z84 : q_ir (q_r f47 mo 32) c3 := Eq.trans (hF.r hmo (by rw [kmo]; rfl)) z36
    have z85 : q_ir (q_r f47 mo 33) bg := Eq.trans (hF.r hmo (by rw [kmo]; rfl)) z37
    have z86 : q_ir (q_r f47 mo 34) lp := Eq.trans (hF.r hmo (by rw [kmo]; rfl)) z38
    have z87 : q_ir (q_r f47 mo 38) rp := Eq.trans (hF.r hmo (by rw [kmo]; rfl)) z39
    have g88 : q_gr f47 sr := q_gr_fr g40 (fun i9 _ => hF.z hsr (by rw [ksr]; rfl))
    have g89 : q_pk f47 mo pa := q_pk_tr g41 (hF.z hmo (by rw [kmo]; rfl)) (fun i9 => hF.z hpa (by rw [kpa]; rfl))
    have g90 : q_sv f47 mo sd := q_sv_tr g42 (hF.z hmo (by rw [kmo]; rfl)) (fun i9 => hF.z hsd (by rw [ksd]; rfl))
    have g91 : tk_bb f47 bu ba tn := tk_bb_tr g43 (fun i9 => hF.z hbu (by rw [kbu]; rfl)) (fun i9 => hF.z hba (by rw [kba]; rfl))
    have g92 : tk_ij K L f47 nds := tk_ij_tr g44 (fun i9 => hF.r hnds (by rw [knds]; rfl))
    obtain ⟨x93, ex93⟩ : ∃ zz, q_is (q_z f47 sr 3) zz := ⟨_, q_isr _⟩
    obtain ⟨lx93, ux93⟩ := q_isb ex93 ⟨lz50, uz50⟩
    obtain ⟨x94, ex94⟩ : ∃ zz, q_is (q_z f47 sr 4) zz := ⟨_, q_isr _⟩
    obtain ⟨lx94, ux94⟩ := q_isb ex94 ⟨lz51, uz51⟩
    subst qy48
    refine lv_pop cx.1 cx.2.1 dL_law_1488 rfl ?_
    refine lv_goto (tgt := 1521) cx.1 cx.2.1 dL_law_1489 (by decide) ?_
    refine W.widen (k := cells + 6) (n := slots + 36) (by omega) (by omega) ?_
    exact kk f47 H locs ls tn hB ⟨⟨z53, (Eq.trans z54 (by omega)), by omega, by omega⟩, g88, g52, g90, q_isu ex93 (by omega), q_isu ex94 (by omega), tk_bb_le g91 (by omega)⟩ (lv_sub hl [0, 1, 2, 3, 4, 5] rfl)
  · refine q_cVi (As := []) (rest := []) cx hB (fun q h => hLA q h) hN hmo kmo (by decide) rfl (r_undo1 l g hN hB.2.1 mo hmo kmo sr hsr ksr pa hpa kpa x1 (by omega) (by omega) x2 (by omega) (by omega) x45 (by omega) (by omega) z8 z9 ex45 z23 z27 g40 g41) q_cL_253 q_dX12_undo ⟨by decide, by show cells + 0 ≤ 601024; omega, by show slots + 0 ≤ 7293034; omega⟩ rfl rfl hl.1 rfl (Nat.le_of_ble_eq_true rfl) dL_law_1485 (fun y96 H locs f95 ry96 h97 hF hB => ?_)
    obtain ⟨ly96, uy96, lz98, uz98, lz99, uz99, g100, g101⟩ := h97
    have z102 : q_is (q_z f95 so 1) tn := Eq.trans (hF.z hso (by rw [kso]; rfl)) z6
    have z103 : q_is (q_z f95 mo 2) tn := Eq.trans (hF.z hmo (by rw [kmo]; rfl)) z7
    have z104 : q_ir (q_r f95 x 0) so := Eq.trans (hF.r hx (by rw [kx]; rfl)) z10
    have z105 : q_ir (q_r f95 x 1) rd := Eq.trans (hF.r hx (by rw [kx]; rfl)) z11
    have z106 : q_ir (q_r f95 x 2) scr := Eq.trans (hF.r hx (by rw [kx]; rfl)) z12
    have z107 : q_ir (q_r f95 x 3) fc := Eq.trans (hF.r hx (by rw [kx]; rfl)) z13
    have z108 : q_ir (q_r f95 x 4) hist := Eq.trans (hF.r hx (by rw [kx]; rfl)) z14
    have z109 : q_ir (q_r f95 x 5) rep := Eq.trans (hF.r hx (by rw [kx]; rfl)) z15
    have z110 : q_ir (q_r f95 x 6) now := Eq.trans (hF.r hx (by rw [kx]; rfl)) z16
    have z111 : q_ir (q_r f95 x 7) dr := Eq.trans (hF.r hx (by rw [kx]; rfl)) z17
    have z112 : q_ir (q_r f95 x 8) sv := Eq.trans (hF.r hx (by rw [kx]; rfl)) z18
    have z113 : q_ir (q_r f95 fc 0) tr := Eq.trans (hF.r hfc (by rw [kfc]; rfl)) z19
    have z114 : q_ir (q_r f95 so 0) ba := Eq.trans (hF.r hso (by rw [kso]; rfl)) z20
    have z115 : q_ir (q_r f95 dr 0) nds := Eq.trans (hF.r hdr (by rw [kdr]; rfl)) z21
    have z116 : q_ir (q_r f95 mo 1) bu := Eq.trans (hF.r hmo (by rw [kmo]; rfl)) z22
    have z117 : q_ir (q_r f95 mo 13) sr := Eq.trans (hF.r hmo (by rw [kmo]; rfl)) z23
    have z118 : q_ir (q_r f95 mo 14) sd := Eq.trans (hF.r hmo (by rw [kmo]; rfl)) z24
    have z119 : q_ir (q_r f95 mo 15) as := Eq.trans (hF.r hmo (by rw [kmo]; rfl)) z25
    have z120 : q_ir (q_r f95 mo 16) aw := Eq.trans (hF.r hmo (by rw [kmo]; rfl)) z26
    have z121 : q_ir (q_r f95 mo 17) pa := Eq.trans (hF.r hmo (by rw [kmo]; rfl)) z27
    have z122 : q_ir (q_r f95 mo 18) nm := Eq.trans (hF.r hmo (by rw [kmo]; rfl)) z28
    have z123 : q_ir (q_r f95 mo 19) snm := Eq.trans (hF.r hmo (by rw [kmo]; rfl)) z29
    have z124 : q_ir (q_r f95 mo 20) anm := Eq.trans (hF.r hmo (by rw [kmo]; rfl)) z30
    have z125 : q_ir (q_r f95 mo 24) hp := Eq.trans (hF.r hmo (by rw [kmo]; rfl)) z31
    have z126 : q_ir (q_r f95 mo 25) dy := Eq.trans (hF.r hmo (by rw [kmo]; rfl)) z32
    have z127 : q_ir (q_r f95 mo 29) cs := Eq.trans (hF.r hmo (by rw [kmo]; rfl)) z33
    have z128 : q_ir (q_r f95 mo 30) c1 := Eq.trans (hF.r hmo (by rw [kmo]; rfl)) z34
    have z129 : q_ir (q_r f95 mo 31) c2 := Eq.trans (hF.r hmo (by rw [kmo]; rfl)) z35
    have z130 : q_ir (q_r f95 mo 32) c3 := Eq.trans (hF.r hmo (by rw [kmo]; rfl)) z36
    have z131 : q_ir (q_r f95 mo 33) bg := Eq.trans (hF.r hmo (by rw [kmo]; rfl)) z37
    have z132 : q_ir (q_r f95 mo 34) lp := Eq.trans (hF.r hmo (by rw [kmo]; rfl)) z38
    have z133 : q_ir (q_r f95 mo 38) rp := Eq.trans (hF.r hmo (by rw [kmo]; rfl)) z39
    have g134 : q_sv f95 mo sd := q_sv_tr g42 (hF.z hmo (by rw [kmo]; rfl)) (fun i9 => hF.z hsd (by rw [ksd]; rfl))
    have g135 : tk_bb f95 bu ba tn := tk_bb_tr g43 (fun i9 => hF.z hbu (by rw [kbu]; rfl)) (fun i9 => hF.z hba (by rw [kba]; rfl))
    have g136 : tk_ij K L f95 nds := tk_ij_tr g44 (fun i9 => hF.r hnds (by rw [knds]; rfl))
    obtain ⟨x137, ex137⟩ : ∃ zz, q_is (q_z f95 sr 3) zz := ⟨_, q_isr _⟩
    obtain ⟨lx137, ux137⟩ := q_isb ex137 ⟨lz98, uz98⟩
    obtain ⟨x138, ex138⟩ : ∃ zz, q_is (q_z f95 sr 4) zz := ⟨_, q_isr _⟩
    obtain ⟨lx138, ux138⟩ := q_isb ex138 ⟨lz99, uz99⟩
    refine lv_pop cx.1 cx.2.1 dL_law_1488 rfl ?_
    refine lv_goto (tgt := 1521) cx.1 cx.2.1 dL_law_1489 (by decide) ?_
    refine W.widen (k := cells + 6) (n := slots + 36) (by omega) (by omega) ?_
    exact kk f95 H locs ls tn hB ⟨⟨z102, (Eq.trans z103 (by omega)), by omega, by omega⟩, g100, g101, g134, q_isu ex137 (by omega), q_isu ex138 (by omega), tk_bb_le g135 (by omega)⟩ (lv_sub hl [0, 1, 2, 3, 4, 5] rfl)
set_option maxHeartbeats 4000000 in
set_option maxRecDepth 100000 in
theorem law_c1492 {p : Program} {l : Launch} {e : Env} {s : State} {m : MethodId} {below : List Frame} {meth : Method} {c : Code} {b N9 : Nat} {xs : Nat → Int32} (hfl : l.stackTraces = false) (hN9 : N9 ≤ 3072) (C0 : lw_At p s m meth c b N9 xs) (cx : CallFix p m c cL_law 10 s #[Value.ref b] q_al RL) {g : q_G} {ad : Nat → Nat} {K : Nat → Nat} {L : List Nat} (hN : L.Nodup) (hLA : ∀ q, q ∈ L → s.heap.size ≤ q) (hX : q_X ad (fun q => q ∈ L) s) {f0 : Nat → va_E} {x : Nat} (hx : x ∈ L) (kx : K x = 11) {so : Nat} (hso : so ∈ L) (kso : K so = 8) {rd : Nat} (hrd : rd ∈ L) (krd : K rd = 9) {scr : Nat} (hscr : scr ∈ L) (kscr : K scr = 7) {fc : Nat} (hfc : fc ∈ L) (kfc : K fc = 1) {hist : Nat} (hhist : hist ∈ L) (khist : K hist = 2) {rep : Nat} (hrep : rep ∈ L) (krep : K rep = 6) {now : Nat} (hnow : now ∈ L) (know : K now = 10) {dr : Nat} (hdr : dr ∈ L) (kdr : K dr = 13) {sv : Nat} (hsv : sv ∈ L) (ksv : K sv = 14) {tr : Nat} (htr : tr ∈ L) (ktr : K tr = 15) {ba : Nat} (hba : ba ∈ L) (kba : K ba = 142) {nds : Nat} (hnds : nds ∈ L) (knds : K nds = 111) {mo : Nat} (hmo : mo ∈ L) (kmo : K mo = 12) {bu : Nat} (hbu : bu ∈ L) (kbu : K bu = 150) {sr : Nat} (hsr : sr ∈ L) (ksr : K sr = 151) {sd : Nat} (hsd : sd ∈ L) (ksd : K sd = 152) {as : Nat} (has : as ∈ L) (kas : K as = 153) {aw : Nat} (haw : aw ∈ L) (kaw : K aw = 154) {pa : Nat} (hpa : pa ∈ L) (kpa : K pa = 155) {nm : Nat} (hnm : nm ∈ L) (knm : K nm = 156) {snm : Nat} (hsnm : snm ∈ L) (ksnm : K snm = 157) {anm : Nat} (hanm : anm ∈ L) (kanm : K anm = 158) {hp : Nat} (hhp : hp ∈ L) (khp : K hp = 159) {dy : Nat} (hdy : dy ∈ L) (kdy : K dy = 160) {cs : Nat} (hcs : cs ∈ L) (kcs : K cs = 161) {c1 : Nat} (hc1 : c1 ∈ L) (kc1 : K c1 = 162) {c2 : Nat} (hc2 : c2 ∈ L) (kc2 : K c2 = 163) {c3 : Nat} (hc3 : c3 ∈ L) (kc3 : K c3 = 164) {bg : Nat} (hbg : bg ∈ L) (kbg : K bg = 165) {lp : Nat} (hlp : lp ∈ L) (klp : K lp = 166) {rp : Nat} (hrp : rp ∈ L) (krp : K rp = 167) {out : Nat} (hout : out ∈ L) (kout : K out = 168) {outD : Nat} (houtD : outD ∈ L) (koutD : K outD = 169) (hr0 : q_ir (q_r f0 x 0) so) (hr1 : q_ir (q_r f0 x 1) rd) (hr2 : q_ir (q_r f0 x 2) scr) (hr3 : q_ir (q_r f0 x 3) fc) (hr4 : q_ir (q_r f0 x 4) hist) (hr5 : q_ir (q_r f0 x 5) rep) (hr6 : q_ir (q_r f0 x 6) now) (hr7 : q_ir (q_r f0 x 7) dr) (hr8 : q_ir (q_r f0 x 8) sv) (hr9 : q_ir (q_r f0 fc 0) tr) (hr10 : q_ir (q_r f0 so 0) ba) (hr11 : q_ir (q_r f0 dr 0) nds) (hr12 : q_ir (q_r f0 mo 1) bu) (hr13 : q_ir (q_r f0 mo 13) sr) (hr14 : q_ir (q_r f0 mo 14) sd) (hr15 : q_ir (q_r f0 mo 15) as) (hr16 : q_ir (q_r f0 mo 16) aw) (hr17 : q_ir (q_r f0 mo 17) pa) (hr18 : q_ir (q_r f0 mo 18) nm) (hr19 : q_ir (q_r f0 mo 19) snm) (hr20 : q_ir (q_r f0 mo 20) anm) (hr21 : q_ir (q_r f0 mo 24) hp) (hr22 : q_ir (q_r f0 mo 25) dy) (hr23 : q_ir (q_r f0 mo 29) cs) (hr24 : q_ir (q_r f0 mo 30) c1) (hr25 : q_ir (q_r f0 mo 31) c2) (hr26 : q_ir (q_r f0 mo 32) c3) (hr27 : q_ir (q_r f0 mo 33) bg) (hr28 : q_ir (q_r f0 mo 34) lp) (hr29 : q_ir (q_r f0 mo 38) rp) (hij : tk_ij K L f0 nds) {f : Nat → va_E} {H : Heap} {locs : List Loc} {ls : Array Slot} {cells slots : Nat} {ii tn : Int} (hB : q_B g K L (fun q => s.heap.size ≤ q) [(0, 0, 6), (2, 1, 2), (3, 0, 4), (4, 0, 7), (5, 0, 9), (6, 1, 1), (7, 1, 4), (8, 1, 9), (9, 0, 2), (10, 3, 15), (11, 9, 9), (12, 0, 0), (12, 2, 12), (12, 21, 23), (12, 26, 28), (12, 35, 37), (12, 39, 40), (13, 3, 15), (14, 3, 15), (15, 3, 15), (16, 3, 15), (17, 0, 9), (18, 0, 9), (19, 0, 9), (20, 0, 9), (21, 0, 4), (22, 0, 4), (23, 0, 4), (24, 0, 4), (25, 0, 7), (26, 0, 7), (27, 0, 7), (28, 0, 7), (142, 0, 599), (143, 0, 599), (150, 0, 599), (151, 0, 657), (152, 0, 657), (153, 0, 657), (154, 0, 657), (155, 0, 3947), (156, 0, 9), (157, 0, 9), (158, 0, 9), (159, 0, 9), (160, 0, 9), (161, 0, 59), (162, 0, 58), (163, 0, 58), (164, 0, 58), (165, 0, 1), (166, 0, 1), (167, 0, 479), (168, 0, 0), (169, 0, 0)] f0 f s H locs) (hI : q_Iv4 f so mo sr pa sd bu ba tn) (hl : lv_has ls 10 [(5, .int (q_i ii)), (4, .ref outD), (3, .ref out), (2, .ref mo), (1, .ref x), (0, .ref b)]) (hi0 : 0 ≤ ii) (hi6 : ii + 6 ≤ N9) (hce : cells + 6 ≤ 10000) (hse : slots + 36 ≤ 100000) (kk : ∀ (f1 : Nat → va_E) (H1 : Heap) (locs1 : List Loc) (ls1 : Array Slot) (tn1 : Int), q_B g K L (fun q => s.heap.size ≤ q) [(0, 0, 6), (2, 1, 2), (3, 0, 4), (4, 0, 7), (5, 0, 9), (6, 1, 1), (7, 1, 4), (8, 1, 9), (9, 0, 2), (10, 3, 15), (11, 9, 9), (12, 0, 0), (12, 2, 12), (12, 21, 23), (12, 26, 28), (12, 35, 37), (12, 39, 40), (13, 3, 15), (14, 3, 15), (15, 3, 15), (16, 3, 15), (17, 0, 9), (18, 0, 9), (19, 0, 9), (20, 0, 9), (21, 0, 4), (22, 0, 4), (23, 0, 4), (24, 0, 4), (25, 0, 7), (26, 0, 7), (27, 0, 7), (28, 0, 7), (142, 0, 599), (143, 0, 599), (150, 0, 599), (151, 0, 657), (152, 0, 657), (153, 0, 657), (154, 0, 657), (155, 0, 3947), (156, 0, 9), (157, 0, 9), (158, 0, 9), (159, 0, 9), (160, 0, 9), (161, 0, 59), (162, 0, 58), (163, 0, 58), (164, 0, 58), (165, 0, 1), (166, 0, 1), (167, 0, 479), (168, 0, 0), (169, 0, 0)] f0 f1 s H1 locs1 → q_Iv4 f1 so mo sr pa sd bu ba tn1 → lv_has ls1 10 [(5, .int (q_i ii)), (4, .ref outD), (3, .ref out), (2, .ref mo), (1, .ref x), (0, .ref b)] → W p l e room_1 s m #[Value.ref b] below meth c H1 locs1 (cells + 6) (slots + 36) (lw_Z below #[Value.ref b] s) (F0 m 1521 ls1 [])) : W p l e room_1 s m #[Value.ref b] below meth c H locs (cells) (slots) (lw_Z below #[Value.ref b] s) (F0 m 1492 ls []) := by
  have hXs := C0.2.2.2.2.2.2.1
  have hbl := C0.2.2.2.2.2.2.2.1
  have hbA := q_bA hbl
  obtain ⟨⟨hn0, hn1, ltn, utn⟩, hgr, hpk, hsd9, ht3, ht4, hbb⟩ := hI
  have hr0 : q_ir (q_r f x 0) so := Eq.trans (hB.2.2.r hx (by rw [kx]; rfl)) hr0
  have hr1 : q_ir (q_r f x 1) rd := Eq.trans (hB.2.2.r hx (by rw [kx]; rfl)) hr1
  have hr2 : q_ir (q_r f x 2) scr := Eq.trans (hB.2.2.r hx (by rw [kx]; rfl)) hr2
  have hr3 : q_ir (q_r f x 3) fc := Eq.trans (hB.2.2.r hx (by rw [kx]; rfl)) hr3
  have hr4 : q_ir (q_r f x 4) hist := Eq.trans (hB.2.2.r hx (by rw [kx]; rfl)) hr4
  have hr5 : q_ir (q_r f x 5) rep := Eq.trans (hB.2.2.r hx (by rw [kx]; rfl)) hr5
  have hr6 : q_ir (q_r f x 6) now := Eq.trans (hB.2.2.r hx (by rw [kx]; rfl)) hr6
  have hr7 : q_ir (q_r f x 7) dr := Eq.trans (hB.2.2.r hx (by rw [kx]; rfl)) hr7
  have hr8 : q_ir (q_r f x 8) sv := Eq.trans (hB.2.2.r hx (by rw [kx]; rfl)) hr8
  have hr9 : q_ir (q_r f fc 0) tr := Eq.trans (hB.2.2.r hfc (by rw [kfc]; rfl)) hr9
  have hr10 : q_ir (q_r f so 0) ba := Eq.trans (hB.2.2.r hso (by rw [kso]; rfl)) hr10
  have hr11 : q_ir (q_r f dr 0) nds := Eq.trans (hB.2.2.r hdr (by rw [kdr]; rfl)) hr11
  have hr12 : q_ir (q_r f mo 1) bu := Eq.trans (hB.2.2.r hmo (by rw [kmo]; rfl)) hr12
  have hr13 : q_ir (q_r f mo 13) sr := Eq.trans (hB.2.2.r hmo (by rw [kmo]; rfl)) hr13
  have hr14 : q_ir (q_r f mo 14) sd := Eq.trans (hB.2.2.r hmo (by rw [kmo]; rfl)) hr14
  have hr15 : q_ir (q_r f mo 15) as := Eq.trans (hB.2.2.r hmo (by rw [kmo]; rfl)) hr15
  have hr16 : q_ir (q_r f mo 16) aw := Eq.trans (hB.2.2.r hmo (by rw [kmo]; rfl)) hr16
  have hr17 : q_ir (q_r f mo 17) pa := Eq.trans (hB.2.2.r hmo (by rw [kmo]; rfl)) hr17
  have hr18 : q_ir (q_r f mo 18) nm := Eq.trans (hB.2.2.r hmo (by rw [kmo]; rfl)) hr18
  have hr19 : q_ir (q_r f mo 19) snm := Eq.trans (hB.2.2.r hmo (by rw [kmo]; rfl)) hr19
  have hr20 : q_ir (q_r f mo 20) anm := Eq.trans (hB.2.2.r hmo (by rw [kmo]; rfl)) hr20
  have hr21 : q_ir (q_r f mo 24) hp := Eq.trans (hB.2.2.r hmo (by rw [kmo]; rfl)) hr21
  have hr22 : q_ir (q_r f mo 25) dy := Eq.trans (hB.2.2.r hmo (by rw [kmo]; rfl)) hr22
  have hr23 : q_ir (q_r f mo 29) cs := Eq.trans (hB.2.2.r hmo (by rw [kmo]; rfl)) hr23
  have hr24 : q_ir (q_r f mo 30) c1 := Eq.trans (hB.2.2.r hmo (by rw [kmo]; rfl)) hr24
  have hr25 : q_ir (q_r f mo 31) c2 := Eq.trans (hB.2.2.r hmo (by rw [kmo]; rfl)) hr25
  have hr26 : q_ir (q_r f mo 32) c3 := Eq.trans (hB.2.2.r hmo (by rw [kmo]; rfl)) hr26
  have hr27 : q_ir (q_r f mo 33) bg := Eq.trans (hB.2.2.r hmo (by rw [kmo]; rfl)) hr27
  have hr28 : q_ir (q_r f mo 34) lp := Eq.trans (hB.2.2.r hmo (by rw [kmo]; rfl)) hr28
  have hr29 : q_ir (q_r f mo 38) rp := Eq.trans (hB.2.2.r hmo (by rw [kmo]; rfl)) hr29
  have hij : tk_ij K L f nds := tk_ij_tr hij (fun i9 => hB.2.2.r hnds (by rw [knds]; rfl))
  obtain ⟨x1, ex1⟩ : ∃ zz, q_is (q_z f sr 3) zz := ⟨_, q_isr _⟩
  obtain ⟨lx1, ux1⟩ : 0 ≤ x1 ∧ x1 ≤ 9999 := q_isb ex1 ⟨(hgr 3 (by decide)).1, ht3⟩
  obtain ⟨x2, ex2⟩ : ∃ zz, q_is (q_z f sr 4) zz := ⟨_, q_isr _⟩
  obtain ⟨lx2, ux2⟩ : 0 ≤ x2 ∧ x2 ≤ 60 := q_isb ex2 ⟨(hgr 4 (by decide)).1, ht4⟩
  refine q_ald_n cx dL_law_1492 rfl (lv_at hl 4 rfl) ?_
  refine q_cVi (As := []) (rest := []) cx hB (fun q h => hLA q h) hN hx kx (by decide) rfl (x_save l g hN hB.2.1 x hx kx so hso kso rd hrd krd scr hscr kscr fc hfc kfc hist hhist khist rep hrep krep now hnow know dr hdr kdr sv hsv ksv tr htr ktr hr0 hr1 hr2 hr3 hr4 hr5 hr6 hr7 hr8 hr9) q_cL_254 q_dX11_save ⟨by decide, by show cells + 0 ≤ 601024; omega, by show slots + 0 ≤ 7293034; omega⟩ rfl rfl hl.1 rfl (Nat.le_of_ble_eq_true rfl) dL_law_1493 (fun y4 H locs f3 ry4 h5 hF hB => ?_)
  have z6 : q_is (q_z f3 so 1) tn := Eq.trans (hF.z hso (by rw [kso]; rfl)) hn0
  have z7 : q_is (q_z f3 mo 2) tn := Eq.trans (hF.z hmo (by rw [kmo]; rfl)) hn1
  have z8 : q_is (q_z f3 sr 3) x1 := Eq.trans (hF.z hsr (by rw [ksr]; rfl)) ex1
  have z9 : q_is (q_z f3 sr 4) x2 := Eq.trans (hF.z hsr (by rw [ksr]; rfl)) ex2
  have z10 : q_ir (q_r f3 x 0) so := Eq.trans (hF.r hx (by rw [kx]; rfl)) hr0
  have z11 : q_ir (q_r f3 x 1) rd := Eq.trans (hF.r hx (by rw [kx]; rfl)) hr1
  have z12 : q_ir (q_r f3 x 2) scr := Eq.trans (hF.r hx (by rw [kx]; rfl)) hr2
  have z13 : q_ir (q_r f3 x 3) fc := Eq.trans (hF.r hx (by rw [kx]; rfl)) hr3
  have z14 : q_ir (q_r f3 x 4) hist := Eq.trans (hF.r hx (by rw [kx]; rfl)) hr4
  have z15 : q_ir (q_r f3 x 5) rep := Eq.trans (hF.r hx (by rw [kx]; rfl)) hr5
  have z16 : q_ir (q_r f3 x 6) now := Eq.trans (hF.r hx (by rw [kx]; rfl)) hr6
  have z17 : q_ir (q_r f3 x 7) dr := Eq.trans (hF.r hx (by rw [kx]; rfl)) hr7
  have z18 : q_ir (q_r f3 x 8) sv := Eq.trans (hF.r hx (by rw [kx]; rfl)) hr8
  have z19 : q_ir (q_r f3 fc 0) tr := Eq.trans (hF.r hfc (by rw [kfc]; rfl)) hr9
  have z20 : q_ir (q_r f3 so 0) ba := Eq.trans (hF.r hso (by rw [kso]; rfl)) hr10
  have z21 : q_ir (q_r f3 dr 0) nds := Eq.trans (hF.r hdr (by rw [kdr]; rfl)) hr11
  have z22 : q_ir (q_r f3 mo 1) bu := Eq.trans (hF.r hmo (by rw [kmo]; rfl)) hr12
  have z23 : q_ir (q_r f3 mo 13) sr := Eq.trans (hF.r hmo (by rw [kmo]; rfl)) hr13
  have z24 : q_ir (q_r f3 mo 14) sd := Eq.trans (hF.r hmo (by rw [kmo]; rfl)) hr14
  have z25 : q_ir (q_r f3 mo 15) as := Eq.trans (hF.r hmo (by rw [kmo]; rfl)) hr15
  have z26 : q_ir (q_r f3 mo 16) aw := Eq.trans (hF.r hmo (by rw [kmo]; rfl)) hr16
  have z27 : q_ir (q_r f3 mo 17) pa := Eq.trans (hF.r hmo (by rw [kmo]; rfl)) hr17
  have z28 : q_ir (q_r f3 mo 18) nm := Eq.trans (hF.r hmo (by rw [kmo]; rfl)) hr18
  have z29 : q_ir (q_r f3 mo 19) snm := Eq.trans (hF.r hmo (by rw [kmo]; rfl)) hr19
  have z30 : q_ir (q_r f3 mo 20) anm := Eq.trans (hF.r hmo (by rw [kmo]; rfl)) hr20
  have z31 : q_ir (q_r f3 mo 24) hp := Eq.trans (hF.r hmo (by rw [kmo]; rfl)) hr21
  have z32 : q_ir (q_r f3 mo 25) dy := Eq.trans (hF.r hmo (by rw [kmo]; rfl)) hr22
  have z33 : q_ir (q_r f3 mo 29) cs := Eq.trans (hF.r hmo (by rw [kmo]; rfl)) hr23
  have z34 : q_ir (q_r f3 mo 30) c1 := Eq.trans (hF.r hmo (by rw [kmo]; rfl)) hr24
  have z35 : q_ir (q_r f3 mo 31) c2 := Eq.trans (hF.r hmo (by rw [kmo]; rfl)) hr25
  have z36 : q_ir (q_r f3 mo 32) c3 := Eq.trans (hF.r hmo (by rw [kmo]; rfl)) hr26
  have z37 : q_ir (q_r f3 mo 33) bg := Eq.trans (hF.r hmo (by rw [kmo]; rfl)) hr27
  have z38 : q_ir (q_r f3 mo 34) lp := Eq.trans (hF.r hmo (by rw [kmo]; rfl)) hr28
  have z39 : q_ir (q_r f3 mo 38) rp := Eq.trans (hF.r hmo (by rw [kmo]; rfl)) hr29
  have g40 : q_gr f3 sr := q_gr_fr hgr (fun i9 _ => hF.z hsr (by rw [ksr]; rfl))
  have g41 : q_pk f3 mo pa := q_pk_tr hpk (hF.z hmo (by rw [kmo]; rfl)) (fun i9 => hF.z hpa (by rw [kpa]; rfl))
  have g42 : q_sv f3 mo sd := q_sv_tr hsd9 (hF.z hmo (by rw [kmo]; rfl)) (fun i9 => hF.z hsd (by rw [ksd]; rfl))
  have g43 : tk_bb f3 bu ba tn := tk_bb_tr hbb (fun i9 => hF.z hbu (by rw [kbu]; rfl)) (fun i9 => hF.z hba (by rw [kba]; rfl))
  have g44 : tk_ij K L f3 nds := tk_ij_tr hij (fun i9 => hF.r hnds (by rw [knds]; rfl))
  refine lv_pop cx.1 cx.2.1 dL_law_1496 rfl ?_
  refine q_ald_n cx dL_law_1497 rfl (lv_at hl 3 rfl) ?_
  refine q_cVi (As := []) (rest := []) cx hB (fun q h => hLA q h) hN hmo kmo (by decide) rfl (r_save l g hN hB.2.1 mo hmo kmo sr hsr ksr sd hsd ksd nm hnm knm snm hsnm ksnm x1 (by omega) (by omega) x2 (by omega) (by omega) z8 z9 z23 z24 z28 z29 g40) q_cL_257 q_dX12_save ⟨by decide, by show cells + 0 ≤ 601024; omega, by show slots + 0 ≤ 7293034; omega⟩ rfl rfl hl.1 rfl (Nat.le_of_ble_eq_true rfl) dL_law_1498 (fun y46 H locs f45 ry46 h47 hF hB => ?_)
  obtain ⟨ly46, uy46, g48⟩ := h47
  have z49 : q_is (q_z f45 so 1) tn := Eq.trans (hF.z hso (by rw [kso]; rfl)) z6
  have z50 : q_is (q_z f45 mo 2) tn := Eq.trans (hF.z hmo (by rw [kmo]; rfl)) z7
  have z51 : q_is (q_z f45 sr 3) x1 := Eq.trans (hF.z hsr (by rw [ksr]; rfl)) z8
  have z52 : q_is (q_z f45 sr 4) x2 := Eq.trans (hF.z hsr (by rw [ksr]; rfl)) z9
  have z53 : q_ir (q_r f45 x 0) so := Eq.trans (hF.r hx (by rw [kx]; rfl)) z10
  have z54 : q_ir (q_r f45 x 1) rd := Eq.trans (hF.r hx (by rw [kx]; rfl)) z11
  have z55 : q_ir (q_r f45 x 2) scr := Eq.trans (hF.r hx (by rw [kx]; rfl)) z12
  have z56 : q_ir (q_r f45 x 3) fc := Eq.trans (hF.r hx (by rw [kx]; rfl)) z13
  have z57 : q_ir (q_r f45 x 4) hist := Eq.trans (hF.r hx (by rw [kx]; rfl)) z14
  have z58 : q_ir (q_r f45 x 5) rep := Eq.trans (hF.r hx (by rw [kx]; rfl)) z15
  have z59 : q_ir (q_r f45 x 6) now := Eq.trans (hF.r hx (by rw [kx]; rfl)) z16
  have z60 : q_ir (q_r f45 x 7) dr := Eq.trans (hF.r hx (by rw [kx]; rfl)) z17
  have z61 : q_ir (q_r f45 x 8) sv := Eq.trans (hF.r hx (by rw [kx]; rfl)) z18
  have z62 : q_ir (q_r f45 fc 0) tr := Eq.trans (hF.r hfc (by rw [kfc]; rfl)) z19
  have z63 : q_ir (q_r f45 so 0) ba := Eq.trans (hF.r hso (by rw [kso]; rfl)) z20
  have z64 : q_ir (q_r f45 dr 0) nds := Eq.trans (hF.r hdr (by rw [kdr]; rfl)) z21
  have z65 : q_ir (q_r f45 mo 1) bu := Eq.trans (hF.r hmo (by rw [kmo]; rfl)) z22
  have z66 : q_ir (q_r f45 mo 13) sr := Eq.trans (hF.r hmo (by rw [kmo]; rfl)) z23
  have z67 : q_ir (q_r f45 mo 14) sd := Eq.trans (hF.r hmo (by rw [kmo]; rfl)) z24
  have z68 : q_ir (q_r f45 mo 15) as := Eq.trans (hF.r hmo (by rw [kmo]; rfl)) z25
  have z69 : q_ir (q_r f45 mo 16) aw := Eq.trans (hF.r hmo (by rw [kmo]; rfl)) z26
  have z70 : q_ir (q_r f45 mo 17) pa := Eq.trans (hF.r hmo (by rw [kmo]; rfl)) z27
  have z71 : q_ir (q_r f45 mo 18) nm := Eq.trans (hF.r hmo (by rw [kmo]; rfl)) z28
  have z72 : q_ir (q_r f45 mo 19) snm := Eq.trans (hF.r hmo (by rw [kmo]; rfl)) z29
  have z73 : q_ir (q_r f45 mo 20) anm := Eq.trans (hF.r hmo (by rw [kmo]; rfl)) z30
  have z74 : q_ir (q_r f45 mo 24) hp := Eq.trans (hF.r hmo (by rw [kmo]; rfl)) z31
  have z75 : q_ir (q_r f45 mo 25) dy := Eq.trans (hF.r hmo (by rw [kmo]; rfl)) z32
  have z76 : q_ir (q_r f45 mo 29) cs := Eq.trans (hF.r hmo (by rw [kmo]; rfl)) z33
  have z77 : q_ir (q_r f45 mo 30) c1 := Eq.trans (hF.r hmo (by rw [kmo]; rfl)) z34
  have z78 : q_ir (q_r f45 mo 31) c2 := Eq.trans (hF.r hmo (by rw [kmo]; rfl)) z35
  have z79 : q_ir (q_r f45 mo 32) c3 := Eq.trans (hF.r hmo (by rw [kmo]; rfl)) z36
  have z80 : q_ir (q_r f45 mo 33) bg := Eq.trans (hF.r hmo (by rw [kmo]; rfl)) z37
  have z81 : q_ir (q_r f45 mo 34) lp := Eq.trans (hF.r hmo (by rw [kmo]; rfl)) z38
  have z82 : q_ir (q_r f45 mo 38) rp := Eq.trans (hF.r hmo (by rw [kmo]; rfl)) z39
  have g83 : q_gr f45 sr := q_gr_fr g40 (fun i9 _ => hF.z hsr (by rw [ksr]; rfl))
  have g84 : q_pk f45 mo pa := q_pk_tr g41 (hF.z hmo (by rw [kmo]; rfl)) (fun i9 => hF.z hpa (by rw [kpa]; rfl))
  have g85 : tk_bb f45 bu ba tn := tk_bb_tr g43 (fun i9 => hF.z hbu (by rw [kbu]; rfl)) (fun i9 => hF.z hba (by rw [kba]; rfl))
  have g86 : tk_ij K L f45 nds := tk_ij_tr g44 (fun i9 => hF.r hnds (by rw [knds]; rfl))
  refine lv_pop cx.1 cx.2.1 dL_law_1501 rfl ?_
  refine lv_goto (tgt := 1521) cx.1 cx.2.1 dL_law_1502 (by decide) ?_
  refine W.widen (k := cells + 6) (n := slots + 36) (by omega) (by omega) ?_
  exact kk f45 H locs ls tn hB ⟨⟨z49, (Eq.trans z50 (by omega)), by omega, by omega⟩, g83, g84, g48, q_isu z51 (by omega), q_isu z52 (by omega), tk_bb_le g85 (by omega)⟩ (lv_sub hl [0, 1, 2, 3, 4, 5] rfl)
set_option maxHeartbeats 4000000 in
set_option maxRecDepth 100000 in
theorem law_c1505 {p : Program} {l : Launch} {e : Env} {s : State} {m : MethodId} {below : List Frame} {meth : Method} {c : Code} {b N9 : Nat} {xs : Nat → Int32} (hfl : l.stackTraces = false) (hN9 : N9 ≤ 3072) (C0 : lw_At p s m meth c b N9 xs) (cx : CallFix p m c cL_law 10 s #[Value.ref b] q_al RL) {g : q_G} {ad : Nat → Nat} {K : Nat → Nat} {L : List Nat} (hN : L.Nodup) (hLA : ∀ q, q ∈ L → s.heap.size ≤ q) (hX : q_X ad (fun q => q ∈ L) s) {f0 : Nat → va_E} {x : Nat} (hx : x ∈ L) (kx : K x = 11) {so : Nat} (hso : so ∈ L) (kso : K so = 8) {rd : Nat} (hrd : rd ∈ L) (krd : K rd = 9) {scr : Nat} (hscr : scr ∈ L) (kscr : K scr = 7) {fc : Nat} (hfc : fc ∈ L) (kfc : K fc = 1) {hist : Nat} (hhist : hist ∈ L) (khist : K hist = 2) {rep : Nat} (hrep : rep ∈ L) (krep : K rep = 6) {now : Nat} (hnow : now ∈ L) (know : K now = 10) {dr : Nat} (hdr : dr ∈ L) (kdr : K dr = 13) {sv : Nat} (hsv : sv ∈ L) (ksv : K sv = 14) {tr : Nat} (htr : tr ∈ L) (ktr : K tr = 15) {ba : Nat} (hba : ba ∈ L) (kba : K ba = 142) {nds : Nat} (hnds : nds ∈ L) (knds : K nds = 111) {mo : Nat} (hmo : mo ∈ L) (kmo : K mo = 12) {bu : Nat} (hbu : bu ∈ L) (kbu : K bu = 150) {sr : Nat} (hsr : sr ∈ L) (ksr : K sr = 151) {sd : Nat} (hsd : sd ∈ L) (ksd : K sd = 152) {as : Nat} (has : as ∈ L) (kas : K as = 153) {aw : Nat} (haw : aw ∈ L) (kaw : K aw = 154) {pa : Nat} (hpa : pa ∈ L) (kpa : K pa = 155) {nm : Nat} (hnm : nm ∈ L) (knm : K nm = 156) {snm : Nat} (hsnm : snm ∈ L) (ksnm : K snm = 157) {anm : Nat} (hanm : anm ∈ L) (kanm : K anm = 158) {hp : Nat} (hhp : hp ∈ L) (khp : K hp = 159) {dy : Nat} (hdy : dy ∈ L) (kdy : K dy = 160) {cs : Nat} (hcs : cs ∈ L) (kcs : K cs = 161) {c1 : Nat} (hc1 : c1 ∈ L) (kc1 : K c1 = 162) {c2 : Nat} (hc2 : c2 ∈ L) (kc2 : K c2 = 163) {c3 : Nat} (hc3 : c3 ∈ L) (kc3 : K c3 = 164) {bg : Nat} (hbg : bg ∈ L) (kbg : K bg = 165) {lp : Nat} (hlp : lp ∈ L) (klp : K lp = 166) {rp : Nat} (hrp : rp ∈ L) (krp : K rp = 167) {out : Nat} (hout : out ∈ L) (kout : K out = 168) {outD : Nat} (houtD : outD ∈ L) (koutD : K outD = 169) (hr0 : q_ir (q_r f0 x 0) so) (hr1 : q_ir (q_r f0 x 1) rd) (hr2 : q_ir (q_r f0 x 2) scr) (hr3 : q_ir (q_r f0 x 3) fc) (hr4 : q_ir (q_r f0 x 4) hist) (hr5 : q_ir (q_r f0 x 5) rep) (hr6 : q_ir (q_r f0 x 6) now) (hr7 : q_ir (q_r f0 x 7) dr) (hr8 : q_ir (q_r f0 x 8) sv) (hr9 : q_ir (q_r f0 fc 0) tr) (hr10 : q_ir (q_r f0 so 0) ba) (hr11 : q_ir (q_r f0 dr 0) nds) (hr12 : q_ir (q_r f0 mo 1) bu) (hr13 : q_ir (q_r f0 mo 13) sr) (hr14 : q_ir (q_r f0 mo 14) sd) (hr15 : q_ir (q_r f0 mo 15) as) (hr16 : q_ir (q_r f0 mo 16) aw) (hr17 : q_ir (q_r f0 mo 17) pa) (hr18 : q_ir (q_r f0 mo 18) nm) (hr19 : q_ir (q_r f0 mo 19) snm) (hr20 : q_ir (q_r f0 mo 20) anm) (hr21 : q_ir (q_r f0 mo 24) hp) (hr22 : q_ir (q_r f0 mo 25) dy) (hr23 : q_ir (q_r f0 mo 29) cs) (hr24 : q_ir (q_r f0 mo 30) c1) (hr25 : q_ir (q_r f0 mo 31) c2) (hr26 : q_ir (q_r f0 mo 32) c3) (hr27 : q_ir (q_r f0 mo 33) bg) (hr28 : q_ir (q_r f0 mo 34) lp) (hr29 : q_ir (q_r f0 mo 38) rp) (hij : tk_ij K L f0 nds) {f : Nat → va_E} {H : Heap} {locs : List Loc} {ls : Array Slot} {cells slots : Nat} {ii tn : Int} (hB : q_B g K L (fun q => s.heap.size ≤ q) [(0, 0, 6), (2, 1, 2), (3, 0, 4), (4, 0, 7), (5, 0, 9), (6, 1, 1), (7, 1, 4), (8, 1, 9), (9, 0, 2), (10, 3, 15), (11, 9, 9), (12, 0, 0), (12, 2, 12), (12, 21, 23), (12, 26, 28), (12, 35, 37), (12, 39, 40), (13, 3, 15), (14, 3, 15), (15, 3, 15), (16, 3, 15), (17, 0, 9), (18, 0, 9), (19, 0, 9), (20, 0, 9), (21, 0, 4), (22, 0, 4), (23, 0, 4), (24, 0, 4), (25, 0, 7), (26, 0, 7), (27, 0, 7), (28, 0, 7), (142, 0, 599), (143, 0, 599), (150, 0, 599), (151, 0, 657), (152, 0, 657), (153, 0, 657), (154, 0, 657), (155, 0, 3947), (156, 0, 9), (157, 0, 9), (158, 0, 9), (159, 0, 9), (160, 0, 9), (161, 0, 59), (162, 0, 58), (163, 0, 58), (164, 0, 58), (165, 0, 1), (166, 0, 1), (167, 0, 479), (168, 0, 0), (169, 0, 0)] f0 f s H locs) (hI : q_Iv4 f so mo sr pa sd bu ba tn) (hl : lv_has ls 10 [(5, .int (q_i ii)), (4, .ref outD), (3, .ref out), (2, .ref mo), (1, .ref x), (0, .ref b)]) (hi0 : 0 ≤ ii) (hi6 : ii + 6 ≤ N9) (hce : cells + 6 ≤ 10000) (hse : slots + 36 ≤ 100000) (kk : ∀ (f1 : Nat → va_E) (H1 : Heap) (locs1 : List Loc) (ls1 : Array Slot) (tn1 : Int), q_B g K L (fun q => s.heap.size ≤ q) [(0, 0, 6), (2, 1, 2), (3, 0, 4), (4, 0, 7), (5, 0, 9), (6, 1, 1), (7, 1, 4), (8, 1, 9), (9, 0, 2), (10, 3, 15), (11, 9, 9), (12, 0, 0), (12, 2, 12), (12, 21, 23), (12, 26, 28), (12, 35, 37), (12, 39, 40), (13, 3, 15), (14, 3, 15), (15, 3, 15), (16, 3, 15), (17, 0, 9), (18, 0, 9), (19, 0, 9), (20, 0, 9), (21, 0, 4), (22, 0, 4), (23, 0, 4), (24, 0, 4), (25, 0, 7), (26, 0, 7), (27, 0, 7), (28, 0, 7), (142, 0, 599), (143, 0, 599), (150, 0, 599), (151, 0, 657), (152, 0, 657), (153, 0, 657), (154, 0, 657), (155, 0, 3947), (156, 0, 9), (157, 0, 9), (158, 0, 9), (159, 0, 9), (160, 0, 9), (161, 0, 59), (162, 0, 58), (163, 0, 58), (164, 0, 58), (165, 0, 1), (166, 0, 1), (167, 0, 479), (168, 0, 0), (169, 0, 0)] f0 f1 s H1 locs1 → q_Iv4 f1 so mo sr pa sd bu ba tn1 → lv_has ls1 10 [(5, .int (q_i ii)), (4, .ref outD), (3, .ref out), (2, .ref mo), (1, .ref x), (0, .ref b)] → W p l e room_1 s m #[Value.ref b] below meth c H1 locs1 (cells + 6) (slots + 36) (lw_Z below #[Value.ref b] s) (F0 m 1521 ls1 [])) : W p l e room_1 s m #[Value.ref b] below meth c H locs (cells) (slots) (lw_Z below #[Value.ref b] s) (F0 m 1505 ls []) := by
  have hXs := C0.2.2.2.2.2.2.1
  have hbl := C0.2.2.2.2.2.2.2.1
  have hbA := q_bA hbl
  obtain ⟨⟨hn0, hn1, ltn, utn⟩, hgr, hpk, hsd9, ht3, ht4, hbb⟩ := hI
  have hr0 : q_ir (q_r f x 0) so := Eq.trans (hB.2.2.r hx (by rw [kx]; rfl)) hr0
  have hr1 : q_ir (q_r f x 1) rd := Eq.trans (hB.2.2.r hx (by rw [kx]; rfl)) hr1
  have hr2 : q_ir (q_r f x 2) scr := Eq.trans (hB.2.2.r hx (by rw [kx]; rfl)) hr2
  have hr3 : q_ir (q_r f x 3) fc := Eq.trans (hB.2.2.r hx (by rw [kx]; rfl)) hr3
  have hr4 : q_ir (q_r f x 4) hist := Eq.trans (hB.2.2.r hx (by rw [kx]; rfl)) hr4
  have hr5 : q_ir (q_r f x 5) rep := Eq.trans (hB.2.2.r hx (by rw [kx]; rfl)) hr5
  have hr6 : q_ir (q_r f x 6) now := Eq.trans (hB.2.2.r hx (by rw [kx]; rfl)) hr6
  have hr7 : q_ir (q_r f x 7) dr := Eq.trans (hB.2.2.r hx (by rw [kx]; rfl)) hr7
  have hr8 : q_ir (q_r f x 8) sv := Eq.trans (hB.2.2.r hx (by rw [kx]; rfl)) hr8
  have hr9 : q_ir (q_r f fc 0) tr := Eq.trans (hB.2.2.r hfc (by rw [kfc]; rfl)) hr9
  have hr10 : q_ir (q_r f so 0) ba := Eq.trans (hB.2.2.r hso (by rw [kso]; rfl)) hr10
  have hr11 : q_ir (q_r f dr 0) nds := Eq.trans (hB.2.2.r hdr (by rw [kdr]; rfl)) hr11
  have hr12 : q_ir (q_r f mo 1) bu := Eq.trans (hB.2.2.r hmo (by rw [kmo]; rfl)) hr12
  have hr13 : q_ir (q_r f mo 13) sr := Eq.trans (hB.2.2.r hmo (by rw [kmo]; rfl)) hr13
  have hr14 : q_ir (q_r f mo 14) sd := Eq.trans (hB.2.2.r hmo (by rw [kmo]; rfl)) hr14
  have hr15 : q_ir (q_r f mo 15) as := Eq.trans (hB.2.2.r hmo (by rw [kmo]; rfl)) hr15
  have hr16 : q_ir (q_r f mo 16) aw := Eq.trans (hB.2.2.r hmo (by rw [kmo]; rfl)) hr16
  have hr17 : q_ir (q_r f mo 17) pa := Eq.trans (hB.2.2.r hmo (by rw [kmo]; rfl)) hr17
  have hr18 : q_ir (q_r f mo 18) nm := Eq.trans (hB.2.2.r hmo (by rw [kmo]; rfl)) hr18
  have hr19 : q_ir (q_r f mo 19) snm := Eq.trans (hB.2.2.r hmo (by rw [kmo]; rfl)) hr19
  have hr20 : q_ir (q_r f mo 20) anm := Eq.trans (hB.2.2.r hmo (by rw [kmo]; rfl)) hr20
  have hr21 : q_ir (q_r f mo 24) hp := Eq.trans (hB.2.2.r hmo (by rw [kmo]; rfl)) hr21
  have hr22 : q_ir (q_r f mo 25) dy := Eq.trans (hB.2.2.r hmo (by rw [kmo]; rfl)) hr22
  have hr23 : q_ir (q_r f mo 29) cs := Eq.trans (hB.2.2.r hmo (by rw [kmo]; rfl)) hr23
  have hr24 : q_ir (q_r f mo 30) c1 := Eq.trans (hB.2.2.r hmo (by rw [kmo]; rfl)) hr24
  have hr25 : q_ir (q_r f mo 31) c2 := Eq.trans (hB.2.2.r hmo (by rw [kmo]; rfl)) hr25
  have hr26 : q_ir (q_r f mo 32) c3 := Eq.trans (hB.2.2.r hmo (by rw [kmo]; rfl)) hr26
  have hr27 : q_ir (q_r f mo 33) bg := Eq.trans (hB.2.2.r hmo (by rw [kmo]; rfl)) hr27
  have hr28 : q_ir (q_r f mo 34) lp := Eq.trans (hB.2.2.r hmo (by rw [kmo]; rfl)) hr28
  have hr29 : q_ir (q_r f mo 38) rp := Eq.trans (hB.2.2.r hmo (by rw [kmo]; rfl)) hr29
  have hij : tk_ij K L f nds := tk_ij_tr hij (fun i9 => hB.2.2.r hnds (by rw [knds]; rfl))
  obtain ⟨x1, ex1⟩ : ∃ zz, q_is (q_z f sr 3) zz := ⟨_, q_isr _⟩
  obtain ⟨lx1, ux1⟩ : 0 ≤ x1 ∧ x1 ≤ 9999 := q_isb ex1 ⟨(hgr 3 (by decide)).1, ht3⟩
  obtain ⟨x2, ex2⟩ : ∃ zz, q_is (q_z f sr 4) zz := ⟨_, q_isr _⟩
  obtain ⟨lx2, ux2⟩ : 0 ≤ x2 ∧ x2 ≤ 60 := q_isb ex2 ⟨(hgr 4 (by decide)).1, ht4⟩
  refine q_ald_n cx dL_law_1505 rfl (lv_at hl 4 rfl) ?_
  refine q_ald_n cx dL_law_1506 rfl (lv_at hl 2 rfl) ?_
  refine q_cWS (As := [.ref x, .ref out]) (rest := []) cx hX hB (fun q h => hLA q h) (fun q h1 h2 => absurd h1 (Nat.not_le_of_lt h2)) hN (w_restore l g ad hN hB.2.1 hfl x hx kx out hout kout so hso kso rd hrd krd scr hscr kscr fc hfc kfc hist hhist khist rep hrep krep now hnow know dr hdr kdr sv hsv ksv tr htr ktr hr0 hr1 hr2 hr3 hr4 hr5 hr6 hr7 hr8 hr9) q_cL_258 q_dL_restore ⟨by decide, by show cells + 1 ≤ 601024; omega, by show slots + 6 ≤ 7293034; omega⟩ rfl rfl hl.1 rfl (Nat.le_of_ble_eq_true rfl) dL_law_1507 (fun v9 H locs f3 h5 hF hB => ?_)
  obtain ⟨y4, rfl, ry4, h5⟩ := h5
  refine W.eq (g2 := F0 m 1510 ls [.int (q_i y4)]) rfl ?_
  obtain ⟨ly4, uy4⟩ := h5
  have z6 : q_is (q_z f3 so 1) tn := Eq.trans (hF.z hso (by rw [kso]; rfl)) hn0
  have z7 : q_is (q_z f3 mo 2) tn := Eq.trans (hF.z hmo (by rw [kmo]; rfl)) hn1
  have z8 : q_is (q_z f3 sr 3) x1 := Eq.trans (hF.z hsr (by rw [ksr]; rfl)) ex1
  have z9 : q_is (q_z f3 sr 4) x2 := Eq.trans (hF.z hsr (by rw [ksr]; rfl)) ex2
  have z10 : q_ir (q_r f3 x 0) so := Eq.trans (hF.r hx (by rw [kx]; rfl)) hr0
  have z11 : q_ir (q_r f3 x 1) rd := Eq.trans (hF.r hx (by rw [kx]; rfl)) hr1
  have z12 : q_ir (q_r f3 x 2) scr := Eq.trans (hF.r hx (by rw [kx]; rfl)) hr2
  have z13 : q_ir (q_r f3 x 3) fc := Eq.trans (hF.r hx (by rw [kx]; rfl)) hr3
  have z14 : q_ir (q_r f3 x 4) hist := Eq.trans (hF.r hx (by rw [kx]; rfl)) hr4
  have z15 : q_ir (q_r f3 x 5) rep := Eq.trans (hF.r hx (by rw [kx]; rfl)) hr5
  have z16 : q_ir (q_r f3 x 6) now := Eq.trans (hF.r hx (by rw [kx]; rfl)) hr6
  have z17 : q_ir (q_r f3 x 7) dr := Eq.trans (hF.r hx (by rw [kx]; rfl)) hr7
  have z18 : q_ir (q_r f3 x 8) sv := Eq.trans (hF.r hx (by rw [kx]; rfl)) hr8
  have z19 : q_ir (q_r f3 fc 0) tr := Eq.trans (hF.r hfc (by rw [kfc]; rfl)) hr9
  have z20 : q_ir (q_r f3 so 0) ba := Eq.trans (hF.r hso (by rw [kso]; rfl)) hr10
  have z21 : q_ir (q_r f3 dr 0) nds := Eq.trans (hF.r hdr (by rw [kdr]; rfl)) hr11
  have z22 : q_ir (q_r f3 mo 1) bu := Eq.trans (hF.r hmo (by rw [kmo]; rfl)) hr12
  have z23 : q_ir (q_r f3 mo 13) sr := Eq.trans (hF.r hmo (by rw [kmo]; rfl)) hr13
  have z24 : q_ir (q_r f3 mo 14) sd := Eq.trans (hF.r hmo (by rw [kmo]; rfl)) hr14
  have z25 : q_ir (q_r f3 mo 15) as := Eq.trans (hF.r hmo (by rw [kmo]; rfl)) hr15
  have z26 : q_ir (q_r f3 mo 16) aw := Eq.trans (hF.r hmo (by rw [kmo]; rfl)) hr16
  have z27 : q_ir (q_r f3 mo 17) pa := Eq.trans (hF.r hmo (by rw [kmo]; rfl)) hr17
  have z28 : q_ir (q_r f3 mo 18) nm := Eq.trans (hF.r hmo (by rw [kmo]; rfl)) hr18
  have z29 : q_ir (q_r f3 mo 19) snm := Eq.trans (hF.r hmo (by rw [kmo]; rfl)) hr19
  have z30 : q_ir (q_r f3 mo 20) anm := Eq.trans (hF.r hmo (by rw [kmo]; rfl)) hr20
  have z31 : q_ir (q_r f3 mo 24) hp := Eq.trans (hF.r hmo (by rw [kmo]; rfl)) hr21
  have z32 : q_ir (q_r f3 mo 25) dy := Eq.trans (hF.r hmo (by rw [kmo]; rfl)) hr22
  have z33 : q_ir (q_r f3 mo 29) cs := Eq.trans (hF.r hmo (by rw [kmo]; rfl)) hr23
  have z34 : q_ir (q_r f3 mo 30) c1 := Eq.trans (hF.r hmo (by rw [kmo]; rfl)) hr24
  have z35 : q_ir (q_r f3 mo 31) c2 := Eq.trans (hF.r hmo (by rw [kmo]; rfl)) hr25
  have z36 : q_ir (q_r f3 mo 32) c3 := Eq.trans (hF.r hmo (by rw [kmo]; rfl)) hr26
  have z37 : q_ir (q_r f3 mo 33) bg := Eq.trans (hF.r hmo (by rw [kmo]; rfl)) hr27
  have z38 : q_ir (q_r f3 mo 34) lp := Eq.trans (hF.r hmo (by rw [kmo]; rfl)) hr28
  have z39 : q_ir (q_r f3 mo 38) rp := Eq.trans (hF.r hmo (by rw [kmo]; rfl)) hr29
  have g40 : q_gr f3 sr := q_gr_fr hgr (fun i9 _ => hF.z hsr (by rw [ksr]; rfl))
  have g41 : q_pk f3 mo pa := q_pk_tr hpk (hF.z hmo (by rw [kmo]; rfl)) (fun i9 => hF.z hpa (by rw [kpa]; rfl))
  have g42 : q_sv f3 mo sd := q_sv_tr hsd9 (hF.z hmo (by rw [kmo]; rfl)) (fun i9 => hF.z hsd (by rw [ksd]; rfl))
  have g43 : tk_bb f3 bu ba tn := tk_bb_tr hbb (fun i9 => hF.z hbu (by rw [kbu]; rfl)) (fun i9 => hF.z hba (by rw [kba]; rfl))
  have g44 : tk_ij K L f3 nds := tk_ij_tr hij (fun i9 => hF.r hnds (by rw [knds]; rfl))
  refine lv_istore (lv' := [(6, .int (q_i y4)), (5, .int (q_i ii)), (4, .ref outD), (3, .ref out), (2, .ref mo), (1, .ref x), (0, .ref b)]) cx.1 cx.2.1 dL_law_1510 hl (by decide) rfl (fun ls hl => ?_)
  refine q_ald_n cx dL_law_1512 rfl (lv_at hl 4 rfl) ?_
  obtain ⟨x45, ex45⟩ : ∃ zz, q_is (q_z f3 mo 22) zz := ⟨_, q_isr _⟩
  obtain ⟨lx45, ux45⟩ := q_isb ex45 (q_fib hB.2.1 hmo kmo (by decide) rfl)
  by_cases c46 : x45 ≤ 0
  · refine q_cVi (As := []) (rest := []) cx hB (fun q h => hLA q h) hN hmo kmo (by decide) rfl (r_restore0 l g hN hB.2.1 mo hmo kmo sr hsr ksr sd hsd ksd nm hnm knm snm hsnm ksnm pa hpa kpa x1 (by omega) (by omega) x2 (by omega) (by omega) z8 z9 (Eq.trans ex45 (by omega)) z23 z24 z28 z29 z27 g40 g41 g42) q_cL_260 q_dX12_restore ⟨by decide, by show cells + 1 ≤ 601024; omega, by show slots + 6 ≤ 7293034; omega⟩ rfl rfl hl.1 rfl (Nat.le_of_ble_eq_true rfl) dL_law_1513 (fun y48 H locs f47 ry48 h49 hF hB => ?_)
    obtain ⟨ly48, uy48, lz50, uz50, lz51, uz51, g52⟩ := h49
    have z53 : q_is (q_z f47 so 1) tn := Eq.trans (hF.z hso (by rw [kso]; rfl)) z6
    have z54 : q_is (q_z f47 mo 2) tn := Eq.trans (hF.z hmo (by rw [kmo]; rfl)) z7
    have z55 : q_is (q_z f47 sr 3) x1 := Eq.trans (hF.z hsr (by rw [ksr]; rfl)) z8
    have z56 : q_is (q_z f47 sr 4) x2 := Eq.trans (hF.z hsr (by rw [ksr]; rfl)) z9
    have z57 : q_is (q_z f47 mo 22) x45 := Eq.trans (hF.z hmo (by rw [kmo]; rfl)) ex45
    have z58 : q_ir (q_r f47 x 0) so := Eq.trans (hF.r hx (by rw [kx]; rfl)) z10
    have z59 : q_ir (q_r f47 x 1) rd := Eq.trans (hF.r hx (by rw [kx]; rfl)) z11
    have z60 : q_ir (q_r f47 x 2) scr := Eq.trans (hF.r hx (by rw [kx]; rfl)) z12
    have z61 : q_ir (q_r f47 x 3) fc := Eq.trans (hF.r hx (by rw [kx]; rfl)) z13
    have z62 : q_ir (q_r f47 x 4) hist := Eq.trans (hF.r hx (by rw [kx]; rfl)) z14
    have z63 : q_ir (q_r f47 x 5) rep := Eq.trans (hF.r hx (by rw [kx]; rfl)) z15
    have z64 : q_ir (q_r f47 x 6) now := Eq.trans (hF.r hx (by rw [kx]; rfl)) z16
    have z65 : q_ir (q_r f47 x 7) dr := Eq.trans (hF.r hx (by rw [kx]; rfl)) z17
    have z66 : q_ir (q_r f47 x 8) sv := Eq.trans (hF.r hx (by rw [kx]; rfl)) z18
    have z67 : q_ir (q_r f47 fc 0) tr := Eq.trans (hF.r hfc (by rw [kfc]; rfl)) z19
    have z68 : q_ir (q_r f47 so 0) ba := Eq.trans (hF.r hso (by rw [kso]; rfl)) z20
    have z69 : q_ir (q_r f47 dr 0) nds := Eq.trans (hF.r hdr (by rw [kdr]; rfl)) z21
    have z70 : q_ir (q_r f47 mo 1) bu := Eq.trans (hF.r hmo (by rw [kmo]; rfl)) z22
    have z71 : q_ir (q_r f47 mo 13) sr := Eq.trans (hF.r hmo (by rw [kmo]; rfl)) z23
    have z72 : q_ir (q_r f47 mo 14) sd := Eq.trans (hF.r hmo (by rw [kmo]; rfl)) z24
    have z73 : q_ir (q_r f47 mo 15) as := Eq.trans (hF.r hmo (by rw [kmo]; rfl)) z25
    have z74 : q_ir (q_r f47 mo 16) aw := Eq.trans (hF.r hmo (by rw [kmo]; rfl)) z26
    have z75 : q_ir (q_r f47 mo 17) pa := Eq.trans (hF.r hmo (by rw [kmo]; rfl)) z27
    have z76 : q_ir (q_r f47 mo 18) nm := Eq.trans (hF.r hmo (by rw [kmo]; rfl)) z28
    have z77 : q_ir (q_r f47 mo 19) snm := Eq.trans (hF.r hmo (by rw [kmo]; rfl)) z29
    have z78 : q_ir (q_r f47 mo 20) anm := Eq.trans (hF.r hmo (by rw [kmo]; rfl)) z30
    have z79 : q_ir (q_r f47 mo 24) hp := Eq.trans (hF.r hmo (by rw [kmo]; rfl)) z31
    have z80 : q_ir (q_r f47 mo 25) dy := Eq.trans (hF.r hmo (by rw [kmo]; rfl)) z32
    have z81 : q_ir (q_r f47 mo 29) cs := Eq.trans (hF.r hmo (by rw [kmo]; rfl)) z33
    have z82 : q_ir (q_r f47 mo 30) c1 := Eq.trans (hF.r hmo (by rw [kmo]; rfl)) z34
    have z83 : q_ir (q_r f47 mo 31) c2 := Eq.trans (hF.r hmo (by rw [kmo]; rfl)) z35
    have z84 : q_ir (q_r f47 mo 32) c3 := Eq.trans (hF.r hmo (by rw [kmo]; rfl)) z36
    have z85 : q_ir (q_r f47 mo 33) bg := Eq.trans (hF.r hmo (by rw [kmo]; rfl)) z37
    have z86 : q_ir (q_r f47 mo 34) lp := Eq.trans (hF.r hmo (by rw [kmo]; rfl)) z38
    have z87 : q_ir (q_r f47 mo 38) rp := Eq.trans (hF.r hmo (by rw [kmo]; rfl)) z39
    have g88 : q_gr f47 sr := q_gr_fr g40 (fun i9 _ => hF.z hsr (by rw [ksr]; rfl))
    have g89 : q_pk f47 mo pa := q_pk_tr g41 (hF.z hmo (by rw [kmo]; rfl)) (fun i9 => hF.z hpa (by rw [kpa]; rfl))
    have g90 : q_sv f47 mo sd := q_sv_tr g42 (hF.z hmo (by rw [kmo]; rfl)) (fun i9 => hF.z hsd (by rw [ksd]; rfl))
    have g91 : tk_bb f47 bu ba tn := tk_bb_tr g43 (fun i9 => hF.z hbu (by rw [kbu]; rfl)) (fun i9 => hF.z hba (by rw [kba]; rfl))
    have g92 : tk_ij K L f47 nds := tk_ij_tr g44 (fun i9 => hF.r hnds (by rw [knds]; rfl))
    obtain ⟨x93, ex93⟩ : ∃ zz, q_is (q_z f47 sr 3) zz := ⟨_, q_isr _⟩
    obtain ⟨lx93, ux93⟩ := q_isb ex93 ⟨lz50, uz50⟩
    obtain ⟨x94, ex94⟩ : ∃ zz, q_is (q_z f47 sr 4) zz := ⟨_, q_isr _⟩
    obtain ⟨lx94, ux94⟩ := q_isb ex94 ⟨lz51, uz51⟩
    refine lv_istore (lv' := [(7, .int (q_i y48)), (6, .int (q_i y4)), (5, .int (q_i ii)), (4, .ref outD), (3, .ref out), (2, .ref mo), (1, .ref x), (0, .ref b)]) cx.1 cx.2.1 dL_law_1516 hl (by decide) rfl (fun ls hl => ?_)
    refine lv_goto (tgt := 1521) cx.1 cx.2.1 dL_law_1518 (by decide) ?_
    refine W.widen (k := cells + 6) (n := slots + 36) (by omega) (by omega) ?_
    exact kk f47 H locs ls tn hB ⟨⟨z53, (Eq.trans z54 (by omega)), by omega, by omega⟩, g88, g52, g90, q_isu ex93 (by omega), q_isu ex94 (by omega), tk_bb_le g91 (by omega)⟩ (lv_sub hl [2, 3, 4, 5, 6, 7] rfl)
  · refine q_cVi (As := []) (rest := []) cx hB (fun q h => hLA q h) hN hmo kmo (by decide) rfl (r_restore1 l g hN hB.2.1 mo hmo kmo sr hsr ksr sd hsd ksd nm hnm knm snm hsnm ksnm pa hpa kpa x1 (by omega) (by omega) x2 (by omega) (by omega) z8 z9 (Eq.trans ex45 (by omega)) z23 z24 z28 z29 z27 g40 g41 g42) q_cL_260 q_dX12_restore ⟨by decide, by show cells + 1 ≤ 601024; omega, by show slots + 6 ≤ 7293034; omega⟩ rfl rfl hl.1 rfl (Nat.le_of_ble_eq_true rfl) dL_law_1513 (fun y96 H locs f95 ry96 h97 hF hB => ?_)
    obtain ⟨ly96, uy96, lz98, uz98, lz99, uz99, g100, g101⟩ := h97
    have z102 : q_is (q_z f95 so 1) tn := Eq.trans (hF.z hso (by rw [kso]; rfl)) z6
    have z103 : q_is (q_z f95 mo 2) tn := Eq.trans (hF.z hmo (by rw [kmo]; rfl)) z7
    have z104 : q_is (q_z f95 mo 22) x45 := Eq.trans (hF.z hmo (by rw [kmo]; rfl)) ex45
    have z105 : q_ir (q_r f95 x 0) so := Eq.trans (hF.r hx (by rw [kx]; rfl)) z10
    have z106 : q_ir (q_r f95 x 1) rd := Eq.trans (hF.r hx (by rw [kx]; rfl)) z11
    have z107 : q_ir (q_r f95 x 2) scr := Eq.trans (hF.r hx (by rw [kx]; rfl)) z12
    have z108 : q_ir (q_r f95 x 3) fc := Eq.trans (hF.r hx (by rw [kx]; rfl)) z13
    have z109 : q_ir (q_r f95 x 4) hist := Eq.trans (hF.r hx (by rw [kx]; rfl)) z14
    have z110 : q_ir (q_r f95 x 5) rep := Eq.trans (hF.r hx (by rw [kx]; rfl)) z15
    have z111 : q_ir (q_r f95 x 6) now := Eq.trans (hF.r hx (by rw [kx]; rfl)) z16
    have z112 : q_ir (q_r f95 x 7) dr := Eq.trans (hF.r hx (by rw [kx]; rfl)) z17
    have z113 : q_ir (q_r f95 x 8) sv := Eq.trans (hF.r hx (by rw [kx]; rfl)) z18
    have z114 : q_ir (q_r f95 fc 0) tr := Eq.trans (hF.r hfc (by rw [kfc]; rfl)) z19
    have z115 : q_ir (q_r f95 so 0) ba := Eq.trans (hF.r hso (by rw [kso]; rfl)) z20
    have z116 : q_ir (q_r f95 dr 0) nds := Eq.trans (hF.r hdr (by rw [kdr]; rfl)) z21
    have z117 : q_ir (q_r f95 mo 1) bu := Eq.trans (hF.r hmo (by rw [kmo]; rfl)) z22
    have z118 : q_ir (q_r f95 mo 13) sr := Eq.trans (hF.r hmo (by rw [kmo]; rfl)) z23
    have z119 : q_ir (q_r f95 mo 14) sd := Eq.trans (hF.r hmo (by rw [kmo]; rfl)) z24
    have z120 : q_ir (q_r f95 mo 15) as := Eq.trans (hF.r hmo (by rw [kmo]; rfl)) z25
    have z121 : q_ir (q_r f95 mo 16) aw := Eq.trans (hF.r hmo (by rw [kmo]; rfl)) z26
    have z122 : q_ir (q_r f95 mo 17) pa := Eq.trans (hF.r hmo (by rw [kmo]; rfl)) z27
    have z123 : q_ir (q_r f95 mo 18) nm := Eq.trans (hF.r hmo (by rw [kmo]; rfl)) z28
    have z124 : q_ir (q_r f95 mo 19) snm := Eq.trans (hF.r hmo (by rw [kmo]; rfl)) z29
    have z125 : q_ir (q_r f95 mo 20) anm := Eq.trans (hF.r hmo (by rw [kmo]; rfl)) z30
    have z126 : q_ir (q_r f95 mo 24) hp := Eq.trans (hF.r hmo (by rw [kmo]; rfl)) z31
    have z127 : q_ir (q_r f95 mo 25) dy := Eq.trans (hF.r hmo (by rw [kmo]; rfl)) z32
    have z128 : q_ir (q_r f95 mo 29) cs := Eq.trans (hF.r hmo (by rw [kmo]; rfl)) z33
    have z129 : q_ir (q_r f95 mo 30) c1 := Eq.trans (hF.r hmo (by rw [kmo]; rfl)) z34
    have z130 : q_ir (q_r f95 mo 31) c2 := Eq.trans (hF.r hmo (by rw [kmo]; rfl)) z35
    have z131 : q_ir (q_r f95 mo 32) c3 := Eq.trans (hF.r hmo (by rw [kmo]; rfl)) z36
    have z132 : q_ir (q_r f95 mo 33) bg := Eq.trans (hF.r hmo (by rw [kmo]; rfl)) z37
    have z133 : q_ir (q_r f95 mo 34) lp := Eq.trans (hF.r hmo (by rw [kmo]; rfl)) z38
    have z134 : q_ir (q_r f95 mo 38) rp := Eq.trans (hF.r hmo (by rw [kmo]; rfl)) z39
    have g135 : q_sv f95 mo sd := q_sv_tr g42 (hF.z hmo (by rw [kmo]; rfl)) (fun i9 => hF.z hsd (by rw [ksd]; rfl))
    have g136 : tk_bb f95 bu ba tn := tk_bb_tr g43 (fun i9 => hF.z hbu (by rw [kbu]; rfl)) (fun i9 => hF.z hba (by rw [kba]; rfl))
    have g137 : tk_ij K L f95 nds := tk_ij_tr g44 (fun i9 => hF.r hnds (by rw [knds]; rfl))
    obtain ⟨x138, ex138⟩ : ∃ zz, q_is (q_z f95 sr 3) zz := ⟨_, q_isr _⟩
    obtain ⟨lx138, ux138⟩ := q_isb ex138 ⟨lz98, uz98⟩
    obtain ⟨x139, ex139⟩ : ∃ zz, q_is (q_z f95 sr 4) zz := ⟨_, q_isr _⟩
    obtain ⟨lx139, ux139⟩ := q_isb ex139 ⟨lz99, uz99⟩
    refine lv_istore (lv' := [(7, .int (q_i y96)), (6, .int (q_i y4)), (5, .int (q_i ii)), (4, .ref outD), (3, .ref out), (2, .ref mo), (1, .ref x), (0, .ref b)]) cx.1 cx.2.1 dL_law_1516 hl (by decide) rfl (fun ls hl => ?_)
    refine lv_goto (tgt := 1521) cx.1 cx.2.1 dL_law_1518 (by decide) ?_
    refine W.widen (k := cells + 6) (n := slots + 36) (by omega) (by omega) ?_
    exact kk f95 H locs ls tn hB ⟨⟨z102, (Eq.trans z103 (by omega)), by omega, by omega⟩, g100, g101, g135, q_isu ex138 (by omega), q_isu ex139 (by omega), tk_bb_le g136 (by omega)⟩ (lv_sub hl [2, 3, 4, 5, 6, 7] rfl)
set_option maxHeartbeats 4000000 in
set_option maxRecDepth 100000 in
theorem law_loop {p : Program} {l : Launch} {e : Env} {s : State} {m : MethodId} {below : List Frame} {meth : Method} {c : Code} {b N9 : Nat} {xs : Nat → Int32} (hfl : l.stackTraces = false) (hN9 : N9 ≤ 3072) (C0 : lw_At p s m meth c b N9 xs) (cx : CallFix p m c cL_law 10 s #[Value.ref b] q_al RL) {g : q_G} {ad : Nat → Nat} {K : Nat → Nat} {L : List Nat} (hN : L.Nodup) (hLA : ∀ q, q ∈ L → s.heap.size ≤ q) (hX : q_X ad (fun q => q ∈ L) s) {f0 : Nat → va_E} {x : Nat} (hx : x ∈ L) (kx : K x = 11) {so : Nat} (hso : so ∈ L) (kso : K so = 8) {rd : Nat} (hrd : rd ∈ L) (krd : K rd = 9) {scr : Nat} (hscr : scr ∈ L) (kscr : K scr = 7) {fc : Nat} (hfc : fc ∈ L) (kfc : K fc = 1) {hist : Nat} (hhist : hist ∈ L) (khist : K hist = 2) {rep : Nat} (hrep : rep ∈ L) (krep : K rep = 6) {now : Nat} (hnow : now ∈ L) (know : K now = 10) {dr : Nat} (hdr : dr ∈ L) (kdr : K dr = 13) {sv : Nat} (hsv : sv ∈ L) (ksv : K sv = 14) {tr : Nat} (htr : tr ∈ L) (ktr : K tr = 15) {ba : Nat} (hba : ba ∈ L) (kba : K ba = 142) {nds : Nat} (hnds : nds ∈ L) (knds : K nds = 111) {mo : Nat} (hmo : mo ∈ L) (kmo : K mo = 12) {bu : Nat} (hbu : bu ∈ L) (kbu : K bu = 150) {sr : Nat} (hsr : sr ∈ L) (ksr : K sr = 151) {sd : Nat} (hsd : sd ∈ L) (ksd : K sd = 152) {as : Nat} (has : as ∈ L) (kas : K as = 153) {aw : Nat} (haw : aw ∈ L) (kaw : K aw = 154) {pa : Nat} (hpa : pa ∈ L) (kpa : K pa = 155) {nm : Nat} (hnm : nm ∈ L) (knm : K nm = 156) {snm : Nat} (hsnm : snm ∈ L) (ksnm : K snm = 157) {anm : Nat} (hanm : anm ∈ L) (kanm : K anm = 158) {hp : Nat} (hhp : hp ∈ L) (khp : K hp = 159) {dy : Nat} (hdy : dy ∈ L) (kdy : K dy = 160) {cs : Nat} (hcs : cs ∈ L) (kcs : K cs = 161) {c1 : Nat} (hc1 : c1 ∈ L) (kc1 : K c1 = 162) {c2 : Nat} (hc2 : c2 ∈ L) (kc2 : K c2 = 163) {c3 : Nat} (hc3 : c3 ∈ L) (kc3 : K c3 = 164) {bg : Nat} (hbg : bg ∈ L) (kbg : K bg = 165) {lp : Nat} (hlp : lp ∈ L) (klp : K lp = 166) {rp : Nat} (hrp : rp ∈ L) (krp : K rp = 167) {out : Nat} (hout : out ∈ L) (kout : K out = 168) {outD : Nat} (houtD : outD ∈ L) (koutD : K outD = 169) (hr0 : q_ir (q_r f0 x 0) so) (hr1 : q_ir (q_r f0 x 1) rd) (hr2 : q_ir (q_r f0 x 2) scr) (hr3 : q_ir (q_r f0 x 3) fc) (hr4 : q_ir (q_r f0 x 4) hist) (hr5 : q_ir (q_r f0 x 5) rep) (hr6 : q_ir (q_r f0 x 6) now) (hr7 : q_ir (q_r f0 x 7) dr) (hr8 : q_ir (q_r f0 x 8) sv) (hr9 : q_ir (q_r f0 fc 0) tr) (hr10 : q_ir (q_r f0 so 0) ba) (hr11 : q_ir (q_r f0 dr 0) nds) (hr12 : q_ir (q_r f0 mo 1) bu) (hr13 : q_ir (q_r f0 mo 13) sr) (hr14 : q_ir (q_r f0 mo 14) sd) (hr15 : q_ir (q_r f0 mo 15) as) (hr16 : q_ir (q_r f0 mo 16) aw) (hr17 : q_ir (q_r f0 mo 17) pa) (hr18 : q_ir (q_r f0 mo 18) nm) (hr19 : q_ir (q_r f0 mo 19) snm) (hr20 : q_ir (q_r f0 mo 20) anm) (hr21 : q_ir (q_r f0 mo 24) hp) (hr22 : q_ir (q_r f0 mo 25) dy) (hr23 : q_ir (q_r f0 mo 29) cs) (hr24 : q_ir (q_r f0 mo 30) c1) (hr25 : q_ir (q_r f0 mo 31) c2) (hr26 : q_ir (q_r f0 mo 32) c3) (hr27 : q_ir (q_r f0 mo 33) bg) (hr28 : q_ir (q_r f0 mo 34) lp) (hr29 : q_ir (q_r f0 mo 38) rp) (hij : tk_ij K L f0 nds) : ∀ (n : Nat) (ii tn : Int) (f : Nat → va_E) (H : Heap) (locs : List Loc) (ls : Array Slot) (cells slots : Nat), Int.toNat (N9 - ii) < n → q_B g K L (fun q => s.heap.size ≤ q) [(0, 0, 6), (2, 1, 2), (3, 0, 4), (4, 0, 7), (5, 0, 9), (6, 1, 1), (7, 1, 4), (8, 1, 9), (9, 0, 2), (10, 3, 15), (11, 9, 9), (12, 0, 0), (12, 2, 12), (12, 21, 23), (12, 26, 28), (12, 35, 37), (12, 39, 40), (13, 3, 15), (14, 3, 15), (15, 3, 15), (16, 3, 15), (17, 0, 9), (18, 0, 9), (19, 0, 9), (20, 0, 9), (21, 0, 4), (22, 0, 4), (23, 0, 4), (24, 0, 4), (25, 0, 7), (26, 0, 7), (27, 0, 7), (28, 0, 7), (142, 0, 599), (143, 0, 599), (150, 0, 599), (151, 0, 657), (152, 0, 657), (153, 0, 657), (154, 0, 657), (155, 0, 3947), (156, 0, 9), (157, 0, 9), (158, 0, 9), (159, 0, 9), (160, 0, 9), (161, 0, 59), (162, 0, 58), (163, 0, 58), (164, 0, 58), (165, 0, 1), (166, 0, 1), (167, 0, 479), (168, 0, 0), (169, 0, 0)] f0 f s H locs → q_Iv4 f so mo sr pa sd bu ba tn → lv_has ls 10 [(5, .int (q_i ii)), (4, .ref outD), (3, .ref out), (2, .ref mo), (1, .ref x), (0, .ref b)] → 0 ≤ ii → ii ≤ 3078 → cells + Int.toNat (N9 - ii) ≤ 9000 → slots + 6 * Int.toNat (N9 - ii) ≤ 90000 → W p l e room_1 s m #[Value.ref b] below meth c H locs (cells) (slots) (lw_Z below #[Value.ref b] s) (F0 m 28 ls []) := by
  have hXs := C0.2.2.2.2.2.2.1
  have hbl := C0.2.2.2.2.2.2.2.1
  have hbA := q_bA hbl
  intro n
  induction n with
  | zero => intro ii tn f H locs ls cells slots h; exact absurd h (Nat.not_lt_zero _)
  | succ n ih =>
    intro ii tn f H locs ls cells slots hmu hB hI hl hi0 hi9 hce hse
    refine lv_iload cx.1 cx.2.1 dL_law_28 (lv_at hl 0 rfl) ?_
    refine q_ald_n cx dL_law_30 rfl (lv_at hl 5 rfl) ?_
    refine va_slen cx.1 cx.2.1 hXs hbl hbA hB.1.2.2.2 dL_law_31 ?_
    rw [q_lenN]
    refine q_bipush cx dL_law_32 rfl ?_
    refine q_isub cx dL_law_34 ?_
    refine q_icgt (tgt := 1527) cx ⟨by omega, by omega⟩ ⟨by omega, by omega⟩ dL_law_35 (by decide) (fun h9 => ?_) (fun h9 => ?_)
    · refine q_iconst cx dL_law_1527 ?_
      exact q_lawret C0 hB (by omega) (by omega) dL_law_1528
    · have kk : ∀ (f1 : Nat → va_E) (H1 : Heap) (locs1 : List Loc) (ls1 : Array Slot) (tn1 : Int), q_B g K L (fun q => s.heap.size ≤ q) [(0, 0, 6), (2, 1, 2), (3, 0, 4), (4, 0, 7), (5, 0, 9), (6, 1, 1), (7, 1, 4), (8, 1, 9), (9, 0, 2), (10, 3, 15), (11, 9, 9), (12, 0, 0), (12, 2, 12), (12, 21, 23), (12, 26, 28), (12, 35, 37), (12, 39, 40), (13, 3, 15), (14, 3, 15), (15, 3, 15), (16, 3, 15), (17, 0, 9), (18, 0, 9), (19, 0, 9), (20, 0, 9), (21, 0, 4), (22, 0, 4), (23, 0, 4), (24, 0, 4), (25, 0, 7), (26, 0, 7), (27, 0, 7), (28, 0, 7), (142, 0, 599), (143, 0, 599), (150, 0, 599), (151, 0, 657), (152, 0, 657), (153, 0, 657), (154, 0, 657), (155, 0, 3947), (156, 0, 9), (157, 0, 9), (158, 0, 9), (159, 0, 9), (160, 0, 9), (161, 0, 59), (162, 0, 58), (163, 0, 58), (164, 0, 58), (165, 0, 1), (166, 0, 1), (167, 0, 479), (168, 0, 0), (169, 0, 0)] f0 f1 s H1 locs1 → q_Iv4 f1 so mo sr pa sd bu ba tn1 → lv_has ls1 10 [(5, .int (q_i ii)), (4, .ref outD), (3, .ref out), (2, .ref mo), (1, .ref x), (0, .ref b)] → W p l e room_1 s m #[Value.ref b] below meth c H1 locs1 (cells + 6) (slots + 36) (lw_Z below #[Value.ref b] s) (F0 m 1521 ls1 []) := by
        intro f1 H1 locs1 ls1 tn1 hB1 hI1 hl1
        refine q_iinc (lv' := [(5, .int (q_i (ii + 6))), (4, .ref outD), (3, .ref out), (2, .ref mo), (1, .ref x), (0, .ref b)]) cx dL_law_1521 hl1 (k := 0) rfl (by decide) rfl (fun ls2 hl2 => ?_)
        refine lv_goto (tgt := 28) cx.1 cx.2.1 dL_law_1524 (by decide) ?_
        exact ih (ii + 6) tn1 f1 H1 locs1 ls2 (cells + 6) (slots + 36) (by omega) hB1 hI1 hl2 (by omega) (by omega) (by omega) (by omega)
      refine q_ald_n cx dL_law_38 rfl (lv_at hl 5 rfl) ?_
      refine lv_iload cx.1 cx.2.1 dL_law_39 (lv_at hl 0 rfl) ?_
      refine va_sld cx.1 cx.2.1 hXs hbl hbA hB.1.2.2.2 (q_in (by omega) (by omega) (by omega)) dL_law_41 ?_
      refine q_bipush cx dL_law_42 rfl ?_
      refine q_iandm cx 6 (by decide) rfl dL_law_44 (fun z lz uz ez => ?_)
      by_cases cs0 : z = 0
      · refine lv_tableIn (tgt := 220) cx.1 cx.2.1 dL_law_45 (by rw [q_toInt ⟨by omega, by omega⟩]; omega) (by rw [q_toInt ⟨by omega, by omega⟩]; omega) (off := 175) (by rw [q_toInt ⟨by omega, by omega⟩, cs0]; rfl) (by decide) ?_
        exact law_c220 hfl hN9 C0 cx hN hLA hX hx kx hso kso hrd krd hscr kscr hfc kfc hhist khist hrep krep hnow know hdr kdr hsv ksv htr ktr hba kba hnds knds hmo kmo hbu kbu hsr ksr hsd ksd has kas haw kaw hpa kpa hnm knm hsnm ksnm hanm kanm hhp khp hdy kdy hcs kcs hc1 kc1 hc2 kc2 hc3 kc3 hbg kbg hlp klp hrp krp hout kout houtD koutD hr0 hr1 hr2 hr3 hr4 hr5 hr6 hr7 hr8 hr9 hr10 hr11 hr12 hr13 hr14 hr15 hr16 hr17 hr18 hr19 hr20 hr21 hr22 hr23 hr24 hr25 hr26 hr27 hr28 hr29 hij hB hI hl hi0 (by omega) (by omega) (by omega) kk
      by_cases cs1 : z = 1
      · refine lv_tableIn (tgt := 296) cx.1 cx.2.1 dL_law_45 (by rw [q_toInt ⟨by omega, by omega⟩]; omega) (by rw [q_toInt ⟨by omega, by omega⟩]; omega) (off := 251) (by rw [q_toInt ⟨by omega, by omega⟩, cs1]; rfl) (by decide) ?_
        exact law_c296 hfl hN9 C0 cx hN hLA hX hx kx hso kso hrd krd hscr kscr hfc kfc hhist khist hrep krep hnow know hdr kdr hsv ksv htr ktr hba kba hnds knds hmo kmo hbu kbu hsr ksr hsd ksd has kas haw kaw hpa kpa hnm knm hsnm ksnm hanm kanm hhp khp hdy kdy hcs kcs hc1 kc1 hc2 kc2 hc3 kc3 hbg kbg hlp klp hrp krp hout kout houtD koutD hr0 hr1 hr2 hr3 hr4 hr5 hr6 hr7 hr8 hr9 hr10 hr11 hr12 hr13 hr14 hr15 hr16 hr17 hr18 hr19 hr20 hr21 hr22 hr23 hr24 hr25 hr26 hr27 hr28 hr29 hij hB hI hl hi0 (by omega) (by omega) (by omega) kk
      by_cases cs2 : z = 2
      · refine lv_tableIn (tgt := 324) cx.1 cx.2.1 dL_law_45 (by rw [q_toInt ⟨by omega, by omega⟩]; omega) (by rw [q_toInt ⟨by omega, by omega⟩]; omega) (off := 279) (by rw [q_toInt ⟨by omega, by omega⟩, cs2]; rfl) (by decide) ?_
        exact law_c324 hfl hN9 C0 cx hN hLA hX hx kx hso kso hrd krd hscr kscr hfc kfc hhist khist hrep krep hnow know hdr kdr hsv ksv htr ktr hba kba hnds knds hmo kmo hbu kbu hsr ksr hsd ksd has kas haw kaw hpa kpa hnm knm hsnm ksnm hanm kanm hhp khp hdy kdy hcs kcs hc1 kc1 hc2 kc2 hc3 kc3 hbg kbg hlp klp hrp krp hout kout houtD koutD hr0 hr1 hr2 hr3 hr4 hr5 hr6 hr7 hr8 hr9 hr10 hr11 hr12 hr13 hr14 hr15 hr16 hr17 hr18 hr19 hr20 hr21 hr22 hr23 hr24 hr25 hr26 hr27 hr28 hr29 hij hB hI hl hi0 (by omega) (by omega) (by omega) kk
      by_cases cs3 : z = 3
      · refine lv_tableIn (tgt := 368) cx.1 cx.2.1 dL_law_45 (by rw [q_toInt ⟨by omega, by omega⟩]; omega) (by rw [q_toInt ⟨by omega, by omega⟩]; omega) (off := 323) (by rw [q_toInt ⟨by omega, by omega⟩, cs3]; rfl) (by decide) ?_
        exact law_c368 hfl hN9 C0 cx hN hLA hX hx kx hso kso hrd krd hscr kscr hfc kfc hhist khist hrep krep hnow know hdr kdr hsv ksv htr ktr hba kba hnds knds hmo kmo hbu kbu hsr ksr hsd ksd has kas haw kaw hpa kpa hnm knm hsnm ksnm hanm kanm hhp khp hdy kdy hcs kcs hc1 kc1 hc2 kc2 hc3 kc3 hbg kbg hlp klp hrp krp hout kout houtD koutD hr0 hr1 hr2 hr3 hr4 hr5 hr6 hr7 hr8 hr9 hr10 hr11 hr12 hr13 hr14 hr15 hr16 hr17 hr18 hr19 hr20 hr21 hr22 hr23 hr24 hr25 hr26 hr27 hr28 hr29 hij hB hI hl hi0 (by omega) (by omega) (by omega) kk
      by_cases cs4 : z = 4
      · refine lv_tableIn (tgt := 384) cx.1 cx.2.1 dL_law_45 (by rw [q_toInt ⟨by omega, by omega⟩]; omega) (by rw [q_toInt ⟨by omega, by omega⟩]; omega) (off := 339) (by rw [q_toInt ⟨by omega, by omega⟩, cs4]; rfl) (by decide) ?_
        exact law_c384 hfl hN9 C0 cx hN hLA hX hx kx hso kso hrd krd hscr kscr hfc kfc hhist khist hrep krep hnow know hdr kdr hsv ksv htr ktr hba kba hnds knds hmo kmo hbu kbu hsr ksr hsd ksd has kas haw kaw hpa kpa hnm knm hsnm ksnm hanm kanm hhp khp hdy kdy hcs kcs hc1 kc1 hc2 kc2 hc3 kc3 hbg kbg hlp klp hrp krp hout kout houtD koutD hr0 hr1 hr2 hr3 hr4 hr5 hr6 hr7 hr8 hr9 hr10 hr11 hr12 hr13 hr14 hr15 hr16 hr17 hr18 hr19 hr20 hr21 hr22 hr23 hr24 hr25 hr26 hr27 hr28 hr29 hij hB hI hl hi0 (by omega) (by omega) (by omega) kk
      by_cases cs5 : z = 5
      · refine lv_tableIn (tgt := 397) cx.1 cx.2.1 dL_law_45 (by rw [q_toInt ⟨by omega, by omega⟩]; omega) (by rw [q_toInt ⟨by omega, by omega⟩]; omega) (off := 352) (by rw [q_toInt ⟨by omega, by omega⟩, cs5]; rfl) (by decide) ?_
        exact law_c397 hfl hN9 C0 cx hN hLA hX hx kx hso kso hrd krd hscr kscr hfc kfc hhist khist hrep krep hnow know hdr kdr hsv ksv htr ktr hba kba hnds knds hmo kmo hbu kbu hsr ksr hsd ksd has kas haw kaw hpa kpa hnm knm hsnm ksnm hanm kanm hhp khp hdy kdy hcs kcs hc1 kc1 hc2 kc2 hc3 kc3 hbg kbg hlp klp hrp krp hout kout houtD koutD hr0 hr1 hr2 hr3 hr4 hr5 hr6 hr7 hr8 hr9 hr10 hr11 hr12 hr13 hr14 hr15 hr16 hr17 hr18 hr19 hr20 hr21 hr22 hr23 hr24 hr25 hr26 hr27 hr28 hr29 hij hB hI hl hi0 (by omega) (by omega) (by omega) kk
      by_cases cs6 : z = 6
      · refine lv_tableIn (tgt := 410) cx.1 cx.2.1 dL_law_45 (by rw [q_toInt ⟨by omega, by omega⟩]; omega) (by rw [q_toInt ⟨by omega, by omega⟩]; omega) (off := 365) (by rw [q_toInt ⟨by omega, by omega⟩, cs6]; rfl) (by decide) ?_
        exact law_c410 hfl hN9 C0 cx hN hLA hX hx kx hso kso hrd krd hscr kscr hfc kfc hhist khist hrep krep hnow know hdr kdr hsv ksv htr ktr hba kba hnds knds hmo kmo hbu kbu hsr ksr hsd ksd has kas haw kaw hpa kpa hnm knm hsnm ksnm hanm kanm hhp khp hdy kdy hcs kcs hc1 kc1 hc2 kc2 hc3 kc3 hbg kbg hlp klp hrp krp hout kout houtD koutD hr0 hr1 hr2 hr3 hr4 hr5 hr6 hr7 hr8 hr9 hr10 hr11 hr12 hr13 hr14 hr15 hr16 hr17 hr18 hr19 hr20 hr21 hr22 hr23 hr24 hr25 hr26 hr27 hr28 hr29 hij hB hI hl hi0 (by omega) (by omega) (by omega) kk
      by_cases cs7 : z = 7
      · refine lv_tableIn (tgt := 438) cx.1 cx.2.1 dL_law_45 (by rw [q_toInt ⟨by omega, by omega⟩]; omega) (by rw [q_toInt ⟨by omega, by omega⟩]; omega) (off := 393) (by rw [q_toInt ⟨by omega, by omega⟩, cs7]; rfl) (by decide) ?_
        exact law_c438 hfl hN9 C0 cx hN hLA hX hx kx hso kso hrd krd hscr kscr hfc kfc hhist khist hrep krep hnow know hdr kdr hsv ksv htr ktr hba kba hnds knds hmo kmo hbu kbu hsr ksr hsd ksd has kas haw kaw hpa kpa hnm knm hsnm ksnm hanm kanm hhp khp hdy kdy hcs kcs hc1 kc1 hc2 kc2 hc3 kc3 hbg kbg hlp klp hrp krp hout kout houtD koutD hr0 hr1 hr2 hr3 hr4 hr5 hr6 hr7 hr8 hr9 hr10 hr11 hr12 hr13 hr14 hr15 hr16 hr17 hr18 hr19 hr20 hr21 hr22 hr23 hr24 hr25 hr26 hr27 hr28 hr29 hij hB hI hl hi0 (by omega) (by omega) (by omega) kk
      by_cases cs8 : z = 8
      · refine lv_tableIn (tgt := 478) cx.1 cx.2.1 dL_law_45 (by rw [q_toInt ⟨by omega, by omega⟩]; omega) (by rw [q_toInt ⟨by omega, by omega⟩]; omega) (off := 433) (by rw [q_toInt ⟨by omega, by omega⟩, cs8]; rfl) (by decide) ?_
        exact law_c478 hfl hN9 C0 cx hN hLA hX hx kx hso kso hrd krd hscr kscr hfc kfc hhist khist hrep krep hnow know hdr kdr hsv ksv htr ktr hba kba hnds knds hmo kmo hbu kbu hsr ksr hsd ksd has kas haw kaw hpa kpa hnm knm hsnm ksnm hanm kanm hhp khp hdy kdy hcs kcs hc1 kc1 hc2 kc2 hc3 kc3 hbg kbg hlp klp hrp krp hout kout houtD koutD hr0 hr1 hr2 hr3 hr4 hr5 hr6 hr7 hr8 hr9 hr10 hr11 hr12 hr13 hr14 hr15 hr16 hr17 hr18 hr19 hr20 hr21 hr22 hr23 hr24 hr25 hr26 hr27 hr28 hr29 hij hB hI hl hi0 (by omega) (by omega) (by omega) kk
      by_cases cs9 : z = 9
      · refine lv_tableIn (tgt := 518) cx.1 cx.2.1 dL_law_45 (by rw [q_toInt ⟨by omega, by omega⟩]; omega) (by rw [q_toInt ⟨by omega, by omega⟩]; omega) (off := 473) (by rw [q_toInt ⟨by omega, by omega⟩, cs9]; rfl) (by decide) ?_
        exact law_c518 hfl hN9 C0 cx hN hLA hX hx kx hso kso hrd krd hscr kscr hfc kfc hhist khist hrep krep hnow know hdr kdr hsv ksv htr ktr hba kba hnds knds hmo kmo hbu kbu hsr ksr hsd ksd has kas haw kaw hpa kpa hnm knm hsnm ksnm hanm kanm hhp khp hdy kdy hcs kcs hc1 kc1 hc2 kc2 hc3 kc3 hbg kbg hlp klp hrp krp hout kout houtD koutD hr0 hr1 hr2 hr3 hr4 hr5 hr6 hr7 hr8 hr9 hr10 hr11 hr12 hr13 hr14 hr15 hr16 hr17 hr18 hr19 hr20 hr21 hr22 hr23 hr24 hr25 hr26 hr27 hr28 hr29 hij hB hI hl hi0 (by omega) (by omega) (by omega) kk
      by_cases cs10 : z = 10
      · refine lv_tableIn (tgt := 558) cx.1 cx.2.1 dL_law_45 (by rw [q_toInt ⟨by omega, by omega⟩]; omega) (by rw [q_toInt ⟨by omega, by omega⟩]; omega) (off := 513) (by rw [q_toInt ⟨by omega, by omega⟩, cs10]; rfl) (by decide) ?_
        exact law_c558 hfl hN9 C0 cx hN hLA hX hx kx hso kso hrd krd hscr kscr hfc kfc hhist khist hrep krep hnow know hdr kdr hsv ksv htr ktr hba kba hnds knds hmo kmo hbu kbu hsr ksr hsd ksd has kas haw kaw hpa kpa hnm knm hsnm ksnm hanm kanm hhp khp hdy kdy hcs kcs hc1 kc1 hc2 kc2 hc3 kc3 hbg kbg hlp klp hrp krp hout kout houtD koutD hr0 hr1 hr2 hr3 hr4 hr5 hr6 hr7 hr8 hr9 hr10 hr11 hr12 hr13 hr14 hr15 hr16 hr17 hr18 hr19 hr20 hr21 hr22 hr23 hr24 hr25 hr26 hr27 hr28 hr29 hij hB hI hl hi0 (by omega) (by omega) (by omega) kk
      by_cases cs11 : z = 11
      · refine lv_tableIn (tgt := 598) cx.1 cx.2.1 dL_law_45 (by rw [q_toInt ⟨by omega, by omega⟩]; omega) (by rw [q_toInt ⟨by omega, by omega⟩]; omega) (off := 553) (by rw [q_toInt ⟨by omega, by omega⟩, cs11]; rfl) (by decide) ?_
        exact law_c598 hfl hN9 C0 cx hN hLA hX hx kx hso kso hrd krd hscr kscr hfc kfc hhist khist hrep krep hnow know hdr kdr hsv ksv htr ktr hba kba hnds knds hmo kmo hbu kbu hsr ksr hsd ksd has kas haw kaw hpa kpa hnm knm hsnm ksnm hanm kanm hhp khp hdy kdy hcs kcs hc1 kc1 hc2 kc2 hc3 kc3 hbg kbg hlp klp hrp krp hout kout houtD koutD hr0 hr1 hr2 hr3 hr4 hr5 hr6 hr7 hr8 hr9 hr10 hr11 hr12 hr13 hr14 hr15 hr16 hr17 hr18 hr19 hr20 hr21 hr22 hr23 hr24 hr25 hr26 hr27 hr28 hr29 hij hB hI hl hi0 (by omega) (by omega) (by omega) kk
      by_cases cs12 : z = 12
      · refine lv_tableIn (tgt := 638) cx.1 cx.2.1 dL_law_45 (by rw [q_toInt ⟨by omega, by omega⟩]; omega) (by rw [q_toInt ⟨by omega, by omega⟩]; omega) (off := 593) (by rw [q_toInt ⟨by omega, by omega⟩, cs12]; rfl) (by decide) ?_
        exact law_c638 hfl hN9 C0 cx hN hLA hX hx kx hso kso hrd krd hscr kscr hfc kfc hhist khist hrep krep hnow know hdr kdr hsv ksv htr ktr hba kba hnds knds hmo kmo hbu kbu hsr ksr hsd ksd has kas haw kaw hpa kpa hnm knm hsnm ksnm hanm kanm hhp khp hdy kdy hcs kcs hc1 kc1 hc2 kc2 hc3 kc3 hbg kbg hlp klp hrp krp hout kout houtD koutD hr0 hr1 hr2 hr3 hr4 hr5 hr6 hr7 hr8 hr9 hr10 hr11 hr12 hr13 hr14 hr15 hr16 hr17 hr18 hr19 hr20 hr21 hr22 hr23 hr24 hr25 hr26 hr27 hr28 hr29 hij hB hI hl hi0 (by omega) (by omega) (by omega) kk
      by_cases cs13 : z = 13
      · refine lv_tableIn (tgt := 667) cx.1 cx.2.1 dL_law_45 (by rw [q_toInt ⟨by omega, by omega⟩]; omega) (by rw [q_toInt ⟨by omega, by omega⟩]; omega) (off := 622) (by rw [q_toInt ⟨by omega, by omega⟩, cs13]; rfl) (by decide) ?_
        exact law_c667 hfl hN9 C0 cx hN hLA hX hx kx hso kso hrd krd hscr kscr hfc kfc hhist khist hrep krep hnow know hdr kdr hsv ksv htr ktr hba kba hnds knds hmo kmo hbu kbu hsr ksr hsd ksd has kas haw kaw hpa kpa hnm knm hsnm ksnm hanm kanm hhp khp hdy kdy hcs kcs hc1 kc1 hc2 kc2 hc3 kc3 hbg kbg hlp klp hrp krp hout kout houtD koutD hr0 hr1 hr2 hr3 hr4 hr5 hr6 hr7 hr8 hr9 hr10 hr11 hr12 hr13 hr14 hr15 hr16 hr17 hr18 hr19 hr20 hr21 hr22 hr23 hr24 hr25 hr26 hr27 hr28 hr29 hij hB hI hl hi0 (by omega) (by omega) (by omega) kk
      by_cases cs14 : z = 14
      · refine lv_tableIn (tgt := 682) cx.1 cx.2.1 dL_law_45 (by rw [q_toInt ⟨by omega, by omega⟩]; omega) (by rw [q_toInt ⟨by omega, by omega⟩]; omega) (off := 637) (by rw [q_toInt ⟨by omega, by omega⟩, cs14]; rfl) (by decide) ?_
        exact law_c682 hfl hN9 C0 cx hN hLA hX hx kx hso kso hrd krd hscr kscr hfc kfc hhist khist hrep krep hnow know hdr kdr hsv ksv htr ktr hba kba hnds knds hmo kmo hbu kbu hsr ksr hsd ksd has kas haw kaw hpa kpa hnm knm hsnm ksnm hanm kanm hhp khp hdy kdy hcs kcs hc1 kc1 hc2 kc2 hc3 kc3 hbg kbg hlp klp hrp krp hout kout houtD koutD hr0 hr1 hr2 hr3 hr4 hr5 hr6 hr7 hr8 hr9 hr10 hr11 hr12 hr13 hr14 hr15 hr16 hr17 hr18 hr19 hr20 hr21 hr22 hr23 hr24 hr25 hr26 hr27 hr28 hr29 hij hB hI hl hi0 (by omega) (by omega) (by omega) kk
      by_cases cs15 : z = 15
      · refine lv_tableIn (tgt := 710) cx.1 cx.2.1 dL_law_45 (by rw [q_toInt ⟨by omega, by omega⟩]; omega) (by rw [q_toInt ⟨by omega, by omega⟩]; omega) (off := 665) (by rw [q_toInt ⟨by omega, by omega⟩, cs15]; rfl) (by decide) ?_
        exact law_c710 hfl hN9 C0 cx hN hLA hX hx kx hso kso hrd krd hscr kscr hfc kfc hhist khist hrep krep hnow know hdr kdr hsv ksv htr ktr hba kba hnds knds hmo kmo hbu kbu hsr ksr hsd ksd has kas haw kaw hpa kpa hnm knm hsnm ksnm hanm kanm hhp khp hdy kdy hcs kcs hc1 kc1 hc2 kc2 hc3 kc3 hbg kbg hlp klp hrp krp hout kout houtD koutD hr0 hr1 hr2 hr3 hr4 hr5 hr6 hr7 hr8 hr9 hr10 hr11 hr12 hr13 hr14 hr15 hr16 hr17 hr18 hr19 hr20 hr21 hr22 hr23 hr24 hr25 hr26 hr27 hr28 hr29 hij hB hI hl hi0 (by omega) (by omega) (by omega) kk
      by_cases cs16 : z = 16
      · refine lv_tableIn (tgt := 750) cx.1 cx.2.1 dL_law_45 (by rw [q_toInt ⟨by omega, by omega⟩]; omega) (by rw [q_toInt ⟨by omega, by omega⟩]; omega) (off := 705) (by rw [q_toInt ⟨by omega, by omega⟩, cs16]; rfl) (by decide) ?_
        exact law_c750 hfl hN9 C0 cx hN hLA hX hx kx hso kso hrd krd hscr kscr hfc kfc hhist khist hrep krep hnow know hdr kdr hsv ksv htr ktr hba kba hnds knds hmo kmo hbu kbu hsr ksr hsd ksd has kas haw kaw hpa kpa hnm knm hsnm ksnm hanm kanm hhp khp hdy kdy hcs kcs hc1 kc1 hc2 kc2 hc3 kc3 hbg kbg hlp klp hrp krp hout kout houtD koutD hr0 hr1 hr2 hr3 hr4 hr5 hr6 hr7 hr8 hr9 hr10 hr11 hr12 hr13 hr14 hr15 hr16 hr17 hr18 hr19 hr20 hr21 hr22 hr23 hr24 hr25 hr26 hr27 hr28 hr29 hij hB hI hl hi0 (by omega) (by omega) (by omega) kk
      by_cases cs17 : z = 17
      · refine lv_tableIn (tgt := 763) cx.1 cx.2.1 dL_law_45 (by rw [q_toInt ⟨by omega, by omega⟩]; omega) (by rw [q_toInt ⟨by omega, by omega⟩]; omega) (off := 718) (by rw [q_toInt ⟨by omega, by omega⟩, cs17]; rfl) (by decide) ?_
        exact law_c763 hfl hN9 C0 cx hN hLA hX hx kx hso kso hrd krd hscr kscr hfc kfc hhist khist hrep krep hnow know hdr kdr hsv ksv htr ktr hba kba hnds knds hmo kmo hbu kbu hsr ksr hsd ksd has kas haw kaw hpa kpa hnm knm hsnm ksnm hanm kanm hhp khp hdy kdy hcs kcs hc1 kc1 hc2 kc2 hc3 kc3 hbg kbg hlp klp hrp krp hout kout houtD koutD hr0 hr1 hr2 hr3 hr4 hr5 hr6 hr7 hr8 hr9 hr10 hr11 hr12 hr13 hr14 hr15 hr16 hr17 hr18 hr19 hr20 hr21 hr22 hr23 hr24 hr25 hr26 hr27 hr28 hr29 hij hB hI hl hi0 (by omega) (by omega) (by omega) kk
      by_cases cs18 : z = 18
      · refine lv_tableIn (tgt := 776) cx.1 cx.2.1 dL_law_45 (by rw [q_toInt ⟨by omega, by omega⟩]; omega) (by rw [q_toInt ⟨by omega, by omega⟩]; omega) (off := 731) (by rw [q_toInt ⟨by omega, by omega⟩, cs18]; rfl) (by decide) ?_
        exact law_c776 hfl hN9 C0 cx hN hLA hX hx kx hso kso hrd krd hscr kscr hfc kfc hhist khist hrep krep hnow know hdr kdr hsv ksv htr ktr hba kba hnds knds hmo kmo hbu kbu hsr ksr hsd ksd has kas haw kaw hpa kpa hnm knm hsnm ksnm hanm kanm hhp khp hdy kdy hcs kcs hc1 kc1 hc2 kc2 hc3 kc3 hbg kbg hlp klp hrp krp hout kout houtD koutD hr0 hr1 hr2 hr3 hr4 hr5 hr6 hr7 hr8 hr9 hr10 hr11 hr12 hr13 hr14 hr15 hr16 hr17 hr18 hr19 hr20 hr21 hr22 hr23 hr24 hr25 hr26 hr27 hr28 hr29 hij hB hI hl hi0 (by omega) (by omega) (by omega) kk
      by_cases cs19 : z = 19
      · refine lv_tableIn (tgt := 816) cx.1 cx.2.1 dL_law_45 (by rw [q_toInt ⟨by omega, by omega⟩]; omega) (by rw [q_toInt ⟨by omega, by omega⟩]; omega) (off := 771) (by rw [q_toInt ⟨by omega, by omega⟩, cs19]; rfl) (by decide) ?_
        exact law_c816 hfl hN9 C0 cx hN hLA hX hx kx hso kso hrd krd hscr kscr hfc kfc hhist khist hrep krep hnow know hdr kdr hsv ksv htr ktr hba kba hnds knds hmo kmo hbu kbu hsr ksr hsd ksd has kas haw kaw hpa kpa hnm knm hsnm ksnm hanm kanm hhp khp hdy kdy hcs kcs hc1 kc1 hc2 kc2 hc3 kc3 hbg kbg hlp klp hrp krp hout kout houtD koutD hr0 hr1 hr2 hr3 hr4 hr5 hr6 hr7 hr8 hr9 hr10 hr11 hr12 hr13 hr14 hr15 hr16 hr17 hr18 hr19 hr20 hr21 hr22 hr23 hr24 hr25 hr26 hr27 hr28 hr29 hij hB hI hl hi0 (by omega) (by omega) (by omega) kk
      by_cases cs20 : z = 20
      · refine lv_tableIn (tgt := 856) cx.1 cx.2.1 dL_law_45 (by rw [q_toInt ⟨by omega, by omega⟩]; omega) (by rw [q_toInt ⟨by omega, by omega⟩]; omega) (off := 811) (by rw [q_toInt ⟨by omega, by omega⟩, cs20]; rfl) (by decide) ?_
        exact law_c856 hfl hN9 C0 cx hN hLA hX hx kx hso kso hrd krd hscr kscr hfc kfc hhist khist hrep krep hnow know hdr kdr hsv ksv htr ktr hba kba hnds knds hmo kmo hbu kbu hsr ksr hsd ksd has kas haw kaw hpa kpa hnm knm hsnm ksnm hanm kanm hhp khp hdy kdy hcs kcs hc1 kc1 hc2 kc2 hc3 kc3 hbg kbg hlp klp hrp krp hout kout houtD koutD hr0 hr1 hr2 hr3 hr4 hr5 hr6 hr7 hr8 hr9 hr10 hr11 hr12 hr13 hr14 hr15 hr16 hr17 hr18 hr19 hr20 hr21 hr22 hr23 hr24 hr25 hr26 hr27 hr28 hr29 hij hB hI hl hi0 (by omega) (by omega) (by omega) kk
      by_cases cs21 : z = 21
      · refine lv_tableIn (tgt := 869) cx.1 cx.2.1 dL_law_45 (by rw [q_toInt ⟨by omega, by omega⟩]; omega) (by rw [q_toInt ⟨by omega, by omega⟩]; omega) (off := 824) (by rw [q_toInt ⟨by omega, by omega⟩, cs21]; rfl) (by decide) ?_
        exact law_c869 hfl hN9 C0 cx hN hLA hX hx kx hso kso hrd krd hscr kscr hfc kfc hhist khist hrep krep hnow know hdr kdr hsv ksv htr ktr hba kba hnds knds hmo kmo hbu kbu hsr ksr hsd ksd has kas haw kaw hpa kpa hnm knm hsnm ksnm hanm kanm hhp khp hdy kdy hcs kcs hc1 kc1 hc2 kc2 hc3 kc3 hbg kbg hlp klp hrp krp hout kout houtD koutD hr0 hr1 hr2 hr3 hr4 hr5 hr6 hr7 hr8 hr9 hr10 hr11 hr12 hr13 hr14 hr15 hr16 hr17 hr18 hr19 hr20 hr21 hr22 hr23 hr24 hr25 hr26 hr27 hr28 hr29 hij hB hI hl hi0 (by omega) (by omega) (by omega) kk
      by_cases cs22 : z = 22
      · refine lv_tableIn (tgt := 897) cx.1 cx.2.1 dL_law_45 (by rw [q_toInt ⟨by omega, by omega⟩]; omega) (by rw [q_toInt ⟨by omega, by omega⟩]; omega) (off := 852) (by rw [q_toInt ⟨by omega, by omega⟩, cs22]; rfl) (by decide) ?_
        exact law_c897 hfl hN9 C0 cx hN hLA hX hx kx hso kso hrd krd hscr kscr hfc kfc hhist khist hrep krep hnow know hdr kdr hsv ksv htr ktr hba kba hnds knds hmo kmo hbu kbu hsr ksr hsd ksd has kas haw kaw hpa kpa hnm knm hsnm ksnm hanm kanm hhp khp hdy kdy hcs kcs hc1 kc1 hc2 kc2 hc3 kc3 hbg kbg hlp klp hrp krp hout kout houtD koutD hr0 hr1 hr2 hr3 hr4 hr5 hr6 hr7 hr8 hr9 hr10 hr11 hr12 hr13 hr14 hr15 hr16 hr17 hr18 hr19 hr20 hr21 hr22 hr23 hr24 hr25 hr26 hr27 hr28 hr29 hij hB hI hl hi0 (by omega) (by omega) (by omega) kk
      by_cases cs23 : z = 23
      · refine lv_tableIn (tgt := 965) cx.1 cx.2.1 dL_law_45 (by rw [q_toInt ⟨by omega, by omega⟩]; omega) (by rw [q_toInt ⟨by omega, by omega⟩]; omega) (off := 920) (by rw [q_toInt ⟨by omega, by omega⟩, cs23]; rfl) (by decide) ?_
        exact law_c965 hfl hN9 C0 cx hN hLA hX hx kx hso kso hrd krd hscr kscr hfc kfc hhist khist hrep krep hnow know hdr kdr hsv ksv htr ktr hba kba hnds knds hmo kmo hbu kbu hsr ksr hsd ksd has kas haw kaw hpa kpa hnm knm hsnm ksnm hanm kanm hhp khp hdy kdy hcs kcs hc1 kc1 hc2 kc2 hc3 kc3 hbg kbg hlp klp hrp krp hout kout houtD koutD hr0 hr1 hr2 hr3 hr4 hr5 hr6 hr7 hr8 hr9 hr10 hr11 hr12 hr13 hr14 hr15 hr16 hr17 hr18 hr19 hr20 hr21 hr22 hr23 hr24 hr25 hr26 hr27 hr28 hr29 hij hB hI hl hi0 (by omega) (by omega) (by omega) kk
      by_cases cs24 : z = 24
      · refine lv_tableIn (tgt := 993) cx.1 cx.2.1 dL_law_45 (by rw [q_toInt ⟨by omega, by omega⟩]; omega) (by rw [q_toInt ⟨by omega, by omega⟩]; omega) (off := 948) (by rw [q_toInt ⟨by omega, by omega⟩, cs24]; rfl) (by decide) ?_
        exact law_c993 hfl hN9 C0 cx hN hLA hX hx kx hso kso hrd krd hscr kscr hfc kfc hhist khist hrep krep hnow know hdr kdr hsv ksv htr ktr hba kba hnds knds hmo kmo hbu kbu hsr ksr hsd ksd has kas haw kaw hpa kpa hnm knm hsnm ksnm hanm kanm hhp khp hdy kdy hcs kcs hc1 kc1 hc2 kc2 hc3 kc3 hbg kbg hlp klp hrp krp hout kout houtD koutD hr0 hr1 hr2 hr3 hr4 hr5 hr6 hr7 hr8 hr9 hr10 hr11 hr12 hr13 hr14 hr15 hr16 hr17 hr18 hr19 hr20 hr21 hr22 hr23 hr24 hr25 hr26 hr27 hr28 hr29 hij hB hI hl hi0 (by omega) (by omega) (by omega) kk
      by_cases cs25 : z = 25
      · refine lv_tableIn (tgt := 1033) cx.1 cx.2.1 dL_law_45 (by rw [q_toInt ⟨by omega, by omega⟩]; omega) (by rw [q_toInt ⟨by omega, by omega⟩]; omega) (off := 988) (by rw [q_toInt ⟨by omega, by omega⟩, cs25]; rfl) (by decide) ?_
        exact law_c1033 hfl hN9 C0 cx hN hLA hX hx kx hso kso hrd krd hscr kscr hfc kfc hhist khist hrep krep hnow know hdr kdr hsv ksv htr ktr hba kba hnds knds hmo kmo hbu kbu hsr ksr hsd ksd has kas haw kaw hpa kpa hnm knm hsnm ksnm hanm kanm hhp khp hdy kdy hcs kcs hc1 kc1 hc2 kc2 hc3 kc3 hbg kbg hlp klp hrp krp hout kout houtD koutD hr0 hr1 hr2 hr3 hr4 hr5 hr6 hr7 hr8 hr9 hr10 hr11 hr12 hr13 hr14 hr15 hr16 hr17 hr18 hr19 hr20 hr21 hr22 hr23 hr24 hr25 hr26 hr27 hr28 hr29 hij hB hI hl hi0 (by omega) (by omega) (by omega) kk
      by_cases cs26 : z = 26
      · refine lv_tableIn (tgt := 1046) cx.1 cx.2.1 dL_law_45 (by rw [q_toInt ⟨by omega, by omega⟩]; omega) (by rw [q_toInt ⟨by omega, by omega⟩]; omega) (off := 1001) (by rw [q_toInt ⟨by omega, by omega⟩, cs26]; rfl) (by decide) ?_
        exact law_c1046 hfl hN9 C0 cx hN hLA hX hx kx hso kso hrd krd hscr kscr hfc kfc hhist khist hrep krep hnow know hdr kdr hsv ksv htr ktr hba kba hnds knds hmo kmo hbu kbu hsr ksr hsd ksd has kas haw kaw hpa kpa hnm knm hsnm ksnm hanm kanm hhp khp hdy kdy hcs kcs hc1 kc1 hc2 kc2 hc3 kc3 hbg kbg hlp klp hrp krp hout kout houtD koutD hr0 hr1 hr2 hr3 hr4 hr5 hr6 hr7 hr8 hr9 hr10 hr11 hr12 hr13 hr14 hr15 hr16 hr17 hr18 hr19 hr20 hr21 hr22 hr23 hr24 hr25 hr26 hr27 hr28 hr29 hij hB hI hl hi0 (by omega) (by omega) (by omega) kk
      by_cases cs27 : z = 27
      · refine lv_tableIn (tgt := 1074) cx.1 cx.2.1 dL_law_45 (by rw [q_toInt ⟨by omega, by omega⟩]; omega) (by rw [q_toInt ⟨by omega, by omega⟩]; omega) (off := 1029) (by rw [q_toInt ⟨by omega, by omega⟩, cs27]; rfl) (by decide) ?_
        exact law_c1074 hfl hN9 C0 cx hN hLA hX hx kx hso kso hrd krd hscr kscr hfc kfc hhist khist hrep krep hnow know hdr kdr hsv ksv htr ktr hba kba hnds knds hmo kmo hbu kbu hsr ksr hsd ksd has kas haw kaw hpa kpa hnm knm hsnm ksnm hanm kanm hhp khp hdy kdy hcs kcs hc1 kc1 hc2 kc2 hc3 kc3 hbg kbg hlp klp hrp krp hout kout houtD koutD hr0 hr1 hr2 hr3 hr4 hr5 hr6 hr7 hr8 hr9 hr10 hr11 hr12 hr13 hr14 hr15 hr16 hr17 hr18 hr19 hr20 hr21 hr22 hr23 hr24 hr25 hr26 hr27 hr28 hr29 hij hB hI hl hi0 (by omega) (by omega) (by omega) kk
      by_cases cs28 : z = 28
      · refine lv_tableIn (tgt := 1114) cx.1 cx.2.1 dL_law_45 (by rw [q_toInt ⟨by omega, by omega⟩]; omega) (by rw [q_toInt ⟨by omega, by omega⟩]; omega) (off := 1069) (by rw [q_toInt ⟨by omega, by omega⟩, cs28]; rfl) (by decide) ?_
        exact law_c1114 hfl hN9 C0 cx hN hLA hX hx kx hso kso hrd krd hscr kscr hfc kfc hhist khist hrep krep hnow know hdr kdr hsv ksv htr ktr hba kba hnds knds hmo kmo hbu kbu hsr ksr hsd ksd has kas haw kaw hpa kpa hnm knm hsnm ksnm hanm kanm hhp khp hdy kdy hcs kcs hc1 kc1 hc2 kc2 hc3 kc3 hbg kbg hlp klp hrp krp hout kout houtD koutD hr0 hr1 hr2 hr3 hr4 hr5 hr6 hr7 hr8 hr9 hr10 hr11 hr12 hr13 hr14 hr15 hr16 hr17 hr18 hr19 hr20 hr21 hr22 hr23 hr24 hr25 hr26 hr27 hr28 hr29 hij hB hI hl hi0 (by omega) (by omega) (by omega) kk
      by_cases cs29 : z = 29
      · refine lv_tableIn (tgt := 1142) cx.1 cx.2.1 dL_law_45 (by rw [q_toInt ⟨by omega, by omega⟩]; omega) (by rw [q_toInt ⟨by omega, by omega⟩]; omega) (off := 1097) (by rw [q_toInt ⟨by omega, by omega⟩, cs29]; rfl) (by decide) ?_
        exact law_c1142 hfl hN9 C0 cx hN hLA hX hx kx hso kso hrd krd hscr kscr hfc kfc hhist khist hrep krep hnow know hdr kdr hsv ksv htr ktr hba kba hnds knds hmo kmo hbu kbu hsr ksr hsd ksd has kas haw kaw hpa kpa hnm knm hsnm ksnm hanm kanm hhp khp hdy kdy hcs kcs hc1 kc1 hc2 kc2 hc3 kc3 hbg kbg hlp klp hrp krp hout kout houtD koutD hr0 hr1 hr2 hr3 hr4 hr5 hr6 hr7 hr8 hr9 hr10 hr11 hr12 hr13 hr14 hr15 hr16 hr17 hr18 hr19 hr20 hr21 hr22 hr23 hr24 hr25 hr26 hr27 hr28 hr29 hij hB hI hl hi0 (by omega) (by omega) (by omega) kk
      by_cases cs30 : z = 30
      · refine lv_tableIn (tgt := 1222) cx.1 cx.2.1 dL_law_45 (by rw [q_toInt ⟨by omega, by omega⟩]; omega) (by rw [q_toInt ⟨by omega, by omega⟩]; omega) (off := 1177) (by rw [q_toInt ⟨by omega, by omega⟩, cs30]; rfl) (by decide) ?_
        exact law_c1222 hfl hN9 C0 cx hN hLA hX hx kx hso kso hrd krd hscr kscr hfc kfc hhist khist hrep krep hnow know hdr kdr hsv ksv htr ktr hba kba hnds knds hmo kmo hbu kbu hsr ksr hsd ksd has kas haw kaw hpa kpa hnm knm hsnm ksnm hanm kanm hhp khp hdy kdy hcs kcs hc1 kc1 hc2 kc2 hc3 kc3 hbg kbg hlp klp hrp krp hout kout houtD koutD hr0 hr1 hr2 hr3 hr4 hr5 hr6 hr7 hr8 hr9 hr10 hr11 hr12 hr13 hr14 hr15 hr16 hr17 hr18 hr19 hr20 hr21 hr22 hr23 hr24 hr25 hr26 hr27 hr28 hr29 hij hB hI hl hi0 (by omega) (by omega) (by omega) kk
      by_cases cs31 : z = 31
      · refine lv_tableIn (tgt := 1262) cx.1 cx.2.1 dL_law_45 (by rw [q_toInt ⟨by omega, by omega⟩]; omega) (by rw [q_toInt ⟨by omega, by omega⟩]; omega) (off := 1217) (by rw [q_toInt ⟨by omega, by omega⟩, cs31]; rfl) (by decide) ?_
        exact law_c1262 hfl hN9 C0 cx hN hLA hX hx kx hso kso hrd krd hscr kscr hfc kfc hhist khist hrep krep hnow know hdr kdr hsv ksv htr ktr hba kba hnds knds hmo kmo hbu kbu hsr ksr hsd ksd has kas haw kaw hpa kpa hnm knm hsnm ksnm hanm kanm hhp khp hdy kdy hcs kcs hc1 kc1 hc2 kc2 hc3 kc3 hbg kbg hlp klp hrp krp hout kout houtD koutD hr0 hr1 hr2 hr3 hr4 hr5 hr6 hr7 hr8 hr9 hr10 hr11 hr12 hr13 hr14 hr15 hr16 hr17 hr18 hr19 hr20 hr21 hr22 hr23 hr24 hr25 hr26 hr27 hr28 hr29 hij hB hI hl hi0 (by omega) (by omega) (by omega) kk
      by_cases cs32 : z = 32
      · refine lv_tableIn (tgt := 1330) cx.1 cx.2.1 dL_law_45 (by rw [q_toInt ⟨by omega, by omega⟩]; omega) (by rw [q_toInt ⟨by omega, by omega⟩]; omega) (off := 1285) (by rw [q_toInt ⟨by omega, by omega⟩, cs32]; rfl) (by decide) ?_
        exact law_c1330 hfl hN9 C0 cx hN hLA hX hx kx hso kso hrd krd hscr kscr hfc kfc hhist khist hrep krep hnow know hdr kdr hsv ksv htr ktr hba kba hnds knds hmo kmo hbu kbu hsr ksr hsd ksd has kas haw kaw hpa kpa hnm knm hsnm ksnm hanm kanm hhp khp hdy kdy hcs kcs hc1 kc1 hc2 kc2 hc3 kc3 hbg kbg hlp klp hrp krp hout kout houtD koutD hr0 hr1 hr2 hr3 hr4 hr5 hr6 hr7 hr8 hr9 hr10 hr11 hr12 hr13 hr14 hr15 hr16 hr17 hr18 hr19 hr20 hr21 hr22 hr23 hr24 hr25 hr26 hr27 hr28 hr29 hij hB hI hl hi0 (by omega) (by omega) (by omega) kk
      by_cases cs33 : z = 33
      · refine lv_tableIn (tgt := 1370) cx.1 cx.2.1 dL_law_45 (by rw [q_toInt ⟨by omega, by omega⟩]; omega) (by rw [q_toInt ⟨by omega, by omega⟩]; omega) (off := 1325) (by rw [q_toInt ⟨by omega, by omega⟩, cs33]; rfl) (by decide) ?_
        exact law_c1370 hfl hN9 C0 cx hN hLA hX hx kx hso kso hrd krd hscr kscr hfc kfc hhist khist hrep krep hnow know hdr kdr hsv ksv htr ktr hba kba hnds knds hmo kmo hbu kbu hsr ksr hsd ksd has kas haw kaw hpa kpa hnm knm hsnm ksnm hanm kanm hhp khp hdy kdy hcs kcs hc1 kc1 hc2 kc2 hc3 kc3 hbg kbg hlp klp hrp krp hout kout houtD koutD hr0 hr1 hr2 hr3 hr4 hr5 hr6 hr7 hr8 hr9 hr10 hr11 hr12 hr13 hr14 hr15 hr16 hr17 hr18 hr19 hr20 hr21 hr22 hr23 hr24 hr25 hr26 hr27 hr28 hr29 hij hB hI hl hi0 (by omega) (by omega) (by omega) kk
      by_cases cs34 : z = 34
      · refine lv_tableIn (tgt := 1410) cx.1 cx.2.1 dL_law_45 (by rw [q_toInt ⟨by omega, by omega⟩]; omega) (by rw [q_toInt ⟨by omega, by omega⟩]; omega) (off := 1365) (by rw [q_toInt ⟨by omega, by omega⟩, cs34]; rfl) (by decide) ?_
        exact law_c1410 hfl hN9 C0 cx hN hLA hX hx kx hso kso hrd krd hscr kscr hfc kfc hhist khist hrep krep hnow know hdr kdr hsv ksv htr ktr hba kba hnds knds hmo kmo hbu kbu hsr ksr hsd ksd has kas haw kaw hpa kpa hnm knm hsnm ksnm hanm kanm hhp khp hdy kdy hcs kcs hc1 kc1 hc2 kc2 hc3 kc3 hbg kbg hlp klp hrp krp hout kout houtD koutD hr0 hr1 hr2 hr3 hr4 hr5 hr6 hr7 hr8 hr9 hr10 hr11 hr12 hr13 hr14 hr15 hr16 hr17 hr18 hr19 hr20 hr21 hr22 hr23 hr24 hr25 hr26 hr27 hr28 hr29 hij hB hI hl hi0 (by omega) (by omega) (by omega) kk
      by_cases cs35 : z = 35
      · refine lv_tableIn (tgt := 1438) cx.1 cx.2.1 dL_law_45 (by rw [q_toInt ⟨by omega, by omega⟩]; omega) (by rw [q_toInt ⟨by omega, by omega⟩]; omega) (off := 1393) (by rw [q_toInt ⟨by omega, by omega⟩, cs35]; rfl) (by decide) ?_
        exact law_c1438 hfl hN9 C0 cx hN hLA hX hx kx hso kso hrd krd hscr kscr hfc kfc hhist khist hrep krep hnow know hdr kdr hsv ksv htr ktr hba kba hnds knds hmo kmo hbu kbu hsr ksr hsd ksd has kas haw kaw hpa kpa hnm knm hsnm ksnm hanm kanm hhp khp hdy kdy hcs kcs hc1 kc1 hc2 kc2 hc3 kc3 hbg kbg hlp klp hrp krp hout kout houtD koutD hr0 hr1 hr2 hr3 hr4 hr5 hr6 hr7 hr8 hr9 hr10 hr11 hr12 hr13 hr14 hr15 hr16 hr17 hr18 hr19 hr20 hr21 hr22 hr23 hr24 hr25 hr26 hr27 hr28 hr29 hij hB hI hl hi0 (by omega) (by omega) (by omega) kk
      by_cases cs36 : z = 36
      · refine lv_tableIn (tgt := 1451) cx.1 cx.2.1 dL_law_45 (by rw [q_toInt ⟨by omega, by omega⟩]; omega) (by rw [q_toInt ⟨by omega, by omega⟩]; omega) (off := 1406) (by rw [q_toInt ⟨by omega, by omega⟩, cs36]; rfl) (by decide) ?_
        exact law_c1451 hfl hN9 C0 cx hN hLA hX hx kx hso kso hrd krd hscr kscr hfc kfc hhist khist hrep krep hnow know hdr kdr hsv ksv htr ktr hba kba hnds knds hmo kmo hbu kbu hsr ksr hsd ksd has kas haw kaw hpa kpa hnm knm hsnm ksnm hanm kanm hhp khp hdy kdy hcs kcs hc1 kc1 hc2 kc2 hc3 kc3 hbg kbg hlp klp hrp krp hout kout houtD koutD hr0 hr1 hr2 hr3 hr4 hr5 hr6 hr7 hr8 hr9 hr10 hr11 hr12 hr13 hr14 hr15 hr16 hr17 hr18 hr19 hr20 hr21 hr22 hr23 hr24 hr25 hr26 hr27 hr28 hr29 hij hB hI hl hi0 (by omega) (by omega) (by omega) kk
      by_cases cs37 : z = 37
      · refine lv_tableIn (tgt := 1479) cx.1 cx.2.1 dL_law_45 (by rw [q_toInt ⟨by omega, by omega⟩]; omega) (by rw [q_toInt ⟨by omega, by omega⟩]; omega) (off := 1434) (by rw [q_toInt ⟨by omega, by omega⟩, cs37]; rfl) (by decide) ?_
        exact law_c1479 hfl hN9 C0 cx hN hLA hX hx kx hso kso hrd krd hscr kscr hfc kfc hhist khist hrep krep hnow know hdr kdr hsv ksv htr ktr hba kba hnds knds hmo kmo hbu kbu hsr ksr hsd ksd has kas haw kaw hpa kpa hnm knm hsnm ksnm hanm kanm hhp khp hdy kdy hcs kcs hc1 kc1 hc2 kc2 hc3 kc3 hbg kbg hlp klp hrp krp hout kout houtD koutD hr0 hr1 hr2 hr3 hr4 hr5 hr6 hr7 hr8 hr9 hr10 hr11 hr12 hr13 hr14 hr15 hr16 hr17 hr18 hr19 hr20 hr21 hr22 hr23 hr24 hr25 hr26 hr27 hr28 hr29 hij hB hI hl hi0 (by omega) (by omega) (by omega) kk
      by_cases cs38 : z = 38
      · refine lv_tableIn (tgt := 1492) cx.1 cx.2.1 dL_law_45 (by rw [q_toInt ⟨by omega, by omega⟩]; omega) (by rw [q_toInt ⟨by omega, by omega⟩]; omega) (off := 1447) (by rw [q_toInt ⟨by omega, by omega⟩, cs38]; rfl) (by decide) ?_
        exact law_c1492 hfl hN9 C0 cx hN hLA hX hx kx hso kso hrd krd hscr kscr hfc kfc hhist khist hrep krep hnow know hdr kdr hsv ksv htr ktr hba kba hnds knds hmo kmo hbu kbu hsr ksr hsd ksd has kas haw kaw hpa kpa hnm knm hsnm ksnm hanm kanm hhp khp hdy kdy hcs kcs hc1 kc1 hc2 kc2 hc3 kc3 hbg kbg hlp klp hrp krp hout kout houtD koutD hr0 hr1 hr2 hr3 hr4 hr5 hr6 hr7 hr8 hr9 hr10 hr11 hr12 hr13 hr14 hr15 hr16 hr17 hr18 hr19 hr20 hr21 hr22 hr23 hr24 hr25 hr26 hr27 hr28 hr29 hij hB hI hl hi0 (by omega) (by omega) (by omega) kk
      by_cases cs39 : z = 39
      · refine lv_tableIn (tgt := 1505) cx.1 cx.2.1 dL_law_45 (by rw [q_toInt ⟨by omega, by omega⟩]; omega) (by rw [q_toInt ⟨by omega, by omega⟩]; omega) (off := 1460) (by rw [q_toInt ⟨by omega, by omega⟩, cs39]; rfl) (by decide) ?_
        exact law_c1505 hfl hN9 C0 cx hN hLA hX hx kx hso kso hrd krd hscr kscr hfc kfc hhist khist hrep krep hnow know hdr kdr hsv ksv htr ktr hba kba hnds knds hmo kmo hbu kbu hsr ksr hsd ksd has kas haw kaw hpa kpa hnm knm hsnm ksnm hanm kanm hhp khp hdy kdy hcs kcs hc1 kc1 hc2 kc2 hc3 kc3 hbg kbg hlp klp hrp krp hout kout houtD koutD hr0 hr1 hr2 hr3 hr4 hr5 hr6 hr7 hr8 hr9 hr10 hr11 hr12 hr13 hr14 hr15 hr16 hr17 hr18 hr19 hr20 hr21 hr22 hr23 hr24 hr25 hr26 hr27 hr28 hr29 hij hB hI hl hi0 (by omega) (by omega) (by omega) kk
      refine lv_tableOut (tgt := 1521) cx.1 cx.2.1 dL_law_45 (by rw [q_toInt ⟨by omega, by omega⟩]; omega) (by decide) ?_
      exact W.widen (k := cells + 6) (n := slots + 36) (by omega) (by omega) (kk f H locs ls tn hB hI hl)
