set_option maxHeartbeats 4000000 in
set_option maxRecDepth 100000 in
theorem law_c324 {p : Program} {l : Launch} {e : Env} {s : State} {m : MethodId} {below : List Frame} {meth : Method} {c : Code} {b N9 : Nat} {xs : Nat → Int32} (hfl : l.stackTraces = false) (hN9 : N9 ≤ 3072) (C0 : lw_At p s m meth c b N9 xs) (cx : CallFix p m c cL_law 10 s #[Value.ref b] q_al RL) {g : q_G} {ad : Nat → Nat} {K : Nat → Nat} {L : List Nat} (hN : L.Nodup) (hLA : ∀ q, q ∈ L → s.heap.size ≤ q) (hX : q_X ad (fun q => q ∈ L) s) {f0 : Nat → va_E} {x : Nat} (hx : x ∈ L) (kx : K x = 11) {so : Nat} (hso : so ∈ L) (kso : K so = 8) {rd : Nat} (hrd : rd ∈ L) (krd : K rd = 9) {scr : Nat} (hscr : scr ∈ L) (kscr : K scr = 7) {fc : Nat} (hfc : fc ∈ L) (kfc : K fc = 1) {hist : Nat} (hhist : hist ∈ L) (khist : K hist = 2) {rep : Nat} (hrep : rep ∈ L) (krep : K rep = 6) {now : Nat} (hnow : now ∈ L) (know : K now = 10) {dr : Nat} (hdr : dr ∈ L) (kdr : K dr = 13) {sv : Nat} (hsv : sv ∈ L) (ksv : K sv = 14) {tr : Nat} (htr : tr ∈ L) (ktr : K tr = 15) {ba : Nat} (hba : ba ∈ L) (kba : K ba = 142) {nds : Nat} (hnds : nds ∈ L) (knds : K nds = 111) {mo : Nat} (hmo : mo ∈ L) (kmo : K mo = 12) {bu : Nat} (hbu : bu ∈ L) (kbu : K bu = 150) {sr : Nat} (hsr : sr ∈ L) (ksr : K sr = 151) {sd : Nat} (hsd : sd ∈ L) (ksd : K sd = 152) {as : Nat} (has : as ∈ L) (kas : K as = 153) {aw : Nat} (haw : aw ∈ L) (kaw : K aw = 154) {pa : Nat} (hpa : pa ∈ L) (kpa : K pa = 155) {nm : Nat} (hnm : nm ∈ L) (knm : K nm = 156) {snm : Nat} (hsnm : snm ∈ L) (ksnm : K snm = 157) {anm : Nat} (hanm : anm ∈ L) (kanm : K anm = 158) {hp : Nat} (hhp : hp ∈ L) (khp : K hp = 159) {dy : Nat} (hdy : dy ∈ L) (kdy : K dy = 160) {cs : Nat} (hcs : cs ∈ L) (kcs : K cs = 161) {c1 : Nat} (hc1 : c1 ∈ L) (kc1 : K c1 = 162) {c2 : Nat} (hc2 : c2 ∈ L) (kc2 : K c2 = 163) {c3 : Nat} (hc3 : c3 ∈ L) (kc3 : K c3 = 164) {bg : Nat} (hbg : bg ∈ L) (kbg : K bg = 165) {lp : Nat} (hlp : lp ∈ L) (klp : K lp = 166) {rp : Nat} (hrp : rp ∈ L) (krp : K rp = 167) {out : Nat} (hout : out ∈ L) (kout : K out = 168) {outD : Nat} (houtD : outD ∈ L) (koutD : K outD = 169) (hr0 : q_ir (q_r f0 x 0) so) (hr1 : q_ir (q_r f0 x 1) rd) (hr2 : q_ir (q_r f0 x 2) scr) (hr3 : q_ir (q_r f0 x 3) fc) (hr4 : q_ir (q_r f0 x 4) hist) (hr5 : q_ir (q_r f0 x 5) rep) (hr6 : q_ir (q_r f0 x 6) now) (hr7 : q_ir (q_r f0 x 7) dr) (hr8 : q_ir (q_r f0 x 8) sv) (hr9 : q_ir (q_r f0 fc 0) tr) (hr10 : q_ir (q_r f0 so 0) ba) (hr11 : q_ir (q_r f0 dr 0) nds) (hr12 : q_ir (q_r f0 mo 1) bu) (hr13 : q_ir (q_r f0 mo 13) sr) (hr14 : q_ir (q_r f0 mo 14) sd) (hr15 : q_ir (q_r f0 mo 15) as) (hr16 : q_ir (q_r f0 mo 16) aw) (hr17 : q_ir (q_r f0 mo 17) pa) (hr18 : q_ir (q_r f0 mo 18) nm) (hr19 : q_ir (q_r f0 mo 19) snm) (hr20 : q_ir (q_r f0 mo 20) anm) (hr21 : q_ir (q_r f0 mo 24) hp) (hr22 : q_ir (q_r f0 mo 25) dy) (hr23 : q_ir (q_r f0 mo 29) cs) (hr24 : q_ir (q_r f0 mo 30) c1) (hr25 : q_ir (q_r f0 mo 31) c2) (hr26 : q_ir (q_r f0 mo 32) c3) (hr27 : q_ir (q_r f0 mo 33) bg) (hr28 : q_ir (q_r f0 mo 34) lp) (hr29 : q_ir (q_r f0 mo 38) rp) (hij : tk_ij K L f0 nds) {f : Nat → va_E} {H : Heap} {locs : List Loc} {ls : Array Slot} {cells slots : Nat} {ii tn : Int} (hB : q_B g K L (fun q => s.heap.size ≤ q) [(0, 0, 6), (2, 1, 2), (3, 0, 4), (4, 0, 7), (5, 0, 9), (6, 1, 1), (7, 1, 4), (8, 1, 9), (9, 0, 2), (10, 3, 15), (11, 9, 9), (12, 0, 0), (12, 2, 12), (12, 21, 23), (12, 26, 28), (12, 35, 37), (12, 39, 40), (13, 3, 15), (14, 3, 15), (15, 3, 15), (16, 3, 15), (17, 0, 9), (18, 0, 9), (19, 0, 9), (20, 0, 9), (21, 0, 4), (22, 0, 4), (23, 0, 4), (24, 0, 4), (25, 0, 7), (26, 0, 7), (27, 0, 7), (28, 0, 7), (142, 0, 599), (143, 0, 599), (150, 0, 599), (151, 0, 657), (152, 0, 657), (153, 0, 657), (154, 0, 657), (155, 0, 3947), (156, 0, 9), (157, 0, 9), (158, 0, 9), (159, 0, 9), (160, 0, 9), (161, 0, 59), (162, 0, 58), (163, 0, 58), (164, 0, 58), (165, 0, 1), (166, 0, 1), (167, 0, 479), (168, 0, 0), (169, 0, 0)] f0 f s H locs) (hI : q_Iv4 f so mo sr pa sd bu ba tn) (hl : lv_has ls 10 [(5, .int (q_i ii)), (4, .ref outD), (3, .ref out), (2, .ref mo), (1, .ref x), (0, .ref b)]) (hi0 : 0 ≤ ii) (hi6 : ii + 6 ≤ N9) (hce : cells + 6 ≤ 10000) (hse : slots + 36 ≤ 100000) (kk : ∀ (f1 : Nat → va_E) (H1 : Heap) (locs1 : List Loc) (ls1 : Array Slot) (tn1 : Int), q_B g K L (fun q => s.heap.size ≤ q) [(0, 0, 6), (2, 1, 2), (3, 0, 4), (4, 0, 7), (5, 0, 9), (6, 1, 1), (7, 1, 4), (8, 1, 9), (9, 0, 2), (10, 3, 15), (11, 9, 9), (12, 0, 0), (12, 2, 12), (12, 21, 23), (12, 26, 28), (12, 35, 37), (12, 39, 40), (13, 3, 15), (14, 3, 15), (15, 3, 15), (16, 3, 15), (17, 0, 9), (18, 0, 9), (19, 0, 9), (20, 0, 9), (21, 0, 4), (22, 0, 4), (23, 0, 4), (24, 0, 4), (25, 0, 7), (26, 0, 7), (27, 0, 7), (28, 0, 7), (142, 0, 599), (143, 0, 599), (150, 0, 599), (151, 0, 657), (152, 0, 657), (153, 0, 657), (154, 0, 657), (155, 0, 3947), (156, 0, 9), (157, 0, 9), (158, 0, 9), (159, 0, 9), (160, 0, 9), (161, 0, 59), (162, 0, 58), (163, 0, 58), (164, 0, 58), (165, 0, 1), (166, 0, 1), (167, 0, 479), (168, 0, 0), (169, 0, 0)] f0 f1 s H1 locs1 → q_Iv4 f1 so mo sr pa sd bu ba tn1 → lv_has ls1 10 [(5, .int (q_i ii)), (4, .ref outD), (3, .ref out), (2, .ref mo), (1, .ref x), (0, .ref b)] → W p l e room_1 s m #[Value.ref b] below meth c H1 locs1 (cells + 6) (slots + 36) (lw_Z below #[Value.ref b] s) (F0 m 1521 ls1 [])) : W p l e room_1 s m #[Value.ref b] below meth c H locs (cells) (slots) (lw_Z below #[Value.ref b] s) (F0 m 324 ls []) := by
  have hXs := C0.2.2.2.2.2.2.1
  have hbl := C0.2.2.2.2.2.2.2.1
  have hbA := q_bA hbl
  obtain ⟨⟨hn0, hn1, ltn, utn⟩, hgr, hpk, hsd9, ht3, ht4, hbb⟩ := hI
  have hr0 : q_ir (q_r f x 0) so := Eq.trans (hB.2.2.r hx (by rw [kx]; rfl)) hr0
  have hr1 : q_ir (q_r f x 1) rd := Eq.trans (hB.2.2.r hx (by rw [kx]; rfl)) hr1
  have hr2 : q_ir (q_r f x 2) scr := Eq.trans (hB.2.2.r hx (by rw [kx]; rfl)) hr2
  have hr3 : q_ir (q_r f x 3) fc := Eq.trans (hB.2.2.r hx (by rw [kx]; rfl)) hr3
  have hr4 : q_ir (q_r f x 4) hist := Eq.trans (hB.2.2.r hx (by rw [kx]; rfl)) hr4
  have hr5 : q_ir (q_r f x 5) rep := Eq.trans (hB.2.2.r hx (by rw [kx]; rfl)) hr5
  have hr6 : q_ir (q_r f x 6) now := Eq.trans (hB.2.2.r hx (by rw [kx]; rfl)) hr6
  have hr7 : q_ir (q_r f x 7) dr := Eq.trans (hB.2.2.r hx (by rw [kx]; rfl)) hr7
  have hr8 : q_ir (q_r f x 8) sv := Eq.trans (hB.2.2.r hx (by rw [kx]; rfl)) hr8
  have hr9 : q_ir (q_r f fc 0) tr := Eq.trans (hB.2.2.r hfc (by rw [kfc]; rfl)) hr9
  have hr10 : q_ir (q_r f so 0) ba := Eq.trans (hB.2.2.r hso (by rw [kso]; rfl)) hr10
  have hr11 : q_ir (q_r f dr 0) nds := Eq.trans (hB.2.2.r hdr (by rw [kdr]; rfl)) hr11
  have hr12 : q_ir (q_r f mo 1) bu := Eq.trans (hB.2.2.r hmo (by rw [kmo]; rfl)) hr12
  have hr13 : q_ir (q_r f mo 13) sr := Eq.trans (hB.2.2.r hmo (by rw [kmo]; rfl)) hr13
  have hr14 : q_ir (q_r f mo 14) sd := Eq.trans (hB.2.2.r hmo (by rw [kmo]; rfl)) hr14
  have hr15 : q_ir (q_r f mo 15) as := Eq.trans (hB.2.2.r hmo (by rw [kmo]; rfl)) hr15
  have hr16 : q_ir (q_r f mo 16) aw := Eq.trans (hB.2.2.r hmo (by rw [kmo]; rfl)) hr16
  have hr17 : q_ir (q_r f mo 17) pa := Eq.trans (hB.2.2.r hmo (by rw [kmo]; rfl)) hr17
  have hr18 : q_ir (q_r f mo 18) nm := Eq.trans (hB.2.2.r hmo (by rw [kmo]; rfl)) hr18
  have hr19 : q_ir (q_r f mo 19) snm := Eq.trans (hB.2.2.r hmo (by rw [kmo]; rfl)) hr19
  have hr20 : q_ir (q_r f mo 20) anm := Eq.trans (hB.2.2.r hmo (by rw [kmo]; rfl)) hr20
  have hr21 : q_ir (q_r f mo 24) hp := Eq.trans (hB.2.2.r hmo (by rw [kmo]; rfl)) hr21
  have hr22 : q_ir (q_r f mo 25) dy := Eq.trans (hB.2.2.r hmo (by rw [kmo]; rfl)) hr22
  have hr23 : q_ir (q_r f mo 29) cs := Eq.trans (hB.2.2.r hmo (by rw [kmo]; rfl)) hr23
  have hr24 : q_ir (q_r f mo 30) c1 := Eq.trans (hB.2.2.r hmo (by rw [kmo]; rfl)) hr24
  have hr25 : q_ir (q_r f mo 31) c2 := Eq.trans (hB.2.2.r hmo (by rw [kmo]; rfl)) hr25
  have hr26 : q_ir (q_r f mo 32) c3 := Eq.trans (hB.2.2.r hmo (by rw [kmo]; rfl)) hr26
  have hr27 : q_ir (q_r f mo 33) bg := Eq.trans (hB.2.2.r hmo (by rw [kmo]; rfl)) hr27
  have hr28 : q_ir (q_r f mo 34) lp := Eq.trans (hB.2.2.r hmo (by rw [kmo]; rfl)) hr28
  have hr29 : q_ir (q_r f mo 38) rp := Eq.trans (hB.2.2.r hmo (by rw [kmo]; rfl)) hr29
  have hij : tk_ij K L f nds := tk_ij_tr hij (fun i9 => hB.2.2.r hnds (by rw [knds]; rfl))
  obtain ⟨B, hBd⟩ : ∃ B9 : Nat → Int, ∀ i9 : Nat, B9 i9 = q_z f ba i9 := ⟨_, fun _ => rfl⟩
  have htb : tk_tb f ba B tn := fun i9 h9 => (hBd i9).symm
  have hub : tk_ub f bu B tn := tk_bb_ub hbb hB.2.1 hba kba hBd utn
  obtain ⟨x1, ex1⟩ : ∃ zz, q_is (q_z f sr 3) zz := ⟨_, q_isr _⟩
  obtain ⟨lx1, ux1⟩ : 0 ≤ x1 ∧ x1 ≤ 9999 := q_isb ex1 ⟨(hgr 3 (by decide)).1, ht3⟩
  obtain ⟨x2, ex2⟩ : ∃ zz, q_is (q_z f sr 4) zz := ⟨_, q_isr _⟩
  obtain ⟨lx2, ux2⟩ : 0 ≤ x2 ∧ x2 ≤ 60 := q_isb ex2 ⟨(hgr 4 (by decide)).1, ht4⟩
  refine q_ald_n cx dL_law_324 rfl (lv_at hl 4 rfl) ?_
  refine q_ald_n cx dL_law_325 rfl (lv_at hl 2 rfl) ?_
  refine q_cWS (As := [.ref x, .ref out]) (rest := []) cx hX hB (fun q h => hLA q h) (fun q h1 h2 => absurd h1 (Nat.not_le_of_lt h2)) hN (f_wreadText l g ad hN hB.2.1 hfl B x hx kx out hout kout so hso kso rd hrd krd scr hscr kscr fc hfc kfc hist hhist khist rep hrep krep now hnow know dr hdr kdr sv hsv ksv tr htr ktr ba hba kba nds hnds knds tn (by omega) (by omega) hn0 hr0 hr1 hr2 hr3 hr4 hr5 hr6 hr7 hr8 hr9 hr10 hr11 htb hij) q_cL_128 q_dL_readText ⟨by decide, by show cells + 1 ≤ 601024; omega, by show slots + 6 ≤ 7293034; omega⟩ rfl rfl hl.1 rfl (Nat.le_of_ble_eq_true rfl) dL_law_326 (fun v9 H locs f3 h5 hF hB => ?_)
  obtain ⟨y4, rfl, ry4, h5⟩ := h5
  refine W.eq (g2 := F0 m 329 ls [.int (q_i y4)]) rfl ?_
  rcases h5 with h6 | h7
  · obtain ⟨qy4, z8, z9, z10, t11⟩ := h6
    have z12 : q_is (q_z f3 mo 2) tn := Eq.trans (hF.z hmo (by rw [kmo]; rfl)) hn1
    have z13 : q_is (q_z f3 sr 3) x1 := Eq.trans (hF.z hsr (by rw [ksr]; rfl)) ex1
    have z14 : q_is (q_z f3 sr 4) x2 := Eq.trans (hF.z hsr (by rw [ksr]; rfl)) ex2
    have z15 : q_ir (q_r f3 x 0) so := Eq.trans (hF.r hx (by rw [kx]; rfl)) hr0
    have z16 : q_ir (q_r f3 x 1) rd := Eq.trans (hF.r hx (by rw [kx]; rfl)) hr1
    have z17 : q_ir (q_r f3 x 2) scr := Eq.trans (hF.r hx (by rw [kx]; rfl)) hr2
    have z18 : q_ir (q_r f3 x 3) fc := Eq.trans (hF.r hx (by rw [kx]; rfl)) hr3
    have z19 : q_ir (q_r f3 x 4) hist := Eq.trans (hF.r hx (by rw [kx]; rfl)) hr4
    have z20 : q_ir (q_r f3 x 5) rep := Eq.trans (hF.r hx (by rw [kx]; rfl)) hr5
    have z21 : q_ir (q_r f3 x 6) now := Eq.trans (hF.r hx (by rw [kx]; rfl)) hr6
    have z22 : q_ir (q_r f3 x 7) dr := Eq.trans (hF.r hx (by rw [kx]; rfl)) hr7
    have z23 : q_ir (q_r f3 x 8) sv := Eq.trans (hF.r hx (by rw [kx]; rfl)) hr8
    have z24 : q_ir (q_r f3 fc 0) tr := Eq.trans (hF.r hfc (by rw [kfc]; rfl)) hr9
    have z25 : q_ir (q_r f3 so 0) ba := Eq.trans (hF.r hso (by rw [kso]; rfl)) hr10
    have z26 : q_ir (q_r f3 dr 0) nds := Eq.trans (hF.r hdr (by rw [kdr]; rfl)) hr11
    have z27 : q_ir (q_r f3 mo 1) bu := Eq.trans (hF.r hmo (by rw [kmo]; rfl)) hr12
    have z28 : q_ir (q_r f3 mo 13) sr := Eq.trans (hF.r hmo (by rw [kmo]; rfl)) hr13
    have z29 : q_ir (q_r f3 mo 14) sd := Eq.trans (hF.r hmo (by rw [kmo]; rfl)) hr14
    have z30 : q_ir (q_r f3 mo 15) as := Eq.trans (hF.r hmo (by rw [kmo]; rfl)) hr15
    have z31 : q_ir (q_r f3 mo 16) aw := Eq.trans (hF.r hmo (by rw [kmo]; rfl)) hr16
    have z32 : q_ir (q_r f3 mo 17) pa := Eq.trans (hF.r hmo (by rw [kmo]; rfl)) hr17
    have z33 : q_ir (q_r f3 mo 18) nm := Eq.trans (hF.r hmo (by rw [kmo]; rfl)) hr18
    have z34 : q_ir (q_r f3 mo 19) snm := Eq.trans (hF.r hmo (by rw [kmo]; rfl)) hr19
    have z35 : q_ir (q_r f3 mo 20) anm := Eq.trans (hF.r hmo (by rw [kmo]; rfl)) hr20
    have z36 : q_ir (q_r f3 mo 24) hp := Eq.trans (hF.r hmo (by rw [kmo]; rfl)) hr21
    have z37 : q_ir (q_r f3 mo 25) dy := Eq.trans (hF.r hmo (by rw [kmo]; rfl)) hr22
    have z38 : q_ir (q_r f3 mo 29) cs := Eq.trans (hF.r hmo (by rw [kmo]; rfl)) hr23
    have z39 : q_ir (q_r f3 mo 30) c1 := Eq.trans (hF.r hmo (by rw [kmo]; rfl)) hr24
    have z40 : q_ir (q_r f3 mo 31) c2 := Eq.trans (hF.r hmo (by rw [kmo]; rfl)) hr25
    have z41 : q_ir (q_r f3 mo 32) c3 := Eq.trans (hF.r hmo (by rw [kmo]; rfl)) hr26
    have z42 : q_ir (q_r f3 mo 33) bg := Eq.trans (hF.r hmo (by rw [kmo]; rfl)) hr27
    have z43 : q_ir (q_r f3 mo 34) lp := Eq.trans (hF.r hmo (by rw [kmo]; rfl)) hr28
    have z44 : q_ir (q_r f3 mo 38) rp := Eq.trans (hF.r hmo (by rw [kmo]; rfl)) hr29
    have g45 : q_gr f3 sr := q_gr_fr hgr (fun i9 _ => hF.z hsr (by rw [ksr]; rfl))
    have g46 : q_pk f3 mo pa := q_pk_tr hpk (hF.z hmo (by rw [kmo]; rfl)) (fun i9 => hF.z hpa (by rw [kpa]; rfl))
    have g47 : q_sv f3 mo sd := q_sv_tr hsd9 (hF.z hmo (by rw [kmo]; rfl)) (fun i9 => hF.z hsd (by rw [ksd]; rfl))
    have g48 : tk_bb f3 bu ba tn := tk_bb_tr hbb (fun i9 => hF.z hbu (by rw [kbu]; rfl)) (fun i9 => hF.z hba (by rw [kba]; rfl))
    have g49 : tk_ij K L f3 nds := tk_ij_tr hij (fun i9 => hF.r hnds (by rw [knds]; rfl))
    have g50 : tk_tb f3 ba B tn := tk_tb_tr htb (fun i9 => hF.z hba (by rw [kba]; rfl))
    have g51 : tk_ub f3 bu B tn := tk_ub_tr hub (fun i9 => hF.z hbu (by rw [kbu]; rfl))
    subst qy4
    obtain ⟨A9, hA9, hle9, hj9⟩ := t11
    obtain ⟨nA, enA⟩ : ∃ zz : Int, ((tk_nd A9).length : Int) = zz := ⟨_, rfl⟩
    rw [enA] at hj9
    have lnA : 0 ≤ nA := by omega
    have unA : nA ≤ 10 := by omega
    refine lv_istore (lv' := [(6, .int (q_i 0)), (5, .int (q_i ii)), (4, .ref outD), (3, .ref out), (2, .ref mo), (1, .ref x), (0, .ref b)]) cx.1 cx.2.1 dL_law_329 hl (by decide) rfl (fun ls hl => ?_)
    refine q_ald_n cx dL_law_331 rfl (lv_at hl 4 rfl) ?_
    refine q_cVi (As := []) (rest := []) cx hB (fun q h => hLA q h) hN hmo kmo (by decide) rfl (f_mreadText l g hN hB.2.1 B mo hmo kmo sr hsr ksr as has kas nm hnm knm anm hanm kanm bu hbu kbu pa hpa kpa x1 (by omega) (by omega) x2 (by omega) (by omega) tn (by omega) (by omega) z13 z14 z12 z28 z30 z33 z35 z27 z32 g45 g46 g51) q_cL_131 q_dX12_readText ⟨by decide, by show cells + 1 ≤ 601024; omega, by show slots + 6 ≤ 7293034; omega⟩ rfl rfl hl.1 rfl (Nat.le_of_ble_eq_true rfl) dL_law_332 (fun y53 H locs f52 ry53 h54 hF hB => ?_)
    rcases h54 with h55 | h56
    · obtain ⟨ly53, uy53, lz57, uz57, lz58, uz58, z59, z60, z61, z62, t63, g64, g65⟩ := h55
      have z66 : q_j f52 out 0 = (q_l nA) := (hF.j hout (by rw [kout]; rfl)).trans hj9
      have z67 : q_is (q_z f52 so 1) 0 := Eq.trans (hF.z hso (by rw [kso]; rfl)) z8
      have z68 : q_is (q_z f52 so 2) 0 := Eq.trans (hF.z hso (by rw [kso]; rfl)) z9
      have z69 : q_is (q_z f52 so 3) (-1) := Eq.trans (hF.z hso (by rw [kso]; rfl)) z10
      have z70 : q_ir (q_r f52 x 0) so := Eq.trans (hF.r hx (by rw [kx]; rfl)) z15
      have z71 : q_ir (q_r f52 x 1) rd := Eq.trans (hF.r hx (by rw [kx]; rfl)) z16
      have z72 : q_ir (q_r f52 x 2) scr := Eq.trans (hF.r hx (by rw [kx]; rfl)) z17
      have z73 : q_ir (q_r f52 x 3) fc := Eq.trans (hF.r hx (by rw [kx]; rfl)) z18
      have z74 : q_ir (q_r f52 x 4) hist := Eq.trans (hF.r hx (by rw [kx]; rfl)) z19
      have z75 : q_ir (q_r f52 x 5) rep := Eq.trans (hF.r hx (by rw [kx]; rfl)) z20
      have z76 : q_ir (q_r f52 x 6) now := Eq.trans (hF.r hx (by rw [kx]; rfl)) z21
      have z77 : q_ir (q_r f52 x 7) dr := Eq.trans (hF.r hx (by rw [kx]; rfl)) z22
      have z78 : q_ir (q_r f52 x 8) sv := Eq.trans (hF.r hx (by rw [kx]; rfl)) z23
      have z79 : q_ir (q_r f52 fc 0) tr := Eq.trans (hF.r hfc (by rw [kfc]; rfl)) z24
      have z80 : q_ir (q_r f52 so 0) ba := Eq.trans (hF.r hso (by rw [kso]; rfl)) z25
      have z81 : q_ir (q_r f52 dr 0) nds := Eq.trans (hF.r hdr (by rw [kdr]; rfl)) z26
      have z82 : q_ir (q_r f52 mo 1) bu := Eq.trans (hF.r hmo (by rw [kmo]; rfl)) z27
      have z83 : q_ir (q_r f52 mo 13) sr := Eq.trans (hF.r hmo (by rw [kmo]; rfl)) z28
      have z84 : q_ir (q_r f52 mo 14) sd := Eq.trans (hF.r hmo (by rw [kmo]; rfl)) z29
      have z85 : q_ir (q_r f52 mo 15) as := Eq.trans (hF.r hmo (by rw [kmo]; rfl)) z30
      have z86 : q_ir (q_r f52 mo 16) aw := Eq.trans (hF.r hmo (by rw [kmo]; rfl)) z31
      have z87 : q_ir (q_r f52 mo 17) pa := Eq.trans (hF.r hmo (by rw [kmo]; rfl)) z32
      have z88 : q_ir (q_r f52 mo 18) nm := Eq.trans (hF.r hmo (by rw [kmo]; rfl)) z33
      have z89 : q_ir (q_r f52 mo 19) snm := Eq.trans (hF.r hmo (by rw [kmo]; rfl)) z34
      have z90 : q_ir (q_r f52 mo 20) anm := Eq.trans (hF.r hmo (by rw [kmo]; rfl)) z35
      have z91 : q_ir (q_r f52 mo 24) hp := Eq.trans (hF.r hmo (by rw [kmo]; rfl)) z36
      have z92 : q_ir (q_r f52 mo 25) dy := Eq.trans (hF.r hmo (by rw [kmo]; rfl)) z37
      have z93 : q_ir (q_r f52 mo 29) cs := Eq.trans (hF.r hmo (by rw [kmo]; rfl)) z38
      have z94 : q_ir (q_r f52 mo 30) c1 := Eq.trans (hF.r hmo (by rw [kmo]; rfl)) z39
      have z95 : q_ir (q_r f52 mo 31) c2 := Eq.trans (hF.r hmo (by rw [kmo]; rfl)) z40
      have z96 : q_ir (q_r f52 mo 32) c3 := Eq.trans (hF.r hmo (by rw [kmo]; rfl)) z41
      have z97 : q_ir (q_r f52 mo 33) bg := Eq.trans (hF.r hmo (by rw [kmo]; rfl)) z42
      have z98 : q_ir (q_r f52 mo 34) lp := Eq.trans (hF.r hmo (by rw [kmo]; rfl)) z43
      have z99 : q_ir (q_r f52 mo 38) rp := Eq.trans (hF.r hmo (by rw [kmo]; rfl)) z44
      have g100 : q_sv f52 mo sd := q_sv_tr g47 (hF.z hmo (by rw [kmo]; rfl)) (fun i9 => hF.z hsd (by rw [ksd]; rfl))
      have g101 : tk_bb f52 bu ba tn := tk_bb_tr g48 (fun i9 => hF.z hbu (by rw [kbu]; rfl)) (fun i9 => hF.z hba (by rw [kba]; rfl))
      have g102 : tk_ij K L f52 nds := tk_ij_tr g49 (fun i9 => hF.r hnds (by rw [knds]; rfl))
      have g103 : tk_tb f52 ba B tn := tk_tb_tr g50 (fun i9 => hF.z hba (by rw [kba]; rfl))
      have g104 : tk_ub f52 bu B tn := tk_ub_tr g51 (fun i9 => hF.z hbu (by rw [kbu]; rfl))
      obtain ⟨x105, ex105⟩ : ∃ zz, q_is (q_z f52 sr 3) zz := ⟨_, q_isr _⟩
      obtain ⟨lx105, ux105⟩ := q_isb ex105 ⟨lz57, uz57⟩
      obtain ⟨x106, ex106⟩ : ∃ zz, q_is (q_z f52 sr 4) zz := ⟨_, q_isr _⟩
      obtain ⟨lx106, ux106⟩ := q_isb ex106 ⟨lz58, uz58⟩
      obtain ⟨A8, hA8, hz8⟩ := t63
      have hz9 : y53 = nA := by rw [hz8, ← enA, tk_inj (hA8.symm.trans hA9)]
      refine lv_istore (lv' := [(7, .int (q_i y53)), (6, .int (q_i 0)), (5, .int (q_i ii)), (4, .ref outD), (3, .ref out), (2, .ref mo), (1, .ref x), (0, .ref b)]) cx.1 cx.2.1 dL_law_335 hl (by decide) rfl (fun ls hl => ?_)
      refine q_ald_n cx dL_law_337 rfl (lv_at hl 5 rfl) ?_
      refine q_cVi (As := []) (rest := []) cx hB (fun q h => hLA q h) hN hmo kmo (by decide) rfl (r_thrown l g hN hB.2.1 mo hmo kmo 0 (by decide) (by decide) z60) q_cL_132 q_dX12_thrown ⟨by decide, by show cells + 1 ≤ 601024; omega, by show slots + 6 ≤ 7293034; omega⟩ rfl rfl hl.1 rfl (Nat.le_of_ble_eq_true rfl) dL_law_338 (fun y108 H locs f107 ry108 h109 hF hB => ?_)
      obtain ⟨rfl, qy108⟩ := h109
      subst qy108
      refine lv_iload cx.1 cx.2.1 dL_law_341 (lv_at hl 1 rfl) ?_
      refine q_iceq (tgt := 348) cx ⟨by decide, by decide⟩ ⟨by decide, by decide⟩ dL_law_343 (by decide) (fun c110 => ?_) (fun c110 => ?_)
      · refine lv_iload cx.1 cx.2.1 dL_law_348 (lv_at hl 1 rfl) ?_
        refine q_ifne (tgt := 365) cx ⟨by decide, by decide⟩ dL_law_350 (by decide) (fun c111 => ?_) (fun c111 => ?_)
        · exact absurd c111 (by omega)
        · refine q_ald_n cx dL_law_353 rfl (lv_at hl 4 rfl) ?_
          refine q_iconst cx dL_law_354 ?_
          refine q_lald (n := 1) cx hB hout kout (by decide) rfl rfl (by decide) (by decide) (by decide) rfl z66 dL_law_355 ?_
          refine lv_iload cx.1 cx.2.1 dL_law_356 (lv_at hl 0 rfl) ?_
          refine q_i2l cx ⟨by omega, by omega⟩ dL_law_358 ?_
          refine q_lcmp cx dL_law_359 (fun y112 ly112 uy112 ey112 gy112 hy112 => ?_)
          rw [q_lInt ⟨by omega, by omega⟩, q_lInt ⟨by omega, by omega⟩] at ey112 hy112
          refine q_ifeq (tgt := 365) cx ⟨by omega, by omega⟩ dL_law_360 (by decide) (fun c113 => ?_) (fun c113 => ?_)
          · refine lv_goto (tgt := 1521) cx.1 cx.2.1 dL_law_365 (by decide) ?_
            refine W.widen (k := cells + 6) (n := slots + 36) (by omega) (by omega) ?_
            exact kk f52 H locs ls 0 hB ⟨⟨z67, (Eq.trans z59 (by omega)), by omega, by omega⟩, g64, g65, g100, q_isu ex105 (by omega), q_isu ex106 (by omega), tk_bb_le g101 (by omega)⟩ (lv_sub hl [2, 3, 4, 5, 6, 7] rfl)
          · exact absurd c113 (by omega)
      · exact absurd c110 (by omega)
    · obtain ⟨qy53, lz114, uz114, lz115, uz115, z116, z117, t118, g119, g120⟩ := h56
      have z121 : q_j f52 out 0 = (q_l nA) := (hF.j hout (by rw [kout]; rfl)).trans hj9
      have z122 : q_is (q_z f52 so 1) 0 := Eq.trans (hF.z hso (by rw [kso]; rfl)) z8
      have z123 : q_is (q_z f52 so 2) 0 := Eq.trans (hF.z hso (by rw [kso]; rfl)) z9
      have z124 : q_is (q_z f52 so 3) (-1) := Eq.trans (hF.z hso (by rw [kso]; rfl)) z10
      have z125 : q_ir (q_r f52 x 0) so := Eq.trans (hF.r hx (by rw [kx]; rfl)) z15
      have z126 : q_ir (q_r f52 x 1) rd := Eq.trans (hF.r hx (by rw [kx]; rfl)) z16
      have z127 : q_ir (q_r f52 x 2) scr := Eq.trans (hF.r hx (by rw [kx]; rfl)) z17
      have z128 : q_ir (q_r f52 x 3) fc := Eq.trans (hF.r hx (by rw [kx]; rfl)) z18
      have z129 : q_ir (q_r f52 x 4) hist := Eq.trans (hF.r hx (by rw [kx]; rfl)) z19
      have z130 : q_ir (q_r f52 x 5) rep := Eq.trans (hF.r hx (by rw [kx]; rfl)) z20
      have z131 : q_ir (q_r f52 x 6) now := Eq.trans (hF.r hx (by rw [kx]; rfl)) z21
      have z132 : q_ir (q_r f52 x 7) dr := Eq.trans (hF.r hx (by rw [kx]; rfl)) z22
      have z133 : q_ir (q_r f52 x 8) sv := Eq.trans (hF.r hx (by rw [kx]; rfl)) z23
      have z134 : q_ir (q_r f52 fc 0) tr := Eq.trans (hF.r hfc (by rw [kfc]; rfl)) z24
      have z135 : q_ir (q_r f52 so 0) ba := Eq.trans (hF.r hso (by rw [kso]; rfl)) z25
      have z136 : q_ir (q_r f52 dr 0) nds := Eq.trans (hF.r hdr (by rw [kdr]; rfl)) z26
      have z137 : q_ir (q_r f52 mo 1) bu := Eq.trans (hF.r hmo (by rw [kmo]; rfl)) z27
      have z138 : q_ir (q_r f52 mo 13) sr := Eq.trans (hF.r hmo (by rw [kmo]; rfl)) z28
      have z139 : q_ir (q_r f52 mo 14) sd := Eq.trans (hF.r hmo (by rw [kmo]; rfl)) z29
      have z140 : q_ir (q_r f52 mo 15) as := Eq.trans (hF.r hmo (by rw [kmo]; rfl)) z30
      have z141 : q_ir (q_r f52 mo 16) aw := Eq.trans (hF.r hmo (by rw [kmo]; rfl)) z31
      have z142 : q_ir (q_r f52 mo 17) pa := Eq.trans (hF.r hmo (by rw [kmo]; rfl)) z32
      have z143 : q_ir (q_r f52 mo 18) nm := Eq.trans (hF.r hmo (by rw [kmo]; rfl)) z33
      have z144 : q_ir (q_r f52 mo 19) snm := Eq.trans (hF.r hmo (by rw [kmo]; rfl)) z34
      have z145 : q_ir (q_r f52 mo 20) anm := Eq.trans (hF.r hmo (by rw [kmo]; rfl)) z35
      have z146 : q_ir (q_r f52 mo 24) hp := Eq.trans (hF.r hmo (by rw [kmo]; rfl)) z36
      have z147 : q_ir (q_r f52 mo 25) dy := Eq.trans (hF.r hmo (by rw [kmo]; rfl)) z37
      have z148 : q_ir (q_r f52 mo 29) cs := Eq.trans (hF.r hmo (by rw [kmo]; rfl)) z38
      have z149 : q_ir (q_r f52 mo 30) c1 := Eq.trans (hF.r hmo (by rw [kmo]; rfl)) z39
      have z150 : q_ir (q_r f52 mo 31) c2 := Eq.trans (hF.r hmo (by rw [kmo]; rfl)) z40
      have z151 : q_ir (q_r f52 mo 32) c3 := Eq.trans (hF.r hmo (by rw [kmo]; rfl)) z41
      have z152 : q_ir (q_r f52 mo 33) bg := Eq.trans (hF.r hmo (by rw [kmo]; rfl)) z42
      have z153 : q_ir (q_r f52 mo 34) lp := Eq.trans (hF.r hmo (by rw [kmo]; rfl)) z43
      have z154 : q_ir (q_r f52 mo 38) rp := Eq.trans (hF.r hmo (by rw [kmo]; rfl)) z44
      have g155 : q_sv f52 mo sd := q_sv_tr g47 (hF.z hmo (by rw [kmo]; rfl)) (fun i9 => hF.z hsd (by rw [ksd]; rfl))
      have g156 : tk_bb f52 bu ba tn := tk_bb_tr g48 (fun i9 => hF.z hbu (by rw [kbu]; rfl)) (fun i9 => hF.z hba (by rw [kba]; rfl))
      have g157 : tk_ij K L f52 nds := tk_ij_tr g49 (fun i9 => hF.r hnds (by rw [knds]; rfl))
      have g158 : tk_tb f52 ba B tn := tk_tb_tr g50 (fun i9 => hF.z hba (by rw [kba]; rfl))
      have g159 : tk_ub f52 bu B tn := tk_ub_tr g51 (fun i9 => hF.z hbu (by rw [kbu]; rfl))
      obtain ⟨x160, ex160⟩ : ∃ zz, q_is (q_z f52 sr 3) zz := ⟨_, q_isr _⟩
      obtain ⟨lx160, ux160⟩ := q_isb ex160 ⟨lz114, uz114⟩
      obtain ⟨x161, ex161⟩ : ∃ zz, q_is (q_z f52 sr 4) zz := ⟨_, q_isr _⟩
      obtain ⟨lx161, ux161⟩ := q_isb ex161 ⟨lz115, uz115⟩
      subst qy53
      exact tk_no (t118.symm.trans hA9)
  · obtain ⟨qy4, z162, t163⟩ := h7
    have z164 : q_is (q_z f3 mo 2) tn := Eq.trans (hF.z hmo (by rw [kmo]; rfl)) hn1
    have z165 : q_is (q_z f3 sr 3) x1 := Eq.trans (hF.z hsr (by rw [ksr]; rfl)) ex1
    have z166 : q_is (q_z f3 sr 4) x2 := Eq.trans (hF.z hsr (by rw [ksr]; rfl)) ex2
    have z167 : q_ir (q_r f3 x 0) so := Eq.trans (hF.r hx (by rw [kx]; rfl)) hr0
    have z168 : q_ir (q_r f3 x 1) rd := Eq.trans (hF.r hx (by rw [kx]; rfl)) hr1
    have z169 : q_ir (q_r f3 x 2) scr := Eq.trans (hF.r hx (by rw [kx]; rfl)) hr2
    have z170 : q_ir (q_r f3 x 3) fc := Eq.trans (hF.r hx (by rw [kx]; rfl)) hr3
    have z171 : q_ir (q_r f3 x 4) hist := Eq.trans (hF.r hx (by rw [kx]; rfl)) hr4
    have z172 : q_ir (q_r f3 x 5) rep := Eq.trans (hF.r hx (by rw [kx]; rfl)) hr5
    have z173 : q_ir (q_r f3 x 6) now := Eq.trans (hF.r hx (by rw [kx]; rfl)) hr6
    have z174 : q_ir (q_r f3 x 7) dr := Eq.trans (hF.r hx (by rw [kx]; rfl)) hr7
    have z175 : q_ir (q_r f3 x 8) sv := Eq.trans (hF.r hx (by rw [kx]; rfl)) hr8
    have z176 : q_ir (q_r f3 fc 0) tr := Eq.trans (hF.r hfc (by rw [kfc]; rfl)) hr9
    have z177 : q_ir (q_r f3 so 0) ba := Eq.trans (hF.r hso (by rw [kso]; rfl)) hr10
    have z178 : q_ir (q_r f3 dr 0) nds := Eq.trans (hF.r hdr (by rw [kdr]; rfl)) hr11
    have z179 : q_ir (q_r f3 mo 1) bu := Eq.trans (hF.r hmo (by rw [kmo]; rfl)) hr12
    have z180 : q_ir (q_r f3 mo 13) sr := Eq.trans (hF.r hmo (by rw [kmo]; rfl)) hr13
    have z181 : q_ir (q_r f3 mo 14) sd := Eq.trans (hF.r hmo (by rw [kmo]; rfl)) hr14
    have z182 : q_ir (q_r f3 mo 15) as := Eq.trans (hF.r hmo (by rw [kmo]; rfl)) hr15
    have z183 : q_ir (q_r f3 mo 16) aw := Eq.trans (hF.r hmo (by rw [kmo]; rfl)) hr16
    have z184 : q_ir (q_r f3 mo 17) pa := Eq.trans (hF.r hmo (by rw [kmo]; rfl)) hr17
    have z185 : q_ir (q_r f3 mo 18) nm := Eq.trans (hF.r hmo (by rw [kmo]; rfl)) hr18
    have z186 : q_ir (q_r f3 mo 19) snm := Eq.trans (hF.r hmo (by rw [kmo]; rfl)) hr19
    have z187 : q_ir (q_r f3 mo 20) anm := Eq.trans (hF.r hmo (by rw [kmo]; rfl)) hr20
    have z188 : q_ir (q_r f3 mo 24) hp := Eq.trans (hF.r hmo (by rw [kmo]; rfl)) hr21
    have z189 : q_ir (q_r f3 mo 25) dy := Eq.trans (hF.r hmo (by rw [kmo]; rfl)) hr22
    have z190 : q_ir (q_r f3 mo 29) cs := Eq.trans (hF.r hmo (by rw [kmo]; rfl)) hr23
    have z191 : q_ir (q_r f3 mo 30) c1 := Eq.trans (hF.r hmo (by rw [kmo]; rfl)) hr24
    have z192 : q_ir (q_r f3 mo 31) c2 := Eq.trans (hF.r hmo (by rw [kmo]; rfl)) hr25
    have z193 : q_ir (q_r f3 mo 32) c3 := Eq.trans (hF.r hmo (by rw [kmo]; rfl)) hr26
    have z194 : q_ir (q_r f3 mo 33) bg := Eq.trans (hF.r hmo (by rw [kmo]; rfl)) hr27
    have z195 : q_ir (q_r f3 mo 34) lp := Eq.trans (hF.r hmo (by rw [kmo]; rfl)) hr28
    have z196 : q_ir (q_r f3 mo 38) rp := Eq.trans (hF.r hmo (by rw [kmo]; rfl)) hr29
    have g197 : q_gr f3 sr := q_gr_fr hgr (fun i9 _ => hF.z hsr (by rw [ksr]; rfl))
    have g198 : q_pk f3 mo pa := q_pk_tr hpk (hF.z hmo (by rw [kmo]; rfl)) (fun i9 => hF.z hpa (by rw [kpa]; rfl))
    have g199 : q_sv f3 mo sd := q_sv_tr hsd9 (hF.z hmo (by rw [kmo]; rfl)) (fun i9 => hF.z hsd (by rw [ksd]; rfl))
    have g200 : tk_bb f3 bu ba tn := tk_bb_tr hbb (fun i9 => hF.z hbu (by rw [kbu]; rfl)) (fun i9 => hF.z hba (by rw [kba]; rfl))
    have g201 : tk_ij K L f3 nds := tk_ij_tr hij (fun i9 => hF.r hnds (by rw [knds]; rfl))
    have g202 : tk_tb f3 ba B tn := tk_tb_tr htb (fun i9 => hF.z hba (by rw [kba]; rfl))
    have g203 : tk_ub f3 bu B tn := tk_ub_tr hub (fun i9 => hF.z hbu (by rw [kbu]; rfl))
    subst qy4
    refine lv_istore (lv' := [(6, .int (q_i 1)), (5, .int (q_i ii)), (4, .ref outD), (3, .ref out), (2, .ref mo), (1, .ref x), (0, .ref b)]) cx.1 cx.2.1 dL_law_329 hl (by decide) rfl (fun ls hl => ?_)
    refine q_ald_n cx dL_law_331 rfl (lv_at hl 4 rfl) ?_
    refine q_cVi (As := []) (rest := []) cx hB (fun q h => hLA q h) hN hmo kmo (by decide) rfl (f_mreadText l g hN hB.2.1 B mo hmo kmo sr hsr ksr as has kas nm hnm knm anm hanm kanm bu hbu kbu pa hpa kpa x1 (by omega) (by omega) x2 (by omega) (by omega) tn (by omega) (by omega) z165 z166 z164 z180 z182 z185 z187 z179 z184 g197 g198 g203) q_cL_131 q_dX12_readText ⟨by decide, by show cells + 1 ≤ 601024; omega, by show slots + 6 ≤ 7293034; omega⟩ rfl rfl hl.1 rfl (Nat.le_of_ble_eq_true rfl) dL_law_332 (fun y205 H locs f204 ry205 h206 hF hB => ?_)
    rcases h206 with h207 | h208
    · obtain ⟨ly205, uy205, lz209, uz209, lz210, uz210, z211, z212, z213, z214, t215, g216, g217⟩ := h207
      have z218 : q_is (q_z f204 so 1) 0 := Eq.trans (hF.z hso (by rw [kso]; rfl)) z162
      have z219 : q_ir (q_r f204 x 0) so := Eq.trans (hF.r hx (by rw [kx]; rfl)) z167
      have z220 : q_ir (q_r f204 x 1) rd := Eq.trans (hF.r hx (by rw [kx]; rfl)) z168
      have z221 : q_ir (q_r f204 x 2) scr := Eq.trans (hF.r hx (by rw [kx]; rfl)) z169
      have z222 : q_ir (q_r f204 x 3) fc := Eq.trans (hF.r hx (by rw [kx]; rfl)) z170
      have z223 : q_ir (q_r f204 x 4) hist := Eq.trans (hF.r hx (by rw [kx]; rfl)) z171
      have z224 : q_ir (q_r f204 x 5) rep := Eq.trans (hF.r hx (by rw [kx]; rfl)) z172
      have z225 : q_ir (q_r f204 x 6) now := Eq.trans (hF.r hx (by rw [kx]; rfl)) z173
      have z226 : q_ir (q_r f204 x 7) dr := Eq.trans (hF.r hx (by rw [kx]; rfl)) z174
      have z227 : q_ir (q_r f204 x 8) sv := Eq.trans (hF.r hx (by rw [kx]; rfl)) z175
      have z228 : q_ir (q_r f204 fc 0) tr := Eq.trans (hF.r hfc (by rw [kfc]; rfl)) z176
      have z229 : q_ir (q_r f204 so 0) ba := Eq.trans (hF.r hso (by rw [kso]; rfl)) z177
      have z230 : q_ir (q_r f204 dr 0) nds := Eq.trans (hF.r hdr (by rw [kdr]; rfl)) z178
      have z231 : q_ir (q_r f204 mo 1) bu := Eq.trans (hF.r hmo (by rw [kmo]; rfl)) z179
      have z232 : q_ir (q_r f204 mo 13) sr := Eq.trans (hF.r hmo (by rw [kmo]; rfl)) z180
      have z233 : q_ir (q_r f204 mo 14) sd := Eq.trans (hF.r hmo (by rw [kmo]; rfl)) z181
      have z234 : q_ir (q_r f204 mo 15) as := Eq.trans (hF.r hmo (by rw [kmo]; rfl)) z182
      have z235 : q_ir (q_r f204 mo 16) aw := Eq.trans (hF.r hmo (by rw [kmo]; rfl)) z183
      have z236 : q_ir (q_r f204 mo 17) pa := Eq.trans (hF.r hmo (by rw [kmo]; rfl)) z184
      have z237 : q_ir (q_r f204 mo 18) nm := Eq.trans (hF.r hmo (by rw [kmo]; rfl)) z185
      have z238 : q_ir (q_r f204 mo 19) snm := Eq.trans (hF.r hmo (by rw [kmo]; rfl)) z186
      have z239 : q_ir (q_r f204 mo 20) anm := Eq.trans (hF.r hmo (by rw [kmo]; rfl)) z187
      have z240 : q_ir (q_r f204 mo 24) hp := Eq.trans (hF.r hmo (by rw [kmo]; rfl)) z188
      have z241 : q_ir (q_r f204 mo 25) dy := Eq.trans (hF.r hmo (by rw [kmo]; rfl)) z189
      have z242 : q_ir (q_r f204 mo 29) cs := Eq.trans (hF.r hmo (by rw [kmo]; rfl)) z190
      have z243 : q_ir (q_r f204 mo 30) c1 := Eq.trans (hF.r hmo (by rw [kmo]; rfl)) z191
      have z244 : q_ir (q_r f204 mo 31) c2 := Eq.trans (hF.r hmo (by rw [kmo]; rfl)) z192
      have z245 : q_ir (q_r f204 mo 32) c3 := Eq.trans (hF.r hmo (by rw [kmo]; rfl)) z193
      have z246 : q_ir (q_r f204 mo 33) bg := Eq.trans (hF.r hmo (by rw [kmo]; rfl)) z194
      have z247 : q_ir (q_r f204 mo 34) lp := Eq.trans (hF.r hmo (by rw [kmo]; rfl)) z195
      have z248 : q_ir (q_r f204 mo 38) rp := Eq.trans (hF.r hmo (by rw [kmo]; rfl)) z196
      have g249 : q_sv f204 mo sd := q_sv_tr g199 (hF.z hmo (by rw [kmo]; rfl)) (fun i9 => hF.z hsd (by rw [ksd]; rfl))
      have g250 : tk_bb f204 bu ba tn := tk_bb_tr g200 (fun i9 => hF.z hbu (by rw [kbu]; rfl)) (fun i9 => hF.z hba (by rw [kba]; rfl))
      have g251 : tk_ij K L f204 nds := tk_ij_tr g201 (fun i9 => hF.r hnds (by rw [knds]; rfl))
      have g252 : tk_tb f204 ba B tn := tk_tb_tr g202 (fun i9 => hF.z hba (by rw [kba]; rfl))
      have g253 : tk_ub f204 bu B tn := tk_ub_tr g203 (fun i9 => hF.z hbu (by rw [kbu]; rfl))
      obtain ⟨x254, ex254⟩ : ∃ zz, q_is (q_z f204 sr 3) zz := ⟨_, q_isr _⟩
      obtain ⟨lx254, ux254⟩ := q_isb ex254 ⟨lz209, uz209⟩
      obtain ⟨x255, ex255⟩ : ∃ zz, q_is (q_z f204 sr 4) zz := ⟨_, q_isr _⟩
      obtain ⟨lx255, ux255⟩ := q_isb ex255 ⟨lz210, uz210⟩
      obtain ⟨A8, hA8, hz8⟩ := t215
      exact tk_no (t163.symm.trans hA8)
    · obtain ⟨qy205, lz256, uz256, lz257, uz257, z258, z259, t260, g261, g262⟩ := h208
      have z263 : q_is (q_z f204 so 1) 0 := Eq.trans (hF.z hso (by rw [kso]; rfl)) z162
      have z264 : q_ir (q_r f204 x 0) so := Eq.trans (hF.r hx (by rw [kx]; rfl)) z167
      have z265 : q_ir (q_r f204 x 1) rd := Eq.trans (hF.r hx (by rw [kx]; rfl)) z168
      have z266 : q_ir (q_r f204 x 2) scr := Eq.trans (hF.r hx (by rw [kx]; rfl)) z169
      have z267 : q_ir (q_r f204 x 3) fc := Eq.trans (hF.r hx (by rw [kx]; rfl)) z170
      have z268 : q_ir (q_r f204 x 4) hist := Eq.trans (hF.r hx (by rw [kx]; rfl)) z171
      have z269 : q_ir (q_r f204 x 5) rep := Eq.trans (hF.r hx (by rw [kx]; rfl)) z172
      have z270 : q_ir (q_r f204 x 6) now := Eq.trans (hF.r hx (by rw [kx]; rfl)) z173
      have z271 : q_ir (q_r f204 x 7) dr := Eq.trans (hF.r hx (by rw [kx]; rfl)) z174
      have z272 : q_ir (q_r f204 x 8) sv := Eq.trans (hF.r hx (by rw [kx]; rfl)) z175
      have z273 : q_ir (q_r f204 fc 0) tr := Eq.trans (hF.r hfc (by rw [kfc]; rfl)) z176
      have z274 : q_ir (q_r f204 so 0) ba := Eq.trans (hF.r hso (by rw [kso]; rfl)) z177
      have z275 : q_ir (q_r f204 dr 0) nds := Eq.trans (hF.r hdr (by rw [kdr]; rfl)) z178
      have z276 : q_ir (q_r f204 mo 1) bu := Eq.trans (hF.r hmo (by rw [kmo]; rfl)) z179
      have z277 : q_ir (q_r f204 mo 13) sr := Eq.trans (hF.r hmo (by rw [kmo]; rfl)) z180
      have z278 : q_ir (q_r f204 mo 14) sd := Eq.trans (hF.r hmo (by rw [kmo]; rfl)) z181
      have z279 : q_ir (q_r f204 mo 15) as := Eq.trans (hF.r hmo (by rw [kmo]; rfl)) z182
      have z280 : q_ir (q_r f204 mo 16) aw := Eq.trans (hF.r hmo (by rw [kmo]; rfl)) z183
      have z281 : q_ir (q_r f204 mo 17) pa := Eq.trans (hF.r hmo (by rw [kmo]; rfl)) z184
      have z282 : q_ir (q_r f204 mo 18) nm := Eq.trans (hF.r hmo (by rw [kmo]; rfl)) z185
      have z283 : q_ir (q_r f204 mo 19) snm := Eq.trans (hF.r hmo (by rw [kmo]; rfl)) z186
      have z284 : q_ir (q_r f204 mo 20) anm := Eq.trans (hF.r hmo (by rw [kmo]; rfl)) z187
      have z285 : q_ir (q_r f204 mo 24) hp := Eq.trans (hF.r hmo (by rw [kmo]; rfl)) z188
      have z286 : q_ir (q_r f204 mo 25) dy := Eq.trans (hF.r hmo (by rw [kmo]; rfl)) z189
      have z287 : q_ir (q_r f204 mo 29) cs := Eq.trans (hF.r hmo (by rw [kmo]; rfl)) z190
      have z288 : q_ir (q_r f204 mo 30) c1 := Eq.trans (hF.r hmo (by rw [kmo]; rfl)) z191
      have z289 : q_ir (q_r f204 mo 31) c2 := Eq.trans (hF.r hmo (by rw [kmo]; rfl)) z192
      have z290 : q_ir (q_r f204 mo 32) c3 := Eq.trans (hF.r hmo (by rw [kmo]; rfl)) z193
      have z291 : q_ir (q_r f204 mo 33) bg := Eq.trans (hF.r hmo (by rw [kmo]; rfl)) z194
      have z292 : q_ir (q_r f204 mo 34) lp := Eq.trans (hF.r hmo (by rw [kmo]; rfl)) z195
      have z293 : q_ir (q_r f204 mo 38) rp := Eq.trans (hF.r hmo (by rw [kmo]; rfl)) z196
      have g294 : q_sv f204 mo sd := q_sv_tr g199 (hF.z hmo (by rw [kmo]; rfl)) (fun i9 => hF.z hsd (by rw [ksd]; rfl))
      have g295 : tk_bb f204 bu ba tn := tk_bb_tr g200 (fun i9 => hF.z hbu (by rw [kbu]; rfl)) (fun i9 => hF.z hba (by rw [kba]; rfl))
      have g296 : tk_ij K L f204 nds := tk_ij_tr g201 (fun i9 => hF.r hnds (by rw [knds]; rfl))
      have g297 : tk_tb f204 ba B tn := tk_tb_tr g202 (fun i9 => hF.z hba (by rw [kba]; rfl))
      have g298 : tk_ub f204 bu B tn := tk_ub_tr g203 (fun i9 => hF.z hbu (by rw [kbu]; rfl))
      obtain ⟨x299, ex299⟩ : ∃ zz, q_is (q_z f204 sr 3) zz := ⟨_, q_isr _⟩
      obtain ⟨lx299, ux299⟩ := q_isb ex299 ⟨lz256, uz256⟩
      obtain ⟨x300, ex300⟩ : ∃ zz, q_is (q_z f204 sr 4) zz := ⟨_, q_isr _⟩
      obtain ⟨lx300, ux300⟩ := q_isb ex300 ⟨lz257, uz257⟩
      subst qy205
      refine lv_istore (lv' := [(7, .int (q_i 0)), (6, .int (q_i 1)), (5, .int (q_i ii)), (4, .ref outD), (3, .ref out), (2, .ref mo), (1, .ref x), (0, .ref b)]) cx.1 cx.2.1 dL_law_335 hl (by decide) rfl (fun ls hl => ?_)
      refine q_ald_n cx dL_law_337 rfl (lv_at hl 5 rfl) ?_
      refine q_cVi (As := []) (rest := []) cx hB (fun q h => hLA q h) hN hmo kmo (by decide) rfl (r_thrown l g hN hB.2.1 mo hmo kmo 1 (by decide) (by decide) z259) q_cL_132 q_dX12_thrown ⟨by decide, by show cells + 1 ≤ 601024; omega, by show slots + 6 ≤ 7293034; omega⟩ rfl rfl hl.1 rfl (Nat.le_of_ble_eq_true rfl) dL_law_338 (fun y302 H locs f301 ry302 h303 hF hB => ?_)
      obtain ⟨rfl, qy302⟩ := h303
      subst qy302
      refine lv_iload cx.1 cx.2.1 dL_law_341 (lv_at hl 1 rfl) ?_
      refine q_iceq (tgt := 348) cx ⟨by decide, by decide⟩ ⟨by decide, by decide⟩ dL_law_343 (by decide) (fun c304 => ?_) (fun c304 => ?_)
      · refine lv_iload cx.1 cx.2.1 dL_law_348 (lv_at hl 1 rfl) ?_
        refine q_ifne (tgt := 365) cx ⟨by decide, by decide⟩ dL_law_350 (by decide) (fun c305 => ?_) (fun c305 => ?_)
        · refine lv_goto (tgt := 1521) cx.1 cx.2.1 dL_law_365 (by decide) ?_
          refine W.widen (k := cells + 6) (n := slots + 36) (by omega) (by omega) ?_
          exact kk f204 H locs ls 0 hB ⟨⟨z263, (Eq.trans z258 (by omega)), by omega, by omega⟩, g261, g262, g294, q_isu ex299 (by omega), q_isu ex300 (by omega), tk_bb_le g295 (by omega)⟩ (lv_sub hl [2, 3, 4, 5, 6, 7] rfl)
        · exact absurd c305 (by omega)
      · exact absurd c304 (by omega)
set_option maxHeartbeats 4000000 in
set_option maxRecDepth 100000 in
theorem law_c368 {p : Program} {l : Launch} {e : Env} {s : State} {m : MethodId} {below : List Frame} {meth : Method} {c : Code} {b N9 : Nat} {xs : Nat → Int32} (hfl : l.stackTraces = false) (hN9 : N9 ≤ 3072) (C0 : lw_At p s m meth c b N9 xs) (cx : CallFix p m c cL_law 10 s #[Value.ref b] q_al RL) {g : q_G} {ad : Nat → Nat} {K : Nat → Nat} {L : List Nat} (hN : L.Nodup) (hLA : ∀ q, q ∈ L → s.heap.size ≤ q) (hX : q_X ad (fun q => q ∈ L) s) {f0 : Nat → va_E} {x : Nat} (hx : x ∈ L) (kx : K x = 11) {so : Nat} (hso : so ∈ L) (kso : K so = 8) {rd : Nat} (hrd : rd ∈ L) (krd : K rd = 9) {scr : Nat} (hscr : scr ∈ L) (kscr : K scr = 7) {fc : Nat} (hfc : fc ∈ L) (kfc : K fc = 1) {hist : Nat} (hhist : hist ∈ L) (khist : K hist = 2) {rep : Nat} (hrep : rep ∈ L) (krep : K rep = 6) {now : Nat} (hnow : now ∈ L) (know : K now = 10) {dr : Nat} (hdr : dr ∈ L) (kdr : K dr = 13) {sv : Nat} (hsv : sv ∈ L) (ksv : K sv = 14) {tr : Nat} (htr : tr ∈ L) (ktr : K tr = 15) {ba : Nat} (hba : ba ∈ L) (kba : K ba = 142) {nds : Nat} (hnds : nds ∈ L) (knds : K nds = 111) {mo : Nat} (hmo : mo ∈ L) (kmo : K mo = 12) {bu : Nat} (hbu : bu ∈ L) (kbu : K bu = 150) {sr : Nat} (hsr : sr ∈ L) (ksr : K sr = 151) {sd : Nat} (hsd : sd ∈ L) (ksd : K sd = 152) {as : Nat} (has : as ∈ L) (kas : K as = 153) {aw : Nat} (haw : aw ∈ L) (kaw : K aw = 154) {pa : Nat} (hpa : pa ∈ L) (kpa : K pa = 155) {nm : Nat} (hnm : nm ∈ L) (knm : K nm = 156) {snm : Nat} (hsnm : snm ∈ L) (ksnm : K snm = 157) {anm : Nat} (hanm : anm ∈ L) (kanm : K anm = 158) {hp : Nat} (hhp : hp ∈ L) (khp : K hp = 159) {dy : Nat} (hdy : dy ∈ L) (kdy : K dy = 160) {cs : Nat} (hcs : cs ∈ L) (kcs : K cs = 161) {c1 : Nat} (hc1 : c1 ∈ L) (kc1 : K c1 = 162) {c2 : Nat} (hc2 : c2 ∈ L) (kc2 : K c2 = 163) {c3 : Nat} (hc3 : c3 ∈ L) (kc3 : K c3 = 164) {bg : Nat} (hbg : bg ∈ L) (kbg : K bg = 165) {lp : Nat} (hlp : lp ∈ L) (klp : K lp = 166) {rp : Nat} (hrp : rp ∈ L) (krp : K rp = 167) {out : Nat} (hout : out ∈ L) (kout : K out = 168) {outD : Nat} (houtD : outD ∈ L) (koutD : K outD = 169) (hr0 : q_ir (q_r f0 x 0) so) (hr1 : q_ir (q_r f0 x 1) rd) (hr2 : q_ir (q_r f0 x 2) scr) (hr3 : q_ir (q_r f0 x 3) fc) (hr4 : q_ir (q_r f0 x 4) hist) (hr5 : q_ir (q_r f0 x 5) rep) (hr6 : q_ir (q_r f0 x 6) now) (hr7 : q_ir (q_r f0 x 7) dr) (hr8 : q_ir (q_r f0 x 8) sv) (hr9 : q_ir (q_r f0 fc 0) tr) (hr10 : q_ir (q_r f0 so 0) ba) (hr11 : q_ir (q_r f0 dr 0) nds) (hr12 : q_ir (q_r f0 mo 1) bu) (hr13 : q_ir (q_r f0 mo 13) sr) (hr14 : q_ir (q_r f0 mo 14) sd) (hr15 : q_ir (q_r f0 mo 15) as) (hr16 : q_ir (q_r f0 mo 16) aw) (hr17 : q_ir (q_r f0 mo 17) pa) (hr18 : q_ir (q_r f0 mo 18) nm) (hr19 : q_ir (q_r f0 mo 19) snm) (hr20 : q_ir (q_r f0 mo 20) anm) (hr21 : q_ir (q_r f0 mo 24) hp) (hr22 : q_ir (q_r f0 mo 25) dy) (hr23 : q_ir (q_r f0 mo 29) cs) (hr24 : q_ir (q_r f0 mo 30) c1) (hr25 : q_ir (q_r f0 mo 31) c2) (hr26 : q_ir (q_r f0 mo 32) c3) (hr27 : q_ir (q_r f0 mo 33) bg) (hr28 : q_ir (q_r f0 mo 34) lp) (hr29 : q_ir (q_r f0 mo 38) rp) (hij : tk_ij K L f0 nds) {f : Nat → va_E} {H : Heap} {locs : List Loc} {ls : Array Slot} {cells slots : Nat} {ii tn : Int} (hB : q_B g K L (fun q => s.heap.size ≤ q) [(0, 0, 6), (2, 1, 2), (3, 0, 4), (4, 0, 7), (5, 0, 9), (6, 1, 1), (7, 1, 4), (8, 1, 9), (9, 0, 2), (10, 3, 15), (11, 9, 9), (12, 0, 0), (12, 2, 12), (12, 21, 23), (12, 26, 28), (12, 35, 37), (12, 39, 40), (13, 3, 15), (14, 3, 15), (15, 3, 15), (16, 3, 15), (17, 0, 9), (18, 0, 9), (19, 0, 9), (20, 0, 9), (21, 0, 4), (22, 0, 4), (23, 0, 4), (24, 0, 4), (25, 0, 7), (26, 0, 7), (27, 0, 7), (28, 0, 7), (142, 0, 599), (143, 0, 599), (150, 0, 599), (151, 0, 657), (152, 0, 657), (153, 0, 657), (154, 0, 657), (155, 0, 3947), (156, 0, 9), (157, 0, 9), (158, 0, 9), (159, 0, 9), (160, 0, 9), (161, 0, 59), (162, 0, 58), (163, 0, 58), (164, 0, 58), (165, 0, 1), (166, 0, 1), (167, 0, 479), (168, 0, 0), (169, 0, 0)] f0 f s H locs) (hI : q_Iv4 f so mo sr pa sd bu ba tn) (hl : lv_has ls 10 [(5, .int (q_i ii)), (4, .ref outD), (3, .ref out), (2, .ref mo), (1, .ref x), (0, .ref b)]) (hi0 : 0 ≤ ii) (hi6 : ii + 6 ≤ N9) (hce : cells + 6 ≤ 10000) (hse : slots + 36 ≤ 100000) (kk : ∀ (f1 : Nat → va_E) (H1 : Heap) (locs1 : List Loc) (ls1 : Array Slot) (tn1 : Int), q_B g K L (fun q => s.heap.size ≤ q) [(0, 0, 6), (2, 1, 2), (3, 0, 4), (4, 0, 7), (5, 0, 9), (6, 1, 1), (7, 1, 4), (8, 1, 9), (9, 0, 2), (10, 3, 15), (11, 9, 9), (12, 0, 0), (12, 2, 12), (12, 21, 23), (12, 26, 28), (12, 35, 37), (12, 39, 40), (13, 3, 15), (14, 3, 15), (15, 3, 15), (16, 3, 15), (17, 0, 9), (18, 0, 9), (19, 0, 9), (20, 0, 9), (21, 0, 4), (22, 0, 4), (23, 0, 4), (24, 0, 4), (25, 0, 7), (26, 0, 7), (27, 0, 7), (28, 0, 7), (142, 0, 599), (143, 0, 599), (150, 0, 599), (151, 0, 657), (152, 0, 657), (153, 0, 657), (154, 0, 657), (155, 0, 3947), (156, 0, 9), (157, 0, 9), (158, 0, 9), (159, 0, 9), (160, 0, 9), (161, 0, 59), (162, 0, 58), (163, 0, 58), (164, 0, 58), (165, 0, 1), (166, 0, 1), (167, 0, 479), (168, 0, 0), (169, 0, 0)] f0 f1 s H1 locs1 → q_Iv4 f1 so mo sr pa sd bu ba tn1 → lv_has ls1 10 [(5, .int (q_i ii)), (4, .ref outD), (3, .ref out), (2, .ref mo), (1, .ref x), (0, .ref b)] → W p l e room_1 s m #[Value.ref b] below meth c H1 locs1 (cells + 6) (slots + 36) (lw_Z below #[Value.ref b] s) (F0 m 1521 ls1 [])) : W p l e room_1 s m #[Value.ref b] below meth c H locs (cells) (slots) (lw_Z below #[Value.ref b] s) (F0 m 368 ls []) := by
  have hXs := C0.2.2.2.2.2.2.1
  have hbl := C0.2.2.2.2.2.2.2.1
  have hbA := q_bA hbl
  obtain ⟨⟨hn0, hn1, ltn, utn⟩, hgr, hpk, hsd9, ht3, ht4, hbb⟩ := hI
  have hr0 : q_ir (q_r f x 0) so := Eq.trans (hB.2.2.r hx (by rw [kx]; rfl)) hr0
  have hr1 : q_ir (q_r f x 1) rd := Eq.trans (hB.2.2.r hx (by rw [kx]; rfl)) hr1
  have hr2 : q_ir (q_r f x 2) scr := Eq.trans (hB.2.2.r hx (by rw [kx]; rfl)) hr2
  have hr3 : q_ir (q_r f x 3) fc := Eq.trans (hB.2.2.r hx (by rw [kx]; rfl)) hr3
  have hr4 : q_ir (q_r f x 4) hist := Eq.trans (hB.2.2.r hx (by rw [kx]; rfl)) hr4
  have hr5 : q_ir (q_r f x 5) rep := Eq.trans (hB.2.2.r hx (by rw [kx]; rfl)) hr5
  have hr6 : q_ir (q_r f x 6) now := Eq.trans (hB.2.2.r hx (by rw [kx]; rfl)) hr6
  have hr7 : q_ir (q_r f x 7) dr := Eq.trans (hB.2.2.r hx (by rw [kx]; rfl)) hr7
  have hr8 : q_ir (q_r f x 8) sv := Eq.trans (hB.2.2.r hx (by rw [kx]; rfl)) hr8
  have hr9 : q_ir (q_r f fc 0) tr := Eq.trans (hB.2.2.r hfc (by rw [kfc]; rfl)) hr9
  have hr10 : q_ir (q_r f so 0) ba := Eq.trans (hB.2.2.r hso (by rw [kso]; rfl)) hr10
  have hr11 : q_ir (q_r f dr 0) nds := Eq.trans (hB.2.2.r hdr (by rw [kdr]; rfl)) hr11
  have hr12 : q_ir (q_r f mo 1) bu := Eq.trans (hB.2.2.r hmo (by rw [kmo]; rfl)) hr12
  have hr13 : q_ir (q_r f mo 13) sr := Eq.trans (hB.2.2.r hmo (by rw [kmo]; rfl)) hr13
  have hr14 : q_ir (q_r f mo 14) sd := Eq.trans (hB.2.2.r hmo (by rw [kmo]; rfl)) hr14
  have hr15 : q_ir (q_r f mo 15) as := Eq.trans (hB.2.2.r hmo (by rw [kmo]; rfl)) hr15
  have hr16 : q_ir (q_r f mo 16) aw := Eq.trans (hB.2.2.r hmo (by rw [kmo]; rfl)) hr16
  have hr17 : q_ir (q_r f mo 17) pa := Eq.trans (hB.2.2.r hmo (by rw [kmo]; rfl)) hr17
  have hr18 : q_ir (q_r f mo 18) nm := Eq.trans (hB.2.2.r hmo (by rw [kmo]; rfl)) hr18
  have hr19 : q_ir (q_r f mo 19) snm := Eq.trans (hB.2.2.r hmo (by rw [kmo]; rfl)) hr19
  have hr20 : q_ir (q_r f mo 20) anm := Eq.trans (hB.2.2.r hmo (by rw [kmo]; rfl)) hr20
  have hr21 : q_ir (q_r f mo 24) hp := Eq.trans (hB.2.2.r hmo (by rw [kmo]; rfl)) hr21
  have hr22 : q_ir (q_r f mo 25) dy := Eq.trans (hB.2.2.r hmo (by rw [kmo]; rfl)) hr22
  have hr23 : q_ir (q_r f mo 29) cs := Eq.trans (hB.2.2.r hmo (by rw [kmo]; rfl)) hr23
  have hr24 : q_ir (q_r f mo 30) c1 := Eq.trans (hB.2.2.r hmo (by rw [kmo]; rfl)) hr24
  have hr25 : q_ir (q_r f mo 31) c2 := Eq.trans (hB.2.2.r hmo (by rw [kmo]; rfl)) hr25
  have hr26 : q_ir (q_r f mo 32) c3 := Eq.trans (hB.2.2.r hmo (by rw [kmo]; rfl)) hr26
  have hr27 : q_ir (q_r f mo 33) bg := Eq.trans (hB.2.2.r hmo (by rw [kmo]; rfl)) hr27
  have hr28 : q_ir (q_r f mo 34) lp := Eq.trans (hB.2.2.r hmo (by rw [kmo]; rfl)) hr28
  have hr29 : q_ir (q_r f mo 38) rp := Eq.trans (hB.2.2.r hmo (by rw [kmo]; rfl)) hr29
  have hij : tk_ij K L f nds := tk_ij_tr hij (fun i9 => hB.2.2.r hnds (by rw [knds]; rfl))
  obtain ⟨x1, ex1⟩ : ∃ zz, q_is (q_z f sr 3) zz := ⟨_, q_isr _⟩
  obtain ⟨lx1, ux1⟩ : 0 ≤ x1 ∧ x1 ≤ 9999 := q_isb ex1 ⟨(hgr 3 (by decide)).1, ht3⟩
  obtain ⟨x2, ex2⟩ : ∃ zz, q_is (q_z f sr 4) zz := ⟨_, q_isr _⟩
  obtain ⟨lx2, ux2⟩ : 0 ≤ x2 ∧ x2 ≤ 60 := q_isb ex2 ⟨(hgr 4 (by decide)).1, ht4⟩
  refine q_ald_n cx dL_law_368 rfl (lv_at hl 4 rfl) ?_
  refine q_ald_n cx dL_law_369 rfl (lv_at hl 2 rfl) ?_
  refine q_cWS (As := [.ref x, .ref out]) (rest := []) cx hX hB (fun q h => hLA q h) (fun q h1 h2 => absurd h1 (Nat.not_le_of_lt h2)) hN (w_runScript l g ad hN hB.2.1 hfl x hx kx out hout kout so hso kso rd hrd krd scr hscr kscr fc hfc kfc hist hhist khist rep hrep krep now hnow know dr hdr kdr sv hsv ksv tr htr ktr hr0 hr1 hr2 hr3 hr4 hr5 hr6 hr7 hr8 hr9) q_cL_135 q_dL_runScript ⟨by decide, by show cells + 1 ≤ 601024; omega, by show slots + 6 ≤ 7293034; omega⟩ rfl rfl hl.1 rfl (Nat.le_of_ble_eq_true rfl) dL_law_370 (fun v9 H locs f3 h5 hF hB => ?_)
  obtain ⟨y4, rfl, ry4, h5⟩ := h5
  refine W.eq (g2 := F0 m 373 ls [.int (q_i y4)]) rfl ?_
  obtain ⟨ly4, uy4, z6⟩ := h5
  have z7 : q_is (q_z f3 mo 2) tn := Eq.trans (hF.z hmo (by rw [kmo]; rfl)) hn1
  have z8 : q_is (q_z f3 sr 3) x1 := Eq.trans (hF.z hsr (by rw [ksr]; rfl)) ex1
  have z9 : q_is (q_z f3 sr 4) x2 := Eq.trans (hF.z hsr (by rw [ksr]; rfl)) ex2
  have z10 : q_ir (q_r f3 x 0) so := Eq.trans (hF.r hx (by rw [kx]; rfl)) hr0
  have z11 : q_ir (q_r f3 x 1) rd := Eq.trans (hF.r hx (by rw [kx]; rfl)) hr1
  have z12 : q_ir (q_r f3 x 2) scr := Eq.trans (hF.r hx (by rw [kx]; rfl)) hr2
  have z13 : q_ir (q_r f3 x 3) fc := Eq.trans (hF.r hx (by rw [kx]; rfl)) hr3
  have z14 : q_ir (q_r f3 x 4) hist := Eq.trans (hF.r hx (by rw [kx]; rfl)) hr4
  have z15 : q_ir (q_r f3 x 5) rep := Eq.trans (hF.r hx (by rw [kx]; rfl)) hr5
  have z16 : q_ir (q_r f3 x 6) now := Eq.trans (hF.r hx (by rw [kx]; rfl)) hr6
  have z17 : q_ir (q_r f3 x 7) dr := Eq.trans (hF.r hx (by rw [kx]; rfl)) hr7
  have z18 : q_ir (q_r f3 x 8) sv := Eq.trans (hF.r hx (by rw [kx]; rfl)) hr8
  have z19 : q_ir (q_r f3 fc 0) tr := Eq.trans (hF.r hfc (by rw [kfc]; rfl)) hr9
  have z20 : q_ir (q_r f3 so 0) ba := Eq.trans (hF.r hso (by rw [kso]; rfl)) hr10
  have z21 : q_ir (q_r f3 dr 0) nds := Eq.trans (hF.r hdr (by rw [kdr]; rfl)) hr11
  have z22 : q_ir (q_r f3 mo 1) bu := Eq.trans (hF.r hmo (by rw [kmo]; rfl)) hr12
  have z23 : q_ir (q_r f3 mo 13) sr := Eq.trans (hF.r hmo (by rw [kmo]; rfl)) hr13
  have z24 : q_ir (q_r f3 mo 14) sd := Eq.trans (hF.r hmo (by rw [kmo]; rfl)) hr14
  have z25 : q_ir (q_r f3 mo 15) as := Eq.trans (hF.r hmo (by rw [kmo]; rfl)) hr15
  have z26 : q_ir (q_r f3 mo 16) aw := Eq.trans (hF.r hmo (by rw [kmo]; rfl)) hr16
  have z27 : q_ir (q_r f3 mo 17) pa := Eq.trans (hF.r hmo (by rw [kmo]; rfl)) hr17
  have z28 : q_ir (q_r f3 mo 18) nm := Eq.trans (hF.r hmo (by rw [kmo]; rfl)) hr18
  have z29 : q_ir (q_r f3 mo 19) snm := Eq.trans (hF.r hmo (by rw [kmo]; rfl)) hr19
  have z30 : q_ir (q_r f3 mo 20) anm := Eq.trans (hF.r hmo (by rw [kmo]; rfl)) hr20
  have z31 : q_ir (q_r f3 mo 24) hp := Eq.trans (hF.r hmo (by rw [kmo]; rfl)) hr21
  have z32 : q_ir (q_r f3 mo 25) dy := Eq.trans (hF.r hmo (by rw [kmo]; rfl)) hr22
  have z33 : q_ir (q_r f3 mo 29) cs := Eq.trans (hF.r hmo (by rw [kmo]; rfl)) hr23
  have z34 : q_ir (q_r f3 mo 30) c1 := Eq.trans (hF.r hmo (by rw [kmo]; rfl)) hr24
  have z35 : q_ir (q_r f3 mo 31) c2 := Eq.trans (hF.r hmo (by rw [kmo]; rfl)) hr25
  have z36 : q_ir (q_r f3 mo 32) c3 := Eq.trans (hF.r hmo (by rw [kmo]; rfl)) hr26
  have z37 : q_ir (q_r f3 mo 33) bg := Eq.trans (hF.r hmo (by rw [kmo]; rfl)) hr27
  have z38 : q_ir (q_r f3 mo 34) lp := Eq.trans (hF.r hmo (by rw [kmo]; rfl)) hr28
  have z39 : q_ir (q_r f3 mo 38) rp := Eq.trans (hF.r hmo (by rw [kmo]; rfl)) hr29
  have g40 : q_gr f3 sr := q_gr_fr hgr (fun i9 _ => hF.z hsr (by rw [ksr]; rfl))
  have g41 : q_pk f3 mo pa := q_pk_tr hpk (hF.z hmo (by rw [kmo]; rfl)) (fun i9 => hF.z hpa (by rw [kpa]; rfl))
  have g42 : q_sv f3 mo sd := q_sv_tr hsd9 (hF.z hmo (by rw [kmo]; rfl)) (fun i9 => hF.z hsd (by rw [ksd]; rfl))
  have g43 : tk_bb f3 bu ba tn := tk_bb_tr hbb (fun i9 => hF.z hbu (by rw [kbu]; rfl)) (fun i9 => hF.z hba (by rw [kba]; rfl))
  have g44 : tk_ij K L f3 nds := tk_ij_tr hij (fun i9 => hF.r hnds (by rw [knds]; rfl))
  refine lv_istore (lv' := [(6, .int (q_i y4)), (5, .int (q_i ii)), (4, .ref outD), (3, .ref out), (2, .ref mo), (1, .ref x), (0, .ref b)]) cx.1 cx.2.1 dL_law_373 hl (by decide) rfl (fun ls hl => ?_)
  refine q_ald_n cx dL_law_375 rfl (lv_at hl 4 rfl) ?_
  refine q_cVi (As := []) (rest := []) cx hB (fun q h => hLA q h) hN hmo kmo (by decide) rfl (r_runScript l g hN hB.2.1 mo hmo kmo sr hsr ksr nm hnm knm bu hbu kbu cs hcs kcs c1 hc1 kc1 c2 hc2 kc2 c3 hc3 kc3 bg hbg kbg lp hlp klp hp hhp khp dy hdy kdy as has kas pa hpa kpa x1 (by omega) (by omega) x2 (by omega) (by omega) z8 z9 z23 z28 z22 z33 z34 z35 z36 z37 z38 z31 z32 z25 z27 g40 g41) q_cL_137 q_dX12_runScript ⟨by decide, by show cells + 1 ≤ 601024; omega, by show slots + 6 ≤ 7293034; omega⟩ rfl rfl hl.1 rfl (Nat.le_of_ble_eq_true rfl) dL_law_376 (fun y46 H locs f45 ry46 h47 hF hB => ?_)
  obtain ⟨ly46, uy46, lz48, uz48, lz49, uz49, z50, g51, g52⟩ := h47
  have z53 : q_is (q_z f45 so 1) 0 := Eq.trans (hF.z hso (by rw [kso]; rfl)) z6
  have z54 : q_ir (q_r f45 x 0) so := Eq.trans (hF.r hx (by rw [kx]; rfl)) z10
  have z55 : q_ir (q_r f45 x 1) rd := Eq.trans (hF.r hx (by rw [kx]; rfl)) z11
  have z56 : q_ir (q_r f45 x 2) scr := Eq.trans (hF.r hx (by rw [kx]; rfl)) z12
  have z57 : q_ir (q_r f45 x 3) fc := Eq.trans (hF.r hx (by rw [kx]; rfl)) z13
  have z58 : q_ir (q_r f45 x 4) hist := Eq.trans (hF.r hx (by rw [kx]; rfl)) z14
  have z59 : q_ir (q_r f45 x 5) rep := Eq.trans (hF.r hx (by rw [kx]; rfl)) z15
  have z60 : q_ir (q_r f45 x 6) now := Eq.trans (hF.r hx (by rw [kx]; rfl)) z16
  have z61 : q_ir (q_r f45 x 7) dr := Eq.trans (hF.r hx (by rw [kx]; rfl)) z17
  have z62 : q_ir (q_r f45 x 8) sv := Eq.trans (hF.r hx (by rw [kx]; rfl)) z18
  have z63 : q_ir (q_r f45 fc 0) tr := Eq.trans (hF.r hfc (by rw [kfc]; rfl)) z19
  have z64 : q_ir (q_r f45 so 0) ba := Eq.trans (hF.r hso (by rw [kso]; rfl)) z20
  have z65 : q_ir (q_r f45 dr 0) nds := Eq.trans (hF.r hdr (by rw [kdr]; rfl)) z21
  have z66 : q_ir (q_r f45 mo 1) bu := Eq.trans (hF.r hmo (by rw [kmo]; rfl)) z22
  have z67 : q_ir (q_r f45 mo 13) sr := Eq.trans (hF.r hmo (by rw [kmo]; rfl)) z23
  have z68 : q_ir (q_r f45 mo 14) sd := Eq.trans (hF.r hmo (by rw [kmo]; rfl)) z24
  have z69 : q_ir (q_r f45 mo 15) as := Eq.trans (hF.r hmo (by rw [kmo]; rfl)) z25
  have z70 : q_ir (q_r f45 mo 16) aw := Eq.trans (hF.r hmo (by rw [kmo]; rfl)) z26
  have z71 : q_ir (q_r f45 mo 17) pa := Eq.trans (hF.r hmo (by rw [kmo]; rfl)) z27
  have z72 : q_ir (q_r f45 mo 18) nm := Eq.trans (hF.r hmo (by rw [kmo]; rfl)) z28
  have z73 : q_ir (q_r f45 mo 19) snm := Eq.trans (hF.r hmo (by rw [kmo]; rfl)) z29
  have z74 : q_ir (q_r f45 mo 20) anm := Eq.trans (hF.r hmo (by rw [kmo]; rfl)) z30
  have z75 : q_ir (q_r f45 mo 24) hp := Eq.trans (hF.r hmo (by rw [kmo]; rfl)) z31
  have z76 : q_ir (q_r f45 mo 25) dy := Eq.trans (hF.r hmo (by rw [kmo]; rfl)) z32
  have z77 : q_ir (q_r f45 mo 29) cs := Eq.trans (hF.r hmo (by rw [kmo]; rfl)) z33
  have z78 : q_ir (q_r f45 mo 30) c1 := Eq.trans (hF.r hmo (by rw [kmo]; rfl)) z34
  have z79 : q_ir (q_r f45 mo 31) c2 := Eq.trans (hF.r hmo (by rw [kmo]; rfl)) z35
  have z80 : q_ir (q_r f45 mo 32) c3 := Eq.trans (hF.r hmo (by rw [kmo]; rfl)) z36
  have z81 : q_ir (q_r f45 mo 33) bg := Eq.trans (hF.r hmo (by rw [kmo]; rfl)) z37
  have z82 : q_ir (q_r f45 mo 34) lp := Eq.trans (hF.r hmo (by rw [kmo]; rfl)) z38
  have z83 : q_ir (q_r f45 mo 38) rp := Eq.trans (hF.r hmo (by rw [kmo]; rfl)) z39
  have g84 : q_sv f45 mo sd := q_sv_tr g42 (hF.z hmo (by rw [kmo]; rfl)) (fun i9 => hF.z hsd (by rw [ksd]; rfl))
  have g85 : tk_bb f45 bu ba tn := tk_bb_tr g43 (fun i9 => hF.z hbu (by rw [kbu]; rfl)) (fun i9 => hF.z hba (by rw [kba]; rfl))
  have g86 : tk_ij K L f45 nds := tk_ij_tr g44 (fun i9 => hF.r hnds (by rw [knds]; rfl))
  obtain ⟨x87, ex87⟩ : ∃ zz, q_is (q_z f45 sr 3) zz := ⟨_, q_isr _⟩
  obtain ⟨lx87, ux87⟩ := q_isb ex87 ⟨lz48, uz48⟩
  obtain ⟨x88, ex88⟩ : ∃ zz, q_is (q_z f45 sr 4) zz := ⟨_, q_isr _⟩
  obtain ⟨lx88, ux88⟩ := q_isb ex88 ⟨lz49, uz49⟩
  refine lv_istore (lv' := [(7, .int (q_i y46)), (6, .int (q_i y4)), (5, .int (q_i ii)), (4, .ref outD), (3, .ref out), (2, .ref mo), (1, .ref x), (0, .ref b)]) cx.1 cx.2.1 dL_law_379 hl (by decide) rfl (fun ls hl => ?_)
  refine lv_goto (tgt := 1521) cx.1 cx.2.1 dL_law_381 (by decide) ?_
  refine W.widen (k := cells + 6) (n := slots + 36) (by omega) (by omega) ?_
  exact kk f45 H locs ls 0 hB ⟨⟨z53, (Eq.trans z50 (by omega)), by omega, by omega⟩, g51, g52, g84, q_isu ex87 (by omega), q_isu ex88 (by omega), tk_bb_le g85 (by omega)⟩ (lv_sub hl [2, 3, 4, 5, 6, 7] rfl)
set_option maxHeartbeats 4000000 in
set_option maxRecDepth 100000 in
theorem law_c384 {p : Program} {l : Launch} {e : Env} {s : State} {m : MethodId} {below : List Frame} {meth : Method} {c : Code} {b N9 : Nat} {xs : Nat → Int32} (hfl : l.stackTraces = false) (hN9 : N9 ≤ 3072) (C0 : lw_At p s m meth c b N9 xs) (cx : CallFix p m c cL_law 10 s #[Value.ref b] q_al RL) {g : q_G} {ad : Nat → Nat} {K : Nat → Nat} {L : List Nat} (hN : L.Nodup) (hLA : ∀ q, q ∈ L → s.heap.size ≤ q) (hX : q_X ad (fun q => q ∈ L) s) {f0 : Nat → va_E} {x : Nat} (hx : x ∈ L) (kx : K x = 11) {so : Nat} (hso : so ∈ L) (kso : K so = 8) {rd : Nat} (hrd : rd ∈ L) (krd : K rd = 9) {scr : Nat} (hscr : scr ∈ L) (kscr : K scr = 7) {fc : Nat} (hfc : fc ∈ L) (kfc : K fc = 1) {hist : Nat} (hhist : hist ∈ L) (khist : K hist = 2) {rep : Nat} (hrep : rep ∈ L) (krep : K rep = 6) {now : Nat} (hnow : now ∈ L) (know : K now = 10) {dr : Nat} (hdr : dr ∈ L) (kdr : K dr = 13) {sv : Nat} (hsv : sv ∈ L) (ksv : K sv = 14) {tr : Nat} (htr : tr ∈ L) (ktr : K tr = 15) {ba : Nat} (hba : ba ∈ L) (kba : K ba = 142) {nds : Nat} (hnds : nds ∈ L) (knds : K nds = 111) {mo : Nat} (hmo : mo ∈ L) (kmo : K mo = 12) {bu : Nat} (hbu : bu ∈ L) (kbu : K bu = 150) {sr : Nat} (hsr : sr ∈ L) (ksr : K sr = 151) {sd : Nat} (hsd : sd ∈ L) (ksd : K sd = 152) {as : Nat} (has : as ∈ L) (kas : K as = 153) {aw : Nat} (haw : aw ∈ L) (kaw : K aw = 154) {pa : Nat} (hpa : pa ∈ L) (kpa : K pa = 155) {nm : Nat} (hnm : nm ∈ L) (knm : K nm = 156) {snm : Nat} (hsnm : snm ∈ L) (ksnm : K snm = 157) {anm : Nat} (hanm : anm ∈ L) (kanm : K anm = 158) {hp : Nat} (hhp : hp ∈ L) (khp : K hp = 159) {dy : Nat} (hdy : dy ∈ L) (kdy : K dy = 160) {cs : Nat} (hcs : cs ∈ L) (kcs : K cs = 161) {c1 : Nat} (hc1 : c1 ∈ L) (kc1 : K c1 = 162) {c2 : Nat} (hc2 : c2 ∈ L) (kc2 : K c2 = 163) {c3 : Nat} (hc3 : c3 ∈ L) (kc3 : K c3 = 164) {bg : Nat} (hbg : bg ∈ L) (kbg : K bg = 165) {lp : Nat} (hlp : lp ∈ L) (klp : K lp = 166) {rp : Nat} (hrp : rp ∈ L) (krp : K rp = 167) {out : Nat} (hout : out ∈ L) (kout : K out = 168) {outD : Nat} (houtD : outD ∈ L) (koutD : K outD = 169) (hr0 : q_ir (q_r f0 x 0) so) (hr1 : q_ir (q_r f0 x 1) rd) (hr2 : q_ir (q_r f0 x 2) scr) (hr3 : q_ir (q_r f0 x 3) fc) (hr4 : q_ir (q_r f0 x 4) hist) (hr5 : q_ir (q_r f0 x 5) rep) (hr6 : q_ir (q_r f0 x 6) now) (hr7 : q_ir (q_r f0 x 7) dr) (hr8 : q_ir (q_r f0 x 8) sv) (hr9 : q_ir (q_r f0 fc 0) tr) (hr10 : q_ir (q_r f0 so 0) ba) (hr11 : q_ir (q_r f0 dr 0) nds) (hr12 : q_ir (q_r f0 mo 1) bu) (hr13 : q_ir (q_r f0 mo 13) sr) (hr14 : q_ir (q_r f0 mo 14) sd) (hr15 : q_ir (q_r f0 mo 15) as) (hr16 : q_ir (q_r f0 mo 16) aw) (hr17 : q_ir (q_r f0 mo 17) pa) (hr18 : q_ir (q_r f0 mo 18) nm) (hr19 : q_ir (q_r f0 mo 19) snm) (hr20 : q_ir (q_r f0 mo 20) anm) (hr21 : q_ir (q_r f0 mo 24) hp) (hr22 : q_ir (q_r f0 mo 25) dy) (hr23 : q_ir (q_r f0 mo 29) cs) (hr24 : q_ir (q_r f0 mo 30) c1) (hr25 : q_ir (q_r f0 mo 31) c2) (hr26 : q_ir (q_r f0 mo 32) c3) (hr27 : q_ir (q_r f0 mo 33) bg) (hr28 : q_ir (q_r f0 mo 34) lp) (hr29 : q_ir (q_r f0 mo 38) rp) (hij : tk_ij K L f0 nds) {f : Nat → va_E} {H : Heap} {locs : List Loc} {ls : Array Slot} {cells slots : Nat} {ii tn : Int} (hB : q_B g K L (fun q => s.heap.size ≤ q) [(0, 0, 6), (2, 1, 2), (3, 0, 4), (4, 0, 7), (5, 0, 9), (6, 1, 1), (7, 1, 4), (8, 1, 9), (9, 0, 2), (10, 3, 15), (11, 9, 9), (12, 0, 0), (12, 2, 12), (12, 21, 23), (12, 26, 28), (12, 35, 37), (12, 39, 40), (13, 3, 15), (14, 3, 15), (15, 3, 15), (16, 3, 15), (17, 0, 9), (18, 0, 9), (19, 0, 9), (20, 0, 9), (21, 0, 4), (22, 0, 4), (23, 0, 4), (24, 0, 4), (25, 0, 7), (26, 0, 7), (27, 0, 7), (28, 0, 7), (142, 0, 599), (143, 0, 599), (150, 0, 599), (151, 0, 657), (152, 0, 657), (153, 0, 657), (154, 0, 657), (155, 0, 3947), (156, 0, 9), (157, 0, 9), (158, 0, 9), (159, 0, 9), (160, 0, 9), (161, 0, 59), (162, 0, 58), (163, 0, 58), (164, 0, 58), (165, 0, 1), (166, 0, 1), (167, 0, 479), (168, 0, 0), (169, 0, 0)] f0 f s H locs) (hI : q_Iv4 f so mo sr pa sd bu ba tn) (hl : lv_has ls 10 [(5, .int (q_i ii)), (4, .ref outD), (3, .ref out), (2, .ref mo), (1, .ref x), (0, .ref b)]) (hi0 : 0 ≤ ii) (hi6 : ii + 6 ≤ N9) (hce : cells + 6 ≤ 10000) (hse : slots + 36 ≤ 100000) (kk : ∀ (f1 : Nat → va_E) (H1 : Heap) (locs1 : List Loc) (ls1 : Array Slot) (tn1 : Int), q_B g K L (fun q => s.heap.size ≤ q) [(0, 0, 6), (2, 1, 2), (3, 0, 4), (4, 0, 7), (5, 0, 9), (6, 1, 1), (7, 1, 4), (8, 1, 9), (9, 0, 2), (10, 3, 15), (11, 9, 9), (12, 0, 0), (12, 2, 12), (12, 21, 23), (12, 26, 28), (12, 35, 37), (12, 39, 40), (13, 3, 15), (14, 3, 15), (15, 3, 15), (16, 3, 15), (17, 0, 9), (18, 0, 9), (19, 0, 9), (20, 0, 9), (21, 0, 4), (22, 0, 4), (23, 0, 4), (24, 0, 4), (25, 0, 7), (26, 0, 7), (27, 0, 7), (28, 0, 7), (142, 0, 599), (143, 0, 599), (150, 0, 599), (151, 0, 657), (152, 0, 657), (153, 0, 657), (154, 0, 657), (155, 0, 3947), (156, 0, 9), (157, 0, 9), (158, 0, 9), (159, 0, 9), (160, 0, 9), (161, 0, 59), (162, 0, 58), (163, 0, 58), (164, 0, 58), (165, 0, 1), (166, 0, 1), (167, 0, 479), (168, 0, 0), (169, 0, 0)] f0 f1 s H1 locs1 → q_Iv4 f1 so mo sr pa sd bu ba tn1 → lv_has ls1 10 [(5, .int (q_i ii)), (4, .ref outD), (3, .ref out), (2, .ref mo), (1, .ref x), (0, .ref b)] → W p l e room_1 s m #[Value.ref b] below meth c H1 locs1 (cells + 6) (slots + 36) (lw_Z below #[Value.ref b] s) (F0 m 1521 ls1 [])) : W p l e room_1 s m #[Value.ref b] below meth c H locs (cells) (slots) (lw_Z below #[Value.ref b] s) (F0 m 384 ls []) := by
  have hXs := C0.2.2.2.2.2.2.1
  have hbl := C0.2.2.2.2.2.2.2.1
  have hbA := q_bA hbl
  obtain ⟨⟨hn0, hn1, ltn, utn⟩, hgr, hpk, hsd9, ht3, ht4, hbb⟩ := hI
  have hr0 : q_ir (q_r f x 0) so := Eq.trans (hB.2.2.r hx (by rw [kx]; rfl)) hr0
  have hr1 : q_ir (q_r f x 1) rd := Eq.trans (hB.2.2.r hx (by rw [kx]; rfl)) hr1
  have hr2 : q_ir (q_r f x 2) scr := Eq.trans (hB.2.2.r hx (by rw [kx]; rfl)) hr2
  have hr3 : q_ir (q_r f x 3) fc := Eq.trans (hB.2.2.r hx (by rw [kx]; rfl)) hr3
  have hr4 : q_ir (q_r f x 4) hist := Eq.trans (hB.2.2.r hx (by rw [kx]; rfl)) hr4
  have hr5 : q_ir (q_r f x 5) rep := Eq.trans (hB.2.2.r hx (by rw [kx]; rfl)) hr5
  have hr6 : q_ir (q_r f x 6) now := Eq.trans (hB.2.2.r hx (by rw [kx]; rfl)) hr6
  have hr7 : q_ir (q_r f x 7) dr := Eq.trans (hB.2.2.r hx (by rw [kx]; rfl)) hr7
  have hr8 : q_ir (q_r f x 8) sv := Eq.trans (hB.2.2.r hx (by rw [kx]; rfl)) hr8
  have hr9 : q_ir (q_r f fc 0) tr := Eq.trans (hB.2.2.r hfc (by rw [kfc]; rfl)) hr9
  have hr10 : q_ir (q_r f so 0) ba := Eq.trans (hB.2.2.r hso (by rw [kso]; rfl)) hr10
  have hr11 : q_ir (q_r f dr 0) nds := Eq.trans (hB.2.2.r hdr (by rw [kdr]; rfl)) hr11
  have hr12 : q_ir (q_r f mo 1) bu := Eq.trans (hB.2.2.r hmo (by rw [kmo]; rfl)) hr12
  have hr13 : q_ir (q_r f mo 13) sr := Eq.trans (hB.2.2.r hmo (by rw [kmo]; rfl)) hr13
  have hr14 : q_ir (q_r f mo 14) sd := Eq.trans (hB.2.2.r hmo (by rw [kmo]; rfl)) hr14
  have hr15 : q_ir (q_r f mo 15) as := Eq.trans (hB.2.2.r hmo (by rw [kmo]; rfl)) hr15
  have hr16 : q_ir (q_r f mo 16) aw := Eq.trans (hB.2.2.r hmo (by rw [kmo]; rfl)) hr16
  have hr17 : q_ir (q_r f mo 17) pa := Eq.trans (hB.2.2.r hmo (by rw [kmo]; rfl)) hr17
  have hr18 : q_ir (q_r f mo 18) nm := Eq.trans (hB.2.2.r hmo (by rw [kmo]; rfl)) hr18
  have hr19 : q_ir (q_r f mo 19) snm := Eq.trans (hB.2.2.r hmo (by rw [kmo]; rfl)) hr19
  have hr20 : q_ir (q_r f mo 20) anm := Eq.trans (hB.2.2.r hmo (by rw [kmo]; rfl)) hr20
  have hr21 : q_ir (q_r f mo 24) hp := Eq.trans (hB.2.2.r hmo (by rw [kmo]; rfl)) hr21
  have hr22 : q_ir (q_r f mo 25) dy := Eq.trans (hB.2.2.r hmo (by rw [kmo]; rfl)) hr22
  have hr23 : q_ir (q_r f mo 29) cs := Eq.trans (hB.2.2.r hmo (by rw [kmo]; rfl)) hr23
  have hr24 : q_ir (q_r f mo 30) c1 := Eq.trans (hB.2.2.r hmo (by rw [kmo]; rfl)) hr24
  have hr25 : q_ir (q_r f mo 31) c2 := Eq.trans (hB.2.2.r hmo (by rw [kmo]; rfl)) hr25
  have hr26 : q_ir (q_r f mo 32) c3 := Eq.trans (hB.2.2.r hmo (by rw [kmo]; rfl)) hr26
  have hr27 : q_ir (q_r f mo 33) bg := Eq.trans (hB.2.2.r hmo (by rw [kmo]; rfl)) hr27
  have hr28 : q_ir (q_r f mo 34) lp := Eq.trans (hB.2.2.r hmo (by rw [kmo]; rfl)) hr28
  have hr29 : q_ir (q_r f mo 38) rp := Eq.trans (hB.2.2.r hmo (by rw [kmo]; rfl)) hr29
  have hij : tk_ij K L f nds := tk_ij_tr hij (fun i9 => hB.2.2.r hnds (by rw [knds]; rfl))
  obtain ⟨x1, ex1⟩ : ∃ zz, q_is (q_z f sr 3) zz := ⟨_, q_isr _⟩
  obtain ⟨lx1, ux1⟩ : 0 ≤ x1 ∧ x1 ≤ 9999 := q_isb ex1 ⟨(hgr 3 (by decide)).1, ht3⟩
  obtain ⟨x2, ex2⟩ : ∃ zz, q_is (q_z f sr 4) zz := ⟨_, q_isr _⟩
  obtain ⟨lx2, ux2⟩ : 0 ≤ x2 ∧ x2 ≤ 60 := q_isb ex2 ⟨(hgr 4 (by decide)).1, ht4⟩
  refine q_ald_n cx dL_law_384 rfl (lv_at hl 4 rfl) ?_
  refine q_cVi (As := []) (rest := []) cx hB (fun q h => hLA q h) hN hx kx (by decide) rfl (x_errorCode l g hN hB.2.1 x hx kx so hso kso rd hrd krd scr hscr kscr fc hfc kfc hist hhist khist rep hrep krep now hnow know dr hdr kdr sv hsv ksv tr htr ktr hr0 hr1 hr2 hr3 hr4 hr5 hr6 hr7 hr8 hr9) q_cL_138 q_dX11_errorCode ⟨by decide, by show cells + 0 ≤ 601024; omega, by show slots + 0 ≤ 7293034; omega⟩ rfl rfl hl.1 rfl (Nat.le_of_ble_eq_true rfl) dL_law_385 (fun y4 H locs f3 ry4 h5 hF hB => ?_)
  obtain rfl := h5
  refine lv_pop cx.1 cx.2.1 dL_law_388 rfl ?_
  refine q_ald_n cx dL_law_389 rfl (lv_at hl 3 rfl) ?_
  refine q_cVi (As := []) (rest := []) cx hB (fun q h => hLA q h) hN hmo kmo (by decide) rfl (r_errorCode l g hN hB.2.1 mo hmo kmo) q_cL_141 q_dX12_errorCode ⟨by decide, by show cells + 0 ≤ 601024; omega, by show slots + 0 ≤ 7293034; omega⟩ rfl rfl hl.1 rfl (Nat.le_of_ble_eq_true rfl) dL_law_390 (fun y7 H locs f6 ry7 h8 hF hB => ?_)
  have z9 : q_is (q_z f6 so 1) tn := Eq.trans (hF.z hso (by rw [kso]; rfl)) hn0
  have z10 : q_is (q_z f6 mo 2) tn := Eq.trans (hF.z hmo (by rw [kmo]; rfl)) hn1
  have z11 : q_is (q_z f6 sr 3) x1 := Eq.trans (hF.z hsr (by rw [ksr]; rfl)) ex1
  have z12 : q_is (q_z f6 sr 4) x2 := Eq.trans (hF.z hsr (by rw [ksr]; rfl)) ex2
  have z13 : q_ir (q_r f6 x 0) so := Eq.trans (hF.r hx (by rw [kx]; rfl)) hr0
  have z14 : q_ir (q_r f6 x 1) rd := Eq.trans (hF.r hx (by rw [kx]; rfl)) hr1
  have z15 : q_ir (q_r f6 x 2) scr := Eq.trans (hF.r hx (by rw [kx]; rfl)) hr2
  have z16 : q_ir (q_r f6 x 3) fc := Eq.trans (hF.r hx (by rw [kx]; rfl)) hr3
  have z17 : q_ir (q_r f6 x 4) hist := Eq.trans (hF.r hx (by rw [kx]; rfl)) hr4
  have z18 : q_ir (q_r f6 x 5) rep := Eq.trans (hF.r hx (by rw [kx]; rfl)) hr5
  have z19 : q_ir (q_r f6 x 6) now := Eq.trans (hF.r hx (by rw [kx]; rfl)) hr6
  have z20 : q_ir (q_r f6 x 7) dr := Eq.trans (hF.r hx (by rw [kx]; rfl)) hr7
  have z21 : q_ir (q_r f6 x 8) sv := Eq.trans (hF.r hx (by rw [kx]; rfl)) hr8
  have z22 : q_ir (q_r f6 fc 0) tr := Eq.trans (hF.r hfc (by rw [kfc]; rfl)) hr9
  have z23 : q_ir (q_r f6 so 0) ba := Eq.trans (hF.r hso (by rw [kso]; rfl)) hr10
  have z24 : q_ir (q_r f6 dr 0) nds := Eq.trans (hF.r hdr (by rw [kdr]; rfl)) hr11
  have z25 : q_ir (q_r f6 mo 1) bu := Eq.trans (hF.r hmo (by rw [kmo]; rfl)) hr12
  have z26 : q_ir (q_r f6 mo 13) sr := Eq.trans (hF.r hmo (by rw [kmo]; rfl)) hr13
  have z27 : q_ir (q_r f6 mo 14) sd := Eq.trans (hF.r hmo (by rw [kmo]; rfl)) hr14
  have z28 : q_ir (q_r f6 mo 15) as := Eq.trans (hF.r hmo (by rw [kmo]; rfl)) hr15
  have z29 : q_ir (q_r f6 mo 16) aw := Eq.trans (hF.r hmo (by rw [kmo]; rfl)) hr16
  have z30 : q_ir (q_r f6 mo 17) pa := Eq.trans (hF.r hmo (by rw [kmo]; rfl)) hr17
  have z31 : q_ir (q_r f6 mo 18) nm := Eq.trans (hF.r hmo (by rw [kmo]; rfl)) hr18
  have z32 : q_ir (q_r f6 mo 19) snm := Eq.trans (hF.r hmo (by rw [kmo]; rfl)) hr19
  have z33 : q_ir (q_r f6 mo 20) anm := Eq.trans (hF.r hmo (by rw [kmo]; rfl)) hr20
  have z34 : q_ir (q_r f6 mo 24) hp := Eq.trans (hF.r hmo (by rw [kmo]; rfl)) hr21
  have z35 : q_ir (q_r f6 mo 25) dy := Eq.trans (hF.r hmo (by rw [kmo]; rfl)) hr22
  have z36 : q_ir (q_r f6 mo 29) cs := Eq.trans (hF.r hmo (by rw [kmo]; rfl)) hr23
  have z37 : q_ir (q_r f6 mo 30) c1 := Eq.trans (hF.r hmo (by rw [kmo]; rfl)) hr24
  have z38 : q_ir (q_r f6 mo 31) c2 := Eq.trans (hF.r hmo (by rw [kmo]; rfl)) hr25
  have z39 : q_ir (q_r f6 mo 32) c3 := Eq.trans (hF.r hmo (by rw [kmo]; rfl)) hr26
  have z40 : q_ir (q_r f6 mo 33) bg := Eq.trans (hF.r hmo (by rw [kmo]; rfl)) hr27
  have z41 : q_ir (q_r f6 mo 34) lp := Eq.trans (hF.r hmo (by rw [kmo]; rfl)) hr28
  have z42 : q_ir (q_r f6 mo 38) rp := Eq.trans (hF.r hmo (by rw [kmo]; rfl)) hr29
  have g43 : q_gr f6 sr := q_gr_fr hgr (fun i9 _ => hF.z hsr (by rw [ksr]; rfl))
  have g44 : q_pk f6 mo pa := q_pk_tr hpk (hF.z hmo (by rw [kmo]; rfl)) (fun i9 => hF.z hpa (by rw [kpa]; rfl))
  have g45 : q_sv f6 mo sd := q_sv_tr hsd9 (hF.z hmo (by rw [kmo]; rfl)) (fun i9 => hF.z hsd (by rw [ksd]; rfl))
  have g46 : tk_bb f6 bu ba tn := tk_bb_tr hbb (fun i9 => hF.z hbu (by rw [kbu]; rfl)) (fun i9 => hF.z hba (by rw [kba]; rfl))
  have g47 : tk_ij K L f6 nds := tk_ij_tr hij (fun i9 => hF.r hnds (by rw [knds]; rfl))
  refine lv_pop cx.1 cx.2.1 dL_law_393 rfl ?_
  refine lv_goto (tgt := 1521) cx.1 cx.2.1 dL_law_394 (by decide) ?_
  refine W.widen (k := cells + 6) (n := slots + 36) (by omega) (by omega) ?_
  exact kk f6 H locs ls tn hB ⟨⟨z9, (Eq.trans z10 (by omega)), by omega, by omega⟩, g43, g44, g45, q_isu z11 (by omega), q_isu z12 (by omega), tk_bb_le g46 (by omega)⟩ (lv_sub hl [0, 1, 2, 3, 4, 5] rfl)
set_option maxHeartbeats 4000000 in
set_option maxRecDepth 100000 in
theorem law_c397 {p : Program} {l : Launch} {e : Env} {s : State} {m : MethodId} {below : List Frame} {meth : Method} {c : Code} {b N9 : Nat} {xs : Nat → Int32} (hfl : l.stackTraces = false) (hN9 : N9 ≤ 3072) (C0 : lw_At p s m meth c b N9 xs) (cx : CallFix p m c cL_law 10 s #[Value.ref b] q_al RL) {g : q_G} {ad : Nat → Nat} {K : Nat → Nat} {L : List Nat} (hN : L.Nodup) (hLA : ∀ q, q ∈ L → s.heap.size ≤ q) (hX : q_X ad (fun q => q ∈ L) s) {f0 : Nat → va_E} {x : Nat} (hx : x ∈ L) (kx : K x = 11) {so : Nat} (hso : so ∈ L) (kso : K so = 8) {rd : Nat} (hrd : rd ∈ L) (krd : K rd = 9) {scr : Nat} (hscr : scr ∈ L) (kscr : K scr = 7) {fc : Nat} (hfc : fc ∈ L) (kfc : K fc = 1) {hist : Nat} (hhist : hist ∈ L) (khist : K hist = 2) {rep : Nat} (hrep : rep ∈ L) (krep : K rep = 6) {now : Nat} (hnow : now ∈ L) (know : K now = 10) {dr : Nat} (hdr : dr ∈ L) (kdr : K dr = 13) {sv : Nat} (hsv : sv ∈ L) (ksv : K sv = 14) {tr : Nat} (htr : tr ∈ L) (ktr : K tr = 15) {ba : Nat} (hba : ba ∈ L) (kba : K ba = 142) {nds : Nat} (hnds : nds ∈ L) (knds : K nds = 111) {mo : Nat} (hmo : mo ∈ L) (kmo : K mo = 12) {bu : Nat} (hbu : bu ∈ L) (kbu : K bu = 150) {sr : Nat} (hsr : sr ∈ L) (ksr : K sr = 151) {sd : Nat} (hsd : sd ∈ L) (ksd : K sd = 152) {as : Nat} (has : as ∈ L) (kas : K as = 153) {aw : Nat} (haw : aw ∈ L) (kaw : K aw = 154) {pa : Nat} (hpa : pa ∈ L) (kpa : K pa = 155) {nm : Nat} (hnm : nm ∈ L) (knm : K nm = 156) {snm : Nat} (hsnm : snm ∈ L) (ksnm : K snm = 157) {anm : Nat} (hanm : anm ∈ L) (kanm : K anm = 158) {hp : Nat} (hhp : hp ∈ L) (khp : K hp = 159) {dy : Nat} (hdy : dy ∈ L) (kdy : K dy = 160) {cs : Nat} (hcs : cs ∈ L) (kcs : K cs = 161) {c1 : Nat} (hc1 : c1 ∈ L) (kc1 : K c1 = 162) {c2 : Nat} (hc2 : c2 ∈ L) (kc2 : K c2 = 163) {c3 : Nat} (hc3 : c3 ∈ L) (kc3 : K c3 = 164) {bg : Nat} (hbg : bg ∈ L) (kbg : K bg = 165) {lp : Nat} (hlp : lp ∈ L) (klp : K lp = 166) {rp : Nat} (hrp : rp ∈ L) (krp : K rp = 167) {out : Nat} (hout : out ∈ L) (kout : K out = 168) {outD : Nat} (houtD : outD ∈ L) (koutD : K outD = 169) (hr0 : q_ir (q_r f0 x 0) so) (hr1 : q_ir (q_r f0 x 1) rd) (hr2 : q_ir (q_r f0 x 2) scr) (hr3 : q_ir (q_r f0 x 3) fc) (hr4 : q_ir (q_r f0 x 4) hist) (hr5 : q_ir (q_r f0 x 5) rep) (hr6 : q_ir (q_r f0 x 6) now) (hr7 : q_ir (q_r f0 x 7) dr) (hr8 : q_ir (q_r f0 x 8) sv) (hr9 : q_ir (q_r f0 fc 0) tr) (hr10 : q_ir (q_r f0 so 0) ba) (hr11 : q_ir (q_r f0 dr 0) nds) (hr12 : q_ir (q_r f0 mo 1) bu) (hr13 : q_ir (q_r f0 mo 13) sr) (hr14 : q_ir (q_r f0 mo 14) sd) (hr15 : q_ir (q_r f0 mo 15) as) (hr16 : q_ir (q_r f0 mo 16) aw) (hr17 : q_ir (q_r f0 mo 17) pa) (hr18 : q_ir (q_r f0 mo 18) nm) (hr19 : q_ir (q_r f0 mo 19) snm) (hr20 : q_ir (q_r f0 mo 20) anm) (hr21 : q_ir (q_r f0 mo 24) hp) (hr22 : q_ir (q_r f0 mo 25) dy) (hr23 : q_ir (q_r f0 mo 29) cs) (hr24 : q_ir (q_r f0 mo 30) c1) (hr25 : q_ir (q_r f0 mo 31) c2) (hr26 : q_ir (q_r f0 mo 32) c3) (hr27 : q_ir (q_r f0 mo 33) bg) (hr28 : q_ir (q_r f0 mo 34) lp) (hr29 : q_ir (q_r f0 mo 38) rp) (hij : tk_ij K L f0 nds) {f : Nat → va_E} {H : Heap} {locs : List Loc} {ls : Array Slot} {cells slots : Nat} {ii tn : Int} (hB : q_B g K L (fun q => s.heap.size ≤ q) [(0, 0, 6), (2, 1, 2), (3, 0, 4), (4, 0, 7), (5, 0, 9), (6, 1, 1), (7, 1, 4), (8, 1, 9), (9, 0, 2), (10, 3, 15), (11, 9, 9), (12, 0, 0), (12, 2, 12), (12, 21, 23), (12, 26, 28), (12, 35, 37), (12, 39, 40), (13, 3, 15), (14, 3, 15), (15, 3, 15), (16, 3, 15), (17, 0, 9), (18, 0, 9), (19, 0, 9), (20, 0, 9), (21, 0, 4), (22, 0, 4), (23, 0, 4), (24, 0, 4), (25, 0, 7), (26, 0, 7), (27, 0, 7), (28, 0, 7), (142, 0, 599), (143, 0, 599), (150, 0, 599), (151, 0, 657), (152, 0, 657), (153, 0, 657), (154, 0, 657), (155, 0, 3947), (156, 0, 9), (157, 0, 9), (158, 0, 9), (159, 0, 9), (160, 0, 9), (161, 0, 59), (162, 0, 58), (163, 0, 58), (164, 0, 58), (165, 0, 1), (166, 0, 1), (167, 0, 479), (168, 0, 0), (169, 0, 0)] f0 f s H locs) (hI : q_Iv4 f so mo sr pa sd bu ba tn) (hl : lv_has ls 10 [(5, .int (q_i ii)), (4, .ref outD), (3, .ref out), (2, .ref mo), (1, .ref x), (0, .ref b)]) (hi0 : 0 ≤ ii) (hi6 : ii + 6 ≤ N9) (hce : cells + 6 ≤ 10000) (hse : slots + 36 ≤ 100000) (kk : ∀ (f1 : Nat → va_E) (H1 : Heap) (locs1 : List Loc) (ls1 : Array Slot) (tn1 : Int), q_B g K L (fun q => s.heap.size ≤ q) [(0, 0, 6), (2, 1, 2), (3, 0, 4), (4, 0, 7), (5, 0, 9), (6, 1, 1), (7, 1, 4), (8, 1, 9), (9, 0, 2), (10, 3, 15), (11, 9, 9), (12, 0, 0), (12, 2, 12), (12, 21, 23), (12, 26, 28), (12, 35, 37), (12, 39, 40), (13, 3, 15), (14, 3, 15), (15, 3, 15), (16, 3, 15), (17, 0, 9), (18, 0, 9), (19, 0, 9), (20, 0, 9), (21, 0, 4), (22, 0, 4), (23, 0, 4), (24, 0, 4), (25, 0, 7), (26, 0, 7), (27, 0, 7), (28, 0, 7), (142, 0, 599), (143, 0, 599), (150, 0, 599), (151, 0, 657), (152, 0, 657), (153, 0, 657), (154, 0, 657), (155, 0, 3947), (156, 0, 9), (157, 0, 9), (158, 0, 9), (159, 0, 9), (160, 0, 9), (161, 0, 59), (162, 0, 58), (163, 0, 58), (164, 0, 58), (165, 0, 1), (166, 0, 1), (167, 0, 479), (168, 0, 0), (169, 0, 0)] f0 f1 s H1 locs1 → q_Iv4 f1 so mo sr pa sd bu ba tn1 → lv_has ls1 10 [(5, .int (q_i ii)), (4, .ref outD), (3, .ref out), (2, .ref mo), (1, .ref x), (0, .ref b)] → W p l e room_1 s m #[Value.ref b] below meth c H1 locs1 (cells + 6) (slots + 36) (lw_Z below #[Value.ref b] s) (F0 m 1521 ls1 [])) : W p l e room_1 s m #[Value.ref b] below meth c H locs (cells) (slots) (lw_Z below #[Value.ref b] s) (F0 m 397 ls []) := by
  have hXs := C0.2.2.2.2.2.2.1
  have hbl := C0.2.2.2.2.2.2.2.1
  have hbA := q_bA hbl
  obtain ⟨⟨hn0, hn1, ltn, utn⟩, hgr, hpk, hsd9, ht3, ht4, hbb⟩ := hI
  have hr0 : q_ir (q_r f x 0) so := Eq.trans (hB.2.2.r hx (by rw [kx]; rfl)) hr0
  have hr1 : q_ir (q_r f x 1) rd := Eq.trans (hB.2.2.r hx (by rw [kx]; rfl)) hr1
  have hr2 : q_ir (q_r f x 2) scr := Eq.trans (hB.2.2.r hx (by rw [kx]; rfl)) hr2
  have hr3 : q_ir (q_r f x 3) fc := Eq.trans (hB.2.2.r hx (by rw [kx]; rfl)) hr3
  have hr4 : q_ir (q_r f x 4) hist := Eq.trans (hB.2.2.r hx (by rw [kx]; rfl)) hr4
  have hr5 : q_ir (q_r f x 5) rep := Eq.trans (hB.2.2.r hx (by rw [kx]; rfl)) hr5
  have hr6 : q_ir (q_r f x 6) now := Eq.trans (hB.2.2.r hx (by rw [kx]; rfl)) hr6
  have hr7 : q_ir (q_r f x 7) dr := Eq.trans (hB.2.2.r hx (by rw [kx]; rfl)) hr7
  have hr8 : q_ir (q_r f x 8) sv := Eq.trans (hB.2.2.r hx (by rw [kx]; rfl)) hr8
  have hr9 : q_ir (q_r f fc 0) tr := Eq.trans (hB.2.2.r hfc (by rw [kfc]; rfl)) hr9
  have hr10 : q_ir (q_r f so 0) ba := Eq.trans (hB.2.2.r hso (by rw [kso]; rfl)) hr10
  have hr11 : q_ir (q_r f dr 0) nds := Eq.trans (hB.2.2.r hdr (by rw [kdr]; rfl)) hr11
  have hr12 : q_ir (q_r f mo 1) bu := Eq.trans (hB.2.2.r hmo (by rw [kmo]; rfl)) hr12
  have hr13 : q_ir (q_r f mo 13) sr := Eq.trans (hB.2.2.r hmo (by rw [kmo]; rfl)) hr13
  have hr14 : q_ir (q_r f mo 14) sd := Eq.trans (hB.2.2.r hmo (by rw [kmo]; rfl)) hr14
  have hr15 : q_ir (q_r f mo 15) as := Eq.trans (hB.2.2.r hmo (by rw [kmo]; rfl)) hr15
  have hr16 : q_ir (q_r f mo 16) aw := Eq.trans (hB.2.2.r hmo (by rw [kmo]; rfl)) hr16
  have hr17 : q_ir (q_r f mo 17) pa := Eq.trans (hB.2.2.r hmo (by rw [kmo]; rfl)) hr17
  have hr18 : q_ir (q_r f mo 18) nm := Eq.trans (hB.2.2.r hmo (by rw [kmo]; rfl)) hr18
  have hr19 : q_ir (q_r f mo 19) snm := Eq.trans (hB.2.2.r hmo (by rw [kmo]; rfl)) hr19
  have hr20 : q_ir (q_r f mo 20) anm := Eq.trans (hB.2.2.r hmo (by rw [kmo]; rfl)) hr20
  have hr21 : q_ir (q_r f mo 24) hp := Eq.trans (hB.2.2.r hmo (by rw [kmo]; rfl)) hr21
  have hr22 : q_ir (q_r f mo 25) dy := Eq.trans (hB.2.2.r hmo (by rw [kmo]; rfl)) hr22
  have hr23 : q_ir (q_r f mo 29) cs := Eq.trans (hB.2.2.r hmo (by rw [kmo]; rfl)) hr23
  have hr24 : q_ir (q_r f mo 30) c1 := Eq.trans (hB.2.2.r hmo (by rw [kmo]; rfl)) hr24
  have hr25 : q_ir (q_r f mo 31) c2 := Eq.trans (hB.2.2.r hmo (by rw [kmo]; rfl)) hr25
  have hr26 : q_ir (q_r f mo 32) c3 := Eq.trans (hB.2.2.r hmo (by rw [kmo]; rfl)) hr26
  have hr27 : q_ir (q_r f mo 33) bg := Eq.trans (hB.2.2.r hmo (by rw [kmo]; rfl)) hr27
  have hr28 : q_ir (q_r f mo 34) lp := Eq.trans (hB.2.2.r hmo (by rw [kmo]; rfl)) hr28
  have hr29 : q_ir (q_r f mo 38) rp := Eq.trans (hB.2.2.r hmo (by rw [kmo]; rfl)) hr29
  have hij : tk_ij K L f nds := tk_ij_tr hij (fun i9 => hB.2.2.r hnds (by rw [knds]; rfl))
  obtain ⟨x1, ex1⟩ : ∃ zz, q_is (q_z f sr 3) zz := ⟨_, q_isr _⟩
  obtain ⟨lx1, ux1⟩ : 0 ≤ x1 ∧ x1 ≤ 9999 := q_isb ex1 ⟨(hgr 3 (by decide)).1, ht3⟩
  obtain ⟨x2, ex2⟩ : ∃ zz, q_is (q_z f sr 4) zz := ⟨_, q_isr _⟩
  obtain ⟨lx2, ux2⟩ : 0 ≤ x2 ∧ x2 ≤ 60 := q_isb ex2 ⟨(hgr 4 (by decide)).1, ht4⟩
  refine q_ald_n cx dL_law_397 rfl (lv_at hl 4 rfl) ?_
  refine q_cVi (As := []) (rest := []) cx hB (fun q h => hLA q h) hN hx kx (by decide) rfl (x_errorPosition l g hN hB.2.1 x hx kx so hso kso rd hrd krd scr hscr kscr fc hfc kfc hist hhist khist rep hrep krep now hnow know dr hdr kdr sv hsv ksv tr htr ktr hr0 hr1 hr2 hr3 hr4 hr5 hr6 hr7 hr8 hr9) q_cL_142 q_dX11_errorPosition ⟨by decide, by show cells + 0 ≤ 601024; omega, by show slots + 0 ≤ 7293034; omega⟩ rfl rfl hl.1 rfl (Nat.le_of_ble_eq_true rfl) dL_law_398 (fun y4 H locs f3 ry4 h5 hF hB => ?_)
  obtain rfl := h5
  refine lv_pop cx.1 cx.2.1 dL_law_401 rfl ?_
  refine q_ald_n cx dL_law_402 rfl (lv_at hl 3 rfl) ?_
  refine q_cVi (As := []) (rest := []) cx hB (fun q h => hLA q h) hN hmo kmo (by decide) rfl (r_errorPosition l g hN hB.2.1 mo hmo kmo) q_cL_145 q_dX12_errorPosition ⟨by decide, by show cells + 0 ≤ 601024; omega, by show slots + 0 ≤ 7293034; omega⟩ rfl rfl hl.1 rfl (Nat.le_of_ble_eq_true rfl) dL_law_403 (fun y7 H locs f6 ry7 h8 hF hB => ?_)
  have z9 : q_is (q_z f6 so 1) tn := Eq.trans (hF.z hso (by rw [kso]; rfl)) hn0
  have z10 : q_is (q_z f6 mo 2) tn := Eq.trans (hF.z hmo (by rw [kmo]; rfl)) hn1
  have z11 : q_is (q_z f6 sr 3) x1 := Eq.trans (hF.z hsr (by rw [ksr]; rfl)) ex1
  have z12 : q_is (q_z f6 sr 4) x2 := Eq.trans (hF.z hsr (by rw [ksr]; rfl)) ex2
  have z13 : q_ir (q_r f6 x 0) so := Eq.trans (hF.r hx (by rw [kx]; rfl)) hr0
  have z14 : q_ir (q_r f6 x 1) rd := Eq.trans (hF.r hx (by rw [kx]; rfl)) hr1
  have z15 : q_ir (q_r f6 x 2) scr := Eq.trans (hF.r hx (by rw [kx]; rfl)) hr2
  have z16 : q_ir (q_r f6 x 3) fc := Eq.trans (hF.r hx (by rw [kx]; rfl)) hr3
  have z17 : q_ir (q_r f6 x 4) hist := Eq.trans (hF.r hx (by rw [kx]; rfl)) hr4
  have z18 : q_ir (q_r f6 x 5) rep := Eq.trans (hF.r hx (by rw [kx]; rfl)) hr5
  have z19 : q_ir (q_r f6 x 6) now := Eq.trans (hF.r hx (by rw [kx]; rfl)) hr6
  have z20 : q_ir (q_r f6 x 7) dr := Eq.trans (hF.r hx (by rw [kx]; rfl)) hr7
  have z21 : q_ir (q_r f6 x 8) sv := Eq.trans (hF.r hx (by rw [kx]; rfl)) hr8
  have z22 : q_ir (q_r f6 fc 0) tr := Eq.trans (hF.r hfc (by rw [kfc]; rfl)) hr9
  have z23 : q_ir (q_r f6 so 0) ba := Eq.trans (hF.r hso (by rw [kso]; rfl)) hr10
  have z24 : q_ir (q_r f6 dr 0) nds := Eq.trans (hF.r hdr (by rw [kdr]; rfl)) hr11
  have z25 : q_ir (q_r f6 mo 1) bu := Eq.trans (hF.r hmo (by rw [kmo]; rfl)) hr12
  have z26 : q_ir (q_r f6 mo 13) sr := Eq.trans (hF.r hmo (by rw [kmo]; rfl)) hr13
  have z27 : q_ir (q_r f6 mo 14) sd := Eq.trans (hF.r hmo (by rw [kmo]; rfl)) hr14
  have z28 : q_ir (q_r f6 mo 15) as := Eq.trans (hF.r hmo (by rw [kmo]; rfl)) hr15
  have z29 : q_ir (q_r f6 mo 16) aw := Eq.trans (hF.r hmo (by rw [kmo]; rfl)) hr16
  have z30 : q_ir (q_r f6 mo 17) pa := Eq.trans (hF.r hmo (by rw [kmo]; rfl)) hr17
  have z31 : q_ir (q_r f6 mo 18) nm := Eq.trans (hF.r hmo (by rw [kmo]; rfl)) hr18
  have z32 : q_ir (q_r f6 mo 19) snm := Eq.trans (hF.r hmo (by rw [kmo]; rfl)) hr19
  have z33 : q_ir (q_r f6 mo 20) anm := Eq.trans (hF.r hmo (by rw [kmo]; rfl)) hr20
  have z34 : q_ir (q_r f6 mo 24) hp := Eq.trans (hF.r hmo (by rw [kmo]; rfl)) hr21
  have z35 : q_ir (q_r f6 mo 25) dy := Eq.trans (hF.r hmo (by rw [kmo]; rfl)) hr22
  have z36 : q_ir (q_r f6 mo 29) cs := Eq.trans (hF.r hmo (by rw [kmo]; rfl)) hr23
  have z37 : q_ir (q_r f6 mo 30) c1 := Eq.trans (hF.r hmo (by rw [kmo]; rfl)) hr24
  have z38 : q_ir (q_r f6 mo 31) c2 := Eq.trans (hF.r hmo (by rw [kmo]; rfl)) hr25
  have z39 : q_ir (q_r f6 mo 32) c3 := Eq.trans (hF.r hmo (by rw [kmo]; rfl)) hr26
  have z40 : q_ir (q_r f6 mo 33) bg := Eq.trans (hF.r hmo (by rw [kmo]; rfl)) hr27
  have z41 : q_ir (q_r f6 mo 34) lp := Eq.trans (hF.r hmo (by rw [kmo]; rfl)) hr28
  have z42 : q_ir (q_r f6 mo 38) rp := Eq.trans (hF.r hmo (by rw [kmo]; rfl)) hr29
  have g43 : q_gr f6 sr := q_gr_fr hgr (fun i9 _ => hF.z hsr (by rw [ksr]; rfl))
  have g44 : q_pk f6 mo pa := q_pk_tr hpk (hF.z hmo (by rw [kmo]; rfl)) (fun i9 => hF.z hpa (by rw [kpa]; rfl))
  have g45 : q_sv f6 mo sd := q_sv_tr hsd9 (hF.z hmo (by rw [kmo]; rfl)) (fun i9 => hF.z hsd (by rw [ksd]; rfl))
  have g46 : tk_bb f6 bu ba tn := tk_bb_tr hbb (fun i9 => hF.z hbu (by rw [kbu]; rfl)) (fun i9 => hF.z hba (by rw [kba]; rfl))
  have g47 : tk_ij K L f6 nds := tk_ij_tr hij (fun i9 => hF.r hnds (by rw [knds]; rfl))
  refine lv_pop cx.1 cx.2.1 dL_law_406 rfl ?_
  refine lv_goto (tgt := 1521) cx.1 cx.2.1 dL_law_407 (by decide) ?_
  refine W.widen (k := cells + 6) (n := slots + 36) (by omega) (by omega) ?_
  exact kk f6 H locs ls tn hB ⟨⟨z9, (Eq.trans z10 (by omega)), by omega, by omega⟩, g43, g44, g45, q_isu z11 (by omega), q_isu z12 (by omega), tk_bb_le g46 (by omega)⟩ (lv_sub hl [0, 1, 2, 3, 4, 5] rfl)
