set_option maxHeartbeats 4000000 in
set_option maxRecDepth 100000 in
theorem law_c897 {p : Program} {l : Launch} {e : Env} {s : State} {m : MethodId} {below : List Frame} {meth : Method} {c : Code} {b N9 : Nat} {xs : Nat → Int32} (hfl : l.stackTraces = false) (hN9 : N9 ≤ 3072) (C0 : lw_At p s m meth c b N9 xs) (cx : CallFix p m c cL_law 10 s #[Value.ref b] q_al RL) {g : q_G} {ad : Nat → Nat} {K : Nat → Nat} {L : List Nat} (hN : L.Nodup) (hLA : ∀ q, q ∈ L → s.heap.size ≤ q) (hX : q_X ad (fun q => q ∈ L) s) {f0 : Nat → va_E} {x : Nat} (hx : x ∈ L) (kx : K x = 11) {so : Nat} (hso : so ∈ L) (kso : K so = 8) {rd : Nat} (hrd : rd ∈ L) (krd : K rd = 9) {scr : Nat} (hscr : scr ∈ L) (kscr : K scr = 7) {fc : Nat} (hfc : fc ∈ L) (kfc : K fc = 1) {hist : Nat} (hhist : hist ∈ L) (khist : K hist = 2) {rep : Nat} (hrep : rep ∈ L) (krep : K rep = 6) {now : Nat} (hnow : now ∈ L) (know : K now = 10) {dr : Nat} (hdr : dr ∈ L) (kdr : K dr = 13) {sv : Nat} (hsv : sv ∈ L) (ksv : K sv = 14) {tr : Nat} (htr : tr ∈ L) (ktr : K tr = 15) {ba : Nat} (hba : ba ∈ L) (kba : K ba = 142) {nds : Nat} (hnds : nds ∈ L) (knds : K nds = 111) {ka : Nat} (hka : ka ∈ L) (kka : K ka = 140) {ndn : Nat} (hndn : ndn ∈ L) (kndn : K ndn = 110) {nsv : Nat} (hnsv : nsv ∈ L) (knsv : K nsv = 112) {mo : Nat} (hmo : mo ∈ L) (kmo : K mo = 12) {bu : Nat} (hbu : bu ∈ L) (kbu : K bu = 150) {sr : Nat} (hsr : sr ∈ L) (ksr : K sr = 151) {sd : Nat} (hsd : sd ∈ L) (ksd : K sd = 152) {as : Nat} (has : as ∈ L) (kas : K as = 153) {aw : Nat} (haw : aw ∈ L) (kaw : K aw = 154) {pa : Nat} (hpa : pa ∈ L) (kpa : K pa = 155) {nm : Nat} (hnm : nm ∈ L) (knm : K nm = 156) {snm : Nat} (hsnm : snm ∈ L) (ksnm : K snm = 157) {anm : Nat} (hanm : anm ∈ L) (kanm : K anm = 158) {hp : Nat} (hhp : hp ∈ L) (khp : K hp = 159) {dy : Nat} (hdy : dy ∈ L) (kdy : K dy = 160) {cs : Nat} (hcs : cs ∈ L) (kcs : K cs = 161) {c1 : Nat} (hc1 : c1 ∈ L) (kc1 : K c1 = 162) {c2 : Nat} (hc2 : c2 ∈ L) (kc2 : K c2 = 163) {c3 : Nat} (hc3 : c3 ∈ L) (kc3 : K c3 = 164) {bg : Nat} (hbg : bg ∈ L) (kbg : K bg = 165) {lp : Nat} (hlp : lp ∈ L) (klp : K lp = 166) {rp : Nat} (hrp : rp ∈ L) (krp : K rp = 167) {out : Nat} (hout : out ∈ L) (kout : K out = 168) {outD : Nat} (houtD : outD ∈ L) (koutD : K outD = 169) (hr0 : q_ir (q_r f0 x 0) so) (hr1 : q_ir (q_r f0 x 1) rd) (hr2 : q_ir (q_r f0 x 2) scr) (hr3 : q_ir (q_r f0 x 3) fc) (hr4 : q_ir (q_r f0 x 4) hist) (hr5 : q_ir (q_r f0 x 5) rep) (hr6 : q_ir (q_r f0 x 6) now) (hr7 : q_ir (q_r f0 x 7) dr) (hr8 : q_ir (q_r f0 x 8) sv) (hr9 : q_ir (q_r f0 fc 0) tr) (hr10 : q_ir (q_r f0 so 0) ba) (hr11 : q_ir (q_r f0 dr 0) nds) (hr12 : q_ir (q_r f0 hist 0) ka) (hr13 : q_ir (q_r f0 now 0) ndn) (hr14 : q_ir (q_r f0 sv 0) nsv) (hr15 : q_ir (q_r f0 mo 1) bu) (hr16 : q_ir (q_r f0 mo 13) sr) (hr17 : q_ir (q_r f0 mo 14) sd) (hr18 : q_ir (q_r f0 mo 15) as) (hr19 : q_ir (q_r f0 mo 16) aw) (hr20 : q_ir (q_r f0 mo 17) pa) (hr21 : q_ir (q_r f0 mo 18) nm) (hr22 : q_ir (q_r f0 mo 19) snm) (hr23 : q_ir (q_r f0 mo 20) anm) (hr24 : q_ir (q_r f0 mo 24) hp) (hr25 : q_ir (q_r f0 mo 25) dy) (hr26 : q_ir (q_r f0 mo 29) cs) (hr27 : q_ir (q_r f0 mo 30) c1) (hr28 : q_ir (q_r f0 mo 31) c2) (hr29 : q_ir (q_r f0 mo 32) c3) (hr30 : q_ir (q_r f0 mo 33) bg) (hr31 : q_ir (q_r f0 mo 34) lp) (hr32 : q_ir (q_r f0 mo 38) rp) (hij : tk_ij K L f0 nds) {f : Nat → va_E} {H : Heap} {locs : List Loc} {ls : Array Slot} {cells slots : Nat} {ii tn : Int} {nl9 ls9 : List (List Int)} {xc : Int} (hB : q_B g K L (fun q => s.heap.size ≤ q) [(0, 0, 6), (2, 1, 2), (3, 0, 4), (4, 0, 7), (5, 0, 9), (6, 1, 1), (7, 1, 4), (8, 1, 9), (9, 0, 2), (10, 3, 15), (11, 9, 9), (12, 0, 0), (12, 2, 12), (12, 21, 23), (12, 26, 28), (12, 35, 37), (12, 39, 40), (13, 3, 15), (14, 3, 15), (15, 3, 15), (16, 3, 15), (17, 0, 9), (18, 0, 9), (19, 0, 9), (20, 0, 9), (21, 0, 4), (22, 0, 4), (23, 0, 4), (24, 0, 4), (25, 0, 7), (26, 0, 7), (27, 0, 7), (28, 0, 7), (142, 0, 599), (143, 0, 599), (150, 0, 599), (151, 0, 657), (152, 0, 657), (153, 0, 657), (154, 0, 657), (155, 0, 3947), (156, 0, 9), (157, 0, 9), (158, 0, 9), (159, 0, 9), (160, 0, 9), (161, 0, 59), (162, 0, 58), (163, 0, 58), (164, 0, 58), (165, 0, 1), (166, 0, 1), (167, 0, 479), (168, 0, 0), (169, 0, 0)] f0 f s H locs) (hI : q_Iv5 K L f x so mo sr pa sd bu ba now ndn hist ka sv nsv nm snm tn nl9 ls9 xc) (hl : lv_has ls 10 [(5, .int (q_i ii)), (4, .ref outD), (3, .ref out), (2, .ref mo), (1, .ref x), (0, .ref b)]) (hi0 : 0 ≤ ii) (hi6 : ii + 6 ≤ N9) (hce : cells + 6 ≤ 10000) (hse : slots + 36 ≤ 100000) (kk : ∀ (f1 : Nat → va_E) (H1 : Heap) (locs1 : List Loc) (ls1 : Array Slot) (tn1 : Int) (nl1 ls1_ : List (List Int)) (xc1 : Int), q_B g K L (fun q => s.heap.size ≤ q) [(0, 0, 6), (2, 1, 2), (3, 0, 4), (4, 0, 7), (5, 0, 9), (6, 1, 1), (7, 1, 4), (8, 1, 9), (9, 0, 2), (10, 3, 15), (11, 9, 9), (12, 0, 0), (12, 2, 12), (12, 21, 23), (12, 26, 28), (12, 35, 37), (12, 39, 40), (13, 3, 15), (14, 3, 15), (15, 3, 15), (16, 3, 15), (17, 0, 9), (18, 0, 9), (19, 0, 9), (20, 0, 9), (21, 0, 4), (22, 0, 4), (23, 0, 4), (24, 0, 4), (25, 0, 7), (26, 0, 7), (27, 0, 7), (28, 0, 7), (142, 0, 599), (143, 0, 599), (150, 0, 599), (151, 0, 657), (152, 0, 657), (153, 0, 657), (154, 0, 657), (155, 0, 3947), (156, 0, 9), (157, 0, 9), (158, 0, 9), (159, 0, 9), (160, 0, 9), (161, 0, 59), (162, 0, 58), (163, 0, 58), (164, 0, 58), (165, 0, 1), (166, 0, 1), (167, 0, 479), (168, 0, 0), (169, 0, 0)] f0 f1 s H1 locs1 → q_Iv5 K L f1 x so mo sr pa sd bu ba now ndn hist ka sv nsv nm snm tn1 nl1 ls1_ xc1 → lv_has ls1 10 [(5, .int (q_i ii)), (4, .ref outD), (3, .ref out), (2, .ref mo), (1, .ref x), (0, .ref b)] → W p l e room_1 s m #[Value.ref b] below meth c H1 locs1 (cells + 6) (slots + 36) (lw_Z below #[Value.ref b] s) (F0 m 1521 ls1 [])) : W p l e room_1 s m #[Value.ref b] below meth c H locs (cells) (slots) (lw_Z below #[Value.ref b] s) (F0 m 897 ls []) := by
  have hXs := C0.2.2.2.2.2.2.1
  have hbl := C0.2.2.2.2.2.2.2.1
  have hbA := q_bA hbl
  obtain ⟨⟨hn0, hn1, ltn, utn⟩, hgr, hpk, hsd9, ht3, ht4, hbb, hsr0, hxc, hvn, hvk, hvs, hrn9, hrs9, hpc, hs22⟩ := hI
  have lxc : 0 ≤ xc := by omega
  have uxc : xc ≤ 10 := by have h7 := hvn.2.1.2; omega
  have hr0 : q_ir (q_r f x 0) so := Eq.trans (hB.2.2.r hx (by rw [kx]; rfl)) hr0
  have hr1 : q_ir (q_r f x 1) rd := Eq.trans (hB.2.2.r hx (by rw [kx]; rfl)) hr1
  have hr2 : q_ir (q_r f x 2) scr := Eq.trans (hB.2.2.r hx (by rw [kx]; rfl)) hr2
  have hr3 : q_ir (q_r f x 3) fc := Eq.trans (hB.2.2.r hx (by rw [kx]; rfl)) hr3
  have hr4 : q_ir (q_r f x 4) hist := Eq.trans (hB.2.2.r hx (by rw [kx]; rfl)) hr4
  have hr5 : q_ir (q_r f x 5) rep := Eq.trans (hB.2.2.r hx (by rw [kx]; rfl)) hr5
  have hr6 : q_ir (q_r f x 6) now := Eq.trans (hB.2.2.r hx (by rw [kx]; rfl)) hr6
  have hr7 : q_ir (q_r f x 7) dr := Eq.trans (hB.2.2.r hx (by rw [kx]; rfl)) hr7
  have hr8 : q_ir (q_r f x 8) sv := Eq.trans (hB.2.2.r hx (by rw [kx]; rfl)) hr8
  have hr9 : q_ir (q_r f fc 0) tr := Eq.trans (hB.2.2.r hfc (by rw [kfc]; rfl)) hr9
  have hr10 : q_ir (q_r f so 0) ba := Eq.trans (hB.2.2.r hso (by rw [kso]; rfl)) hr10
  have hr11 : q_ir (q_r f dr 0) nds := Eq.trans (hB.2.2.r hdr (by rw [kdr]; rfl)) hr11
  have hr12 : q_ir (q_r f hist 0) ka := Eq.trans (hB.2.2.r hhist (by rw [khist]; rfl)) hr12
  have hr13 : q_ir (q_r f now 0) ndn := Eq.trans (hB.2.2.r hnow (by rw [know]; rfl)) hr13
  have hr14 : q_ir (q_r f sv 0) nsv := Eq.trans (hB.2.2.r hsv (by rw [ksv]; rfl)) hr14
  have hr15 : q_ir (q_r f mo 1) bu := Eq.trans (hB.2.2.r hmo (by rw [kmo]; rfl)) hr15
  have hr16 : q_ir (q_r f mo 13) sr := Eq.trans (hB.2.2.r hmo (by rw [kmo]; rfl)) hr16
  have hr17 : q_ir (q_r f mo 14) sd := Eq.trans (hB.2.2.r hmo (by rw [kmo]; rfl)) hr17
  have hr18 : q_ir (q_r f mo 15) as := Eq.trans (hB.2.2.r hmo (by rw [kmo]; rfl)) hr18
  have hr19 : q_ir (q_r f mo 16) aw := Eq.trans (hB.2.2.r hmo (by rw [kmo]; rfl)) hr19
  have hr20 : q_ir (q_r f mo 17) pa := Eq.trans (hB.2.2.r hmo (by rw [kmo]; rfl)) hr20
  have hr21 : q_ir (q_r f mo 18) nm := Eq.trans (hB.2.2.r hmo (by rw [kmo]; rfl)) hr21
  have hr22 : q_ir (q_r f mo 19) snm := Eq.trans (hB.2.2.r hmo (by rw [kmo]; rfl)) hr22
  have hr23 : q_ir (q_r f mo 20) anm := Eq.trans (hB.2.2.r hmo (by rw [kmo]; rfl)) hr23
  have hr24 : q_ir (q_r f mo 24) hp := Eq.trans (hB.2.2.r hmo (by rw [kmo]; rfl)) hr24
  have hr25 : q_ir (q_r f mo 25) dy := Eq.trans (hB.2.2.r hmo (by rw [kmo]; rfl)) hr25
  have hr26 : q_ir (q_r f mo 29) cs := Eq.trans (hB.2.2.r hmo (by rw [kmo]; rfl)) hr26
  have hr27 : q_ir (q_r f mo 30) c1 := Eq.trans (hB.2.2.r hmo (by rw [kmo]; rfl)) hr27
  have hr28 : q_ir (q_r f mo 31) c2 := Eq.trans (hB.2.2.r hmo (by rw [kmo]; rfl)) hr28
  have hr29 : q_ir (q_r f mo 32) c3 := Eq.trans (hB.2.2.r hmo (by rw [kmo]; rfl)) hr29
  have hr30 : q_ir (q_r f mo 33) bg := Eq.trans (hB.2.2.r hmo (by rw [kmo]; rfl)) hr30
  have hr31 : q_ir (q_r f mo 34) lp := Eq.trans (hB.2.2.r hmo (by rw [kmo]; rfl)) hr31
  have hr32 : q_ir (q_r f mo 38) rp := Eq.trans (hB.2.2.r hmo (by rw [kmo]; rfl)) hr32
  have hij : tk_ij K L f nds := tk_ij_tr hij (fun i9 => hB.2.2.r hnds (by rw [knds]; rfl))
  obtain ⟨x1, ex1⟩ : ∃ zz, q_is (q_z f sr 3) zz := ⟨_, q_isr _⟩
  obtain ⟨lx1, ux1⟩ : 0 ≤ x1 ∧ x1 ≤ 9999 := q_isb ex1 ⟨(hgr 3 (by decide)).1, ht3⟩
  obtain ⟨x2, ex2⟩ : ∃ zz, q_is (q_z f sr 4) zz := ⟨_, q_isr _⟩
  obtain ⟨lx2, ux2⟩ : 0 ≤ x2 ∧ x2 ≤ 60 := q_isb ex2 ⟨(hgr 4 (by decide)).1, ht4⟩
  refine q_ald_n cx dL_law_897 rfl (lv_at hl 4 rfl) ?_
  refine q_ald_n cx dL_law_898 rfl (lv_at hl 5 rfl) ?_
  refine lv_iload cx.1 cx.2.1 dL_law_899 (lv_at hl 0 rfl) ?_
  refine q_iconst cx dL_law_901 ?_
  refine q_iadd cx dL_law_902 ?_
  refine va_sld cx.1 cx.2.1 hXs hbl hbA hB.1.2.2.2 (q_in (by omega) (by omega) (by omega)) dL_law_903 ?_
  obtain ⟨a3, ra3, ea3⟩ : ∃ z : Int, q_R z ∧ xs (q_i (ii + 1)).toNatClampNeg = q_i z := ⟨_, q_rng _, (q_of _).symm⟩
  rw [ea3]
  refine q_ald_n cx dL_law_904 rfl (lv_at hl 5 rfl) ?_
  refine lv_iload cx.1 cx.2.1 dL_law_905 (lv_at hl 0 rfl) ?_
  refine q_iconst cx dL_law_907 ?_
  refine q_iadd cx dL_law_908 ?_
  refine va_sld cx.1 cx.2.1 hXs hbl hbA hB.1.2.2.2 (q_in (by omega) (by omega) (by omega)) dL_law_909 ?_
  obtain ⟨a4, ra4, ea4⟩ : ∃ z : Int, q_R z ∧ xs (q_i (ii + 2)).toNatClampNeg = q_i z := ⟨_, q_rng _, (q_of _).symm⟩
  rw [ea4]
  refine q_ald_n cx dL_law_910 rfl (lv_at hl 5 rfl) ?_
  refine lv_iload cx.1 cx.2.1 dL_law_911 (lv_at hl 0 rfl) ?_
  refine q_iconst cx dL_law_913 ?_
  refine q_iadd cx dL_law_914 ?_
  refine va_sld cx.1 cx.2.1 hXs hbl hbA hB.1.2.2.2 (q_in (by omega) (by omega) (by omega)) dL_law_915 ?_
  obtain ⟨a5, ra5, ea5⟩ : ∃ z : Int, q_R z ∧ xs (q_i (ii + 3)).toNatClampNeg = q_i z := ⟨_, q_rng _, (q_of _).symm⟩
  rw [ea5]
  refine q_ifeq (tgt := 923) cx ⟨by omega, by omega⟩ dL_law_916 (by decide) (fun c6 => ?_) (fun c6 => ?_)
  · refine q_iconst cx dL_law_923 ?_
    refine q_ald_n cx dL_law_924 rfl (lv_at hl 2 rfl) ?_
    refine q_cWS (As := [.ref x, .int (q_i a3), .int (q_i a4), .int (q_i 0), .ref out]) (rest := []) cx hX hB (fun q h => hLA q h) (fun q h1 h2 => absurd h1 (Nat.not_le_of_lt h2)) hN (w_wouldArrive l g ad hN hB.2.1 hfl x hx kx a3 (by omega) (by omega) a4 (by omega) (by omega) 0 (by decide) (by decide) out hout kout so hso kso rd hrd krd scr hscr kscr fc hfc kfc hist hhist khist rep hrep krep now hnow know dr hdr kdr sv hsv ksv tr htr ktr hr0 hr1 hr2 hr3 hr4 hr5 hr6 hr7 hr8 hr9) q_cL_201 q_dL_wouldArrive ⟨by decide, by show cells + 3 ≤ 601024; omega, by show slots + 18 ≤ 7293034; omega⟩ rfl rfl hl.1 rfl (Nat.le_of_ble_eq_true rfl) dL_law_925 (fun v9 H locs f7 h9 hF hB => ?_)
    obtain ⟨y8, rfl, ry8, h9⟩ := h9
    refine W.eq (g2 := F0 m 928 ls [.int (q_i y8)]) rfl ?_
    obtain ⟨ly8, uy8⟩ := h9
    have z10 : q_is (q_z f7 so 1) tn := Eq.trans (hF.z hso (by rw [kso]; rfl)) hn0
    have z11 : q_is (q_z f7 mo 2) tn := Eq.trans (hF.z hmo (by rw [kmo]; rfl)) hn1
    have z12 : q_is (q_z f7 sr 0) xc := Eq.trans (hF.z hsr (by rw [ksr]; rfl)) hsr0
    have z13 : q_is (q_z f7 sr 3) x1 := Eq.trans (hF.z hsr (by rw [ksr]; rfl)) ex1
    have z14 : q_is (q_z f7 sr 4) x2 := Eq.trans (hF.z hsr (by rw [ksr]; rfl)) ex2
    have z15 : q_ir (q_r f7 x 0) so := Eq.trans (hF.r hx (by rw [kx]; rfl)) hr0
    have z16 : q_ir (q_r f7 x 1) rd := Eq.trans (hF.r hx (by rw [kx]; rfl)) hr1
    have z17 : q_ir (q_r f7 x 2) scr := Eq.trans (hF.r hx (by rw [kx]; rfl)) hr2
    have z18 : q_ir (q_r f7 x 3) fc := Eq.trans (hF.r hx (by rw [kx]; rfl)) hr3
    have z19 : q_ir (q_r f7 x 4) hist := Eq.trans (hF.r hx (by rw [kx]; rfl)) hr4
    have z20 : q_ir (q_r f7 x 5) rep := Eq.trans (hF.r hx (by rw [kx]; rfl)) hr5
    have z21 : q_ir (q_r f7 x 6) now := Eq.trans (hF.r hx (by rw [kx]; rfl)) hr6
    have z22 : q_ir (q_r f7 x 7) dr := Eq.trans (hF.r hx (by rw [kx]; rfl)) hr7
    have z23 : q_ir (q_r f7 x 8) sv := Eq.trans (hF.r hx (by rw [kx]; rfl)) hr8
    have z24 : q_ir (q_r f7 fc 0) tr := Eq.trans (hF.r hfc (by rw [kfc]; rfl)) hr9
    have z25 : q_ir (q_r f7 so 0) ba := Eq.trans (hF.r hso (by rw [kso]; rfl)) hr10
    have z26 : q_ir (q_r f7 dr 0) nds := Eq.trans (hF.r hdr (by rw [kdr]; rfl)) hr11
    have z27 : q_ir (q_r f7 hist 0) ka := Eq.trans (hF.r hhist (by rw [khist]; rfl)) hr12
    have z28 : q_ir (q_r f7 now 0) ndn := Eq.trans (hF.r hnow (by rw [know]; rfl)) hr13
    have z29 : q_ir (q_r f7 sv 0) nsv := Eq.trans (hF.r hsv (by rw [ksv]; rfl)) hr14
    have z30 : q_ir (q_r f7 mo 1) bu := Eq.trans (hF.r hmo (by rw [kmo]; rfl)) hr15
    have z31 : q_ir (q_r f7 mo 13) sr := Eq.trans (hF.r hmo (by rw [kmo]; rfl)) hr16
    have z32 : q_ir (q_r f7 mo 14) sd := Eq.trans (hF.r hmo (by rw [kmo]; rfl)) hr17
    have z33 : q_ir (q_r f7 mo 15) as := Eq.trans (hF.r hmo (by rw [kmo]; rfl)) hr18
    have z34 : q_ir (q_r f7 mo 16) aw := Eq.trans (hF.r hmo (by rw [kmo]; rfl)) hr19
    have z35 : q_ir (q_r f7 mo 17) pa := Eq.trans (hF.r hmo (by rw [kmo]; rfl)) hr20
    have z36 : q_ir (q_r f7 mo 18) nm := Eq.trans (hF.r hmo (by rw [kmo]; rfl)) hr21
    have z37 : q_ir (q_r f7 mo 19) snm := Eq.trans (hF.r hmo (by rw [kmo]; rfl)) hr22
    have z38 : q_ir (q_r f7 mo 20) anm := Eq.trans (hF.r hmo (by rw [kmo]; rfl)) hr23
    have z39 : q_ir (q_r f7 mo 24) hp := Eq.trans (hF.r hmo (by rw [kmo]; rfl)) hr24
    have z40 : q_ir (q_r f7 mo 25) dy := Eq.trans (hF.r hmo (by rw [kmo]; rfl)) hr25
    have z41 : q_ir (q_r f7 mo 29) cs := Eq.trans (hF.r hmo (by rw [kmo]; rfl)) hr26
    have z42 : q_ir (q_r f7 mo 30) c1 := Eq.trans (hF.r hmo (by rw [kmo]; rfl)) hr27
    have z43 : q_ir (q_r f7 mo 31) c2 := Eq.trans (hF.r hmo (by rw [kmo]; rfl)) hr28
    have z44 : q_ir (q_r f7 mo 32) c3 := Eq.trans (hF.r hmo (by rw [kmo]; rfl)) hr29
    have z45 : q_ir (q_r f7 mo 33) bg := Eq.trans (hF.r hmo (by rw [kmo]; rfl)) hr30
    have z46 : q_ir (q_r f7 mo 34) lp := Eq.trans (hF.r hmo (by rw [kmo]; rfl)) hr31
    have z47 : q_ir (q_r f7 mo 38) rp := Eq.trans (hF.r hmo (by rw [kmo]; rfl)) hr32
    have g48 : q_gr f7 sr := q_gr_fr hgr (fun i9 _ => hF.z hsr (by rw [ksr]; rfl))
    have g49 : q_z f7 x 9 = q_z f7 mo 22 := tk_s2_tr hs22 (hF.z hx (by rw [kx]; rfl)) (hF.z hmo (by rw [kmo]; rfl))
    have g50 : q_pk f7 mo pa := q_pk_tr hpk (hF.z hmo (by rw [kmo]; rfl)) (fun i9 => hF.z hpa (by rw [kpa]; rfl))
    have g51 : q_sv f7 mo sd := q_sv_tr hsd9 (hF.z hmo (by rw [kmo]; rfl)) (fun i9 => hF.z hsd (by rw [ksd]; rfl))
    have g52 : tk_bb f7 bu ba tn := tk_bb_tr hbb (fun i9 => hF.z hbu (by rw [kbu]; rfl)) (fun i9 => hF.z hba (by rw [kba]; rfl))
    have g53 : tk_ij K L f7 nds := tk_ij_tr hij (fun i9 => hF.r hnds (by rw [knds]; rfl))
    have g54 : tk_vn K L 5 f7 now ndn nl9 := tk_vn_tr hvn (hF.z hnow (by rw [know]; rfl)) (fun a9 h9 k9 => hF.j h9 (by rw [k9]; rfl)) (fun i9 => hF.r hndn (by rw [kndn]; rfl))
    have g55 : tk_vk K L f7 hist ka now ndn := tk_vk_tr hvk (hF.z hhist (by rw [khist]; rfl)) (hF.z hhist (by rw [khist]; rfl)) (hF.z hnow (by rw [know]; rfl)) (fun a9 h9 k9 => hF.j h9 (by rw [k9]; rfl)) (fun i9 => hF.r hndn (by rw [kndn]; rfl)) (fun a9 h9 k9 => hF.z h9 (by rw [k9]; rfl)) (fun a9 h9 k9 => hF.j h9 (by rw [k9]; rfl)) (fun i9 => hF.r hka (by rw [kka]; rfl)) (fun a9 h9 k9 => hF.r h9 (by rw [k9]; rfl)) (fun a9 h9 k9 i9 => hF.r h9 (by rw [k9]; rfl))
    have g56 : tk_vs K L f7 x sv nsv ls9 := tk_vs_tr hvs (hF.z hx (by rw [kx]; rfl)) (hF.z hsv (by rw [ksv]; rfl)) (fun a9 h9 k9 => hF.j h9 (by rw [k9]; rfl)) (fun i9 => hF.r hnsv (by rw [knsv]; rfl))
    have g57 : tk_nq f7 nm nl9 := tk_nq_tr hrn9 (fun i9 => hF.j hnm (by rw [knm]; rfl))
    have g58 : tk_rs f7 mo sd snm ls9 := tk_rs_tr hrs9 (hF.z hmo (by rw [kmo]; rfl)) (fun i9 h9 k9 => hF.z hsd (by rw [ksd]; exact q_inWr rfl h9 k9)) (fun i9 => hF.j hsnm (by rw [ksnm]; rfl))
    have g59 : q_pc f7 mo pa xc := q_pc_tr hpc (hF.z hmo (by rw [kmo]; rfl)) (fun i9 => hF.z hpa (by rw [kpa]; rfl))
    refine lv_istore (lv' := [(6, .int (q_i y8)), (5, .int (q_i ii)), (4, .ref outD), (3, .ref out), (2, .ref mo), (1, .ref x), (0, .ref b)]) cx.1 cx.2.1 dL_law_928 hl (by decide) rfl (fun ls hl => ?_)
    refine q_ald_n cx dL_law_930 rfl (lv_at hl 4 rfl) ?_
    refine q_ald_n cx dL_law_931 rfl (lv_at hl 6 rfl) ?_
    refine lv_iload cx.1 cx.2.1 dL_law_932 (lv_at hl 1 rfl) ?_
    refine q_iconst cx dL_law_934 ?_
    refine q_iadd cx dL_law_935 ?_
    refine va_sld cx.1 cx.2.1 hXs hbl hbA hB.1.2.2.2 (q_in (by omega) (by omega) (by omega)) dL_law_936 ?_
    rw [ea3]
    refine q_ald_n cx dL_law_937 rfl (lv_at hl 6 rfl) ?_
    refine lv_iload cx.1 cx.2.1 dL_law_938 (lv_at hl 1 rfl) ?_
    refine q_iconst cx dL_law_940 ?_
    refine q_iadd cx dL_law_941 ?_
    refine va_sld cx.1 cx.2.1 hXs hbl hbA hB.1.2.2.2 (q_in (by omega) (by omega) (by omega)) dL_law_942 ?_
    rw [ea4]
    refine q_ald_n cx dL_law_943 rfl (lv_at hl 6 rfl) ?_
    refine lv_iload cx.1 cx.2.1 dL_law_944 (lv_at hl 1 rfl) ?_
    refine q_iconst cx dL_law_946 ?_
    refine q_iadd cx dL_law_947 ?_
    refine va_sld cx.1 cx.2.1 hXs hbl hbA hB.1.2.2.2 (q_in (by omega) (by omega) (by omega)) dL_law_948 ?_
    rw [ea5]
    refine q_ifeq (tgt := 956) cx ⟨by omega, by omega⟩ dL_law_949 (by decide) (fun c60 => ?_) (fun c60 => ?_)
    · refine q_iconst cx dL_law_956 ?_
      refine q_cVi (As := [.int (q_i a3), .int (q_i a4), .int (q_i 0)]) (rest := []) cx hB (fun q h => hLA q h) hN hmo kmo (by decide) rfl (r_wouldArrive l g hN hB.2.1 mo hmo kmo a3 (by omega) (by omega) a4 (by omega) (by omega) 0 (by decide) (by decide) sr hsr ksr hp hhp khp dy hdy kdy aw haw kaw x1 (by omega) (by omega) x2 (by omega) (by omega) xc (by omega) (by omega) z13 z14 z12 z31 z39 z40 z34 g48) q_cL_204 q_dX12_wouldArrive ⟨by decide, by show cells + 3 ≤ 601024; omega, by show slots + 18 ≤ 7293034; omega⟩ rfl rfl hl.1 rfl (Nat.le_of_ble_eq_true rfl) dL_law_957 (fun y62 H locs f61 ry62 h63 hF hB => ?_)
      obtain ⟨ly62, uy62, lz64, uz64, lz65, uz65, z66, g67⟩ := h63
      have z68 : q_is (q_z f61 so 1) tn := Eq.trans (hF.z hso (by rw [kso]; rfl)) z10
      have z69 : q_is (q_z f61 mo 2) tn := Eq.trans (hF.z hmo (by rw [kmo]; rfl)) z11
      have z70 : q_ir (q_r f61 x 0) so := Eq.trans (hF.r hx (by rw [kx]; rfl)) z15
      have z71 : q_ir (q_r f61 x 1) rd := Eq.trans (hF.r hx (by rw [kx]; rfl)) z16
      have z72 : q_ir (q_r f61 x 2) scr := Eq.trans (hF.r hx (by rw [kx]; rfl)) z17
      have z73 : q_ir (q_r f61 x 3) fc := Eq.trans (hF.r hx (by rw [kx]; rfl)) z18
      have z74 : q_ir (q_r f61 x 4) hist := Eq.trans (hF.r hx (by rw [kx]; rfl)) z19
      have z75 : q_ir (q_r f61 x 5) rep := Eq.trans (hF.r hx (by rw [kx]; rfl)) z20
      have z76 : q_ir (q_r f61 x 6) now := Eq.trans (hF.r hx (by rw [kx]; rfl)) z21
      have z77 : q_ir (q_r f61 x 7) dr := Eq.trans (hF.r hx (by rw [kx]; rfl)) z22
      have z78 : q_ir (q_r f61 x 8) sv := Eq.trans (hF.r hx (by rw [kx]; rfl)) z23
      have z79 : q_ir (q_r f61 fc 0) tr := Eq.trans (hF.r hfc (by rw [kfc]; rfl)) z24
      have z80 : q_ir (q_r f61 so 0) ba := Eq.trans (hF.r hso (by rw [kso]; rfl)) z25
      have z81 : q_ir (q_r f61 dr 0) nds := Eq.trans (hF.r hdr (by rw [kdr]; rfl)) z26
      have z82 : q_ir (q_r f61 hist 0) ka := Eq.trans (hF.r hhist (by rw [khist]; rfl)) z27
      have z83 : q_ir (q_r f61 now 0) ndn := Eq.trans (hF.r hnow (by rw [know]; rfl)) z28
      have z84 : q_ir (q_r f61 sv 0) nsv := Eq.trans (hF.r hsv (by rw [ksv]; rfl)) z29
      have z85 : q_ir (q_r f61 mo 1) bu := Eq.trans (hF.r hmo (by rw [kmo]; rfl)) z30
      have z86 : q_ir (q_r f61 mo 13) sr := Eq.trans (hF.r hmo (by rw [kmo]; rfl)) z31
      have z87 : q_ir (q_r f61 mo 14) sd := Eq.trans (hF.r hmo (by rw [kmo]; rfl)) z32
      have z88 : q_ir (q_r f61 mo 15) as := Eq.trans (hF.r hmo (by rw [kmo]; rfl)) z33
      have z89 : q_ir (q_r f61 mo 16) aw := Eq.trans (hF.r hmo (by rw [kmo]; rfl)) z34
      have z90 : q_ir (q_r f61 mo 17) pa := Eq.trans (hF.r hmo (by rw [kmo]; rfl)) z35
      have z91 : q_ir (q_r f61 mo 18) nm := Eq.trans (hF.r hmo (by rw [kmo]; rfl)) z36
      have z92 : q_ir (q_r f61 mo 19) snm := Eq.trans (hF.r hmo (by rw [kmo]; rfl)) z37
      have z93 : q_ir (q_r f61 mo 20) anm := Eq.trans (hF.r hmo (by rw [kmo]; rfl)) z38
      have z94 : q_ir (q_r f61 mo 24) hp := Eq.trans (hF.r hmo (by rw [kmo]; rfl)) z39
      have z95 : q_ir (q_r f61 mo 25) dy := Eq.trans (hF.r hmo (by rw [kmo]; rfl)) z40
      have z96 : q_ir (q_r f61 mo 29) cs := Eq.trans (hF.r hmo (by rw [kmo]; rfl)) z41
      have z97 : q_ir (q_r f61 mo 30) c1 := Eq.trans (hF.r hmo (by rw [kmo]; rfl)) z42
      have z98 : q_ir (q_r f61 mo 31) c2 := Eq.trans (hF.r hmo (by rw [kmo]; rfl)) z43
      have z99 : q_ir (q_r f61 mo 32) c3 := Eq.trans (hF.r hmo (by rw [kmo]; rfl)) z44
      have z100 : q_ir (q_r f61 mo 33) bg := Eq.trans (hF.r hmo (by rw [kmo]; rfl)) z45
      have z101 : q_ir (q_r f61 mo 34) lp := Eq.trans (hF.r hmo (by rw [kmo]; rfl)) z46
      have z102 : q_ir (q_r f61 mo 38) rp := Eq.trans (hF.r hmo (by rw [kmo]; rfl)) z47
      have g103 : q_z f61 x 9 = q_z f61 mo 22 := tk_s2_tr g49 (hF.z hx (by rw [kx]; rfl)) (hF.z hmo (by rw [kmo]; rfl))
      have g104 : q_pk f61 mo pa := q_pk_tr g50 (hF.z hmo (by rw [kmo]; rfl)) (fun i9 => hF.z hpa (by rw [kpa]; rfl))
      have g105 : q_sv f61 mo sd := q_sv_tr g51 (hF.z hmo (by rw [kmo]; rfl)) (fun i9 => hF.z hsd (by rw [ksd]; rfl))
      have g106 : tk_bb f61 bu ba tn := tk_bb_tr g52 (fun i9 => hF.z hbu (by rw [kbu]; rfl)) (fun i9 => hF.z hba (by rw [kba]; rfl))
      have g107 : tk_ij K L f61 nds := tk_ij_tr g53 (fun i9 => hF.r hnds (by rw [knds]; rfl))
      have g108 : tk_vn K L 5 f61 now ndn nl9 := tk_vn_tr g54 (hF.z hnow (by rw [know]; rfl)) (fun a9 h9 k9 => hF.j h9 (by rw [k9]; rfl)) (fun i9 => hF.r hndn (by rw [kndn]; rfl))
      have g109 : tk_vk K L f61 hist ka now ndn := tk_vk_tr g55 (hF.z hhist (by rw [khist]; rfl)) (hF.z hhist (by rw [khist]; rfl)) (hF.z hnow (by rw [know]; rfl)) (fun a9 h9 k9 => hF.j h9 (by rw [k9]; rfl)) (fun i9 => hF.r hndn (by rw [kndn]; rfl)) (fun a9 h9 k9 => hF.z h9 (by rw [k9]; rfl)) (fun a9 h9 k9 => hF.j h9 (by rw [k9]; rfl)) (fun i9 => hF.r hka (by rw [kka]; rfl)) (fun a9 h9 k9 => hF.r h9 (by rw [k9]; rfl)) (fun a9 h9 k9 i9 => hF.r h9 (by rw [k9]; rfl))
      have g110 : tk_vs K L f61 x sv nsv ls9 := tk_vs_tr g56 (hF.z hx (by rw [kx]; rfl)) (hF.z hsv (by rw [ksv]; rfl)) (fun a9 h9 k9 => hF.j h9 (by rw [k9]; rfl)) (fun i9 => hF.r hnsv (by rw [knsv]; rfl))
      have g111 : tk_nq f61 nm nl9 := tk_nq_tr g57 (fun i9 => hF.j hnm (by rw [knm]; rfl))
      have g112 : tk_rs f61 mo sd snm ls9 := tk_rs_tr g58 (hF.z hmo (by rw [kmo]; rfl)) (fun i9 h9 k9 => hF.z hsd (by rw [ksd]; exact q_inWr rfl h9 k9)) (fun i9 => hF.j hsnm (by rw [ksnm]; rfl))
      have g113 : q_pc f61 mo pa xc := q_pc_tr g59 (hF.z hmo (by rw [kmo]; rfl)) (fun i9 => hF.z hpa (by rw [kpa]; rfl))
      obtain ⟨x114, ex114⟩ : ∃ zz, q_is (q_z f61 sr 3) zz := ⟨_, q_isr _⟩
      obtain ⟨lx114, ux114⟩ := q_isb ex114 ⟨lz64, uz64⟩
      obtain ⟨x115, ex115⟩ : ∃ zz, q_is (q_z f61 sr 4) zz := ⟨_, q_isr _⟩
      obtain ⟨lx115, ux115⟩ := q_isb ex115 ⟨lz65, uz65⟩
      refine lv_istore (lv' := [(7, .int (q_i y62)), (6, .int (q_i y8)), (5, .int (q_i ii)), (4, .ref outD), (3, .ref out), (2, .ref mo), (1, .ref x), (0, .ref b)]) cx.1 cx.2.1 dL_law_960 hl (by decide) rfl (fun ls hl => ?_)
      refine lv_goto (tgt := 1521) cx.1 cx.2.1 dL_law_962 (by decide) ?_
      refine W.widen (k := cells + 6) (n := slots + 36) (by omega) (by omega) ?_
      exact kk f61 H locs ls tn nl9 ls9 xc hB ⟨⟨z68, (Eq.trans z69 (by omega)), by omega, by omega⟩, g67, g104, g105, q_isu ex114 (by omega), q_isu ex115 (by omega), tk_bb_le g106 (by omega), z66, by omega, g108, g109, g110, g111, g112, g113, g103⟩ (lv_sub hl [2, 3, 4, 5, 6, 7] rfl)
    · exact absurd c60 (by omega)
  · refine q_iconst cx dL_law_919 ?_
    refine lv_goto (tgt := 924) cx.1 cx.2.1 dL_law_920 (by decide) ?_
    refine q_ald_n cx dL_law_924 rfl (lv_at hl 2 rfl) ?_
    refine q_cWS (As := [.ref x, .int (q_i a3), .int (q_i a4), .int (q_i 1), .ref out]) (rest := []) cx hX hB (fun q h => hLA q h) (fun q h1 h2 => absurd h1 (Nat.not_le_of_lt h2)) hN (w_wouldArrive l g ad hN hB.2.1 hfl x hx kx a3 (by omega) (by omega) a4 (by omega) (by omega) 1 (by decide) (by decide) out hout kout so hso kso rd hrd krd scr hscr kscr fc hfc kfc hist hhist khist rep hrep krep now hnow know dr hdr kdr sv hsv ksv tr htr ktr hr0 hr1 hr2 hr3 hr4 hr5 hr6 hr7 hr8 hr9) q_cL_201 q_dL_wouldArrive ⟨by decide, by show cells + 3 ≤ 601024; omega, by show slots + 18 ≤ 7293034; omega⟩ rfl rfl hl.1 rfl (Nat.le_of_ble_eq_true rfl) dL_law_925 (fun v9 H locs f116 h118 hF hB => ?_)
    obtain ⟨y117, rfl, ry117, h118⟩ := h118
    refine W.eq (g2 := F0 m 928 ls [.int (q_i y117)]) rfl ?_
    obtain ⟨ly117, uy117⟩ := h118
    have z119 : q_is (q_z f116 so 1) tn := Eq.trans (hF.z hso (by rw [kso]; rfl)) hn0
    have z120 : q_is (q_z f116 mo 2) tn := Eq.trans (hF.z hmo (by rw [kmo]; rfl)) hn1
    have z121 : q_is (q_z f116 sr 0) xc := Eq.trans (hF.z hsr (by rw [ksr]; rfl)) hsr0
    have z122 : q_is (q_z f116 sr 3) x1 := Eq.trans (hF.z hsr (by rw [ksr]; rfl)) ex1
    have z123 : q_is (q_z f116 sr 4) x2 := Eq.trans (hF.z hsr (by rw [ksr]; rfl)) ex2
    have z124 : q_ir (q_r f116 x 0) so := Eq.trans (hF.r hx (by rw [kx]; rfl)) hr0
    have z125 : q_ir (q_r f116 x 1) rd := Eq.trans (hF.r hx (by rw [kx]; rfl)) hr1
    have z126 : q_ir (q_r f116 x 2) scr := Eq.trans (hF.r hx (by rw [kx]; rfl)) hr2
    have z127 : q_ir (q_r f116 x 3) fc := Eq.trans (hF.r hx (by rw [kx]; rfl)) hr3
    have z128 : q_ir (q_r f116 x 4) hist := Eq.trans (hF.r hx (by rw [kx]; rfl)) hr4
    have z129 : q_ir (q_r f116 x 5) rep := Eq.trans (hF.r hx (by rw [kx]; rfl)) hr5
    have z130 : q_ir (q_r f116 x 6) now := Eq.trans (hF.r hx (by rw [kx]; rfl)) hr6
    have z131 : q_ir (q_r f116 x 7) dr := Eq.trans (hF.r hx (by rw [kx]; rfl)) hr7
    have z132 : q_ir (q_r f116 x 8) sv := Eq.trans (hF.r hx (by rw [kx]; rfl)) hr8
    have z133 : q_ir (q_r f116 fc 0) tr := Eq.trans (hF.r hfc (by rw [kfc]; rfl)) hr9
    have z134 : q_ir (q_r f116 so 0) ba := Eq.trans (hF.r hso (by rw [kso]; rfl)) hr10
    have z135 : q_ir (q_r f116 dr 0) nds := Eq.trans (hF.r hdr (by rw [kdr]; rfl)) hr11
    have z136 : q_ir (q_r f116 hist 0) ka := Eq.trans (hF.r hhist (by rw [khist]; rfl)) hr12
    have z137 : q_ir (q_r f116 now 0) ndn := Eq.trans (hF.r hnow (by rw [know]; rfl)) hr13
    have z138 : q_ir (q_r f116 sv 0) nsv := Eq.trans (hF.r hsv (by rw [ksv]; rfl)) hr14
    have z139 : q_ir (q_r f116 mo 1) bu := Eq.trans (hF.r hmo (by rw [kmo]; rfl)) hr15
    have z140 : q_ir (q_r f116 mo 13) sr := Eq.trans (hF.r hmo (by rw [kmo]; rfl)) hr16
    have z141 : q_ir (q_r f116 mo 14) sd := Eq.trans (hF.r hmo (by rw [kmo]; rfl)) hr17
    have z142 : q_ir (q_r f116 mo 15) as := Eq.trans (hF.r hmo (by rw [kmo]; rfl)) hr18
    have z143 : q_ir (q_r f116 mo 16) aw := Eq.trans (hF.r hmo (by rw [kmo]; rfl)) hr19
    have z144 : q_ir (q_r f116 mo 17) pa := Eq.trans (hF.r hmo (by rw [kmo]; rfl)) hr20
    have z145 : q_ir (q_r f116 mo 18) nm := Eq.trans (hF.r hmo (by rw [kmo]; rfl)) hr21
    have z146 : q_ir (q_r f116 mo 19) snm := Eq.trans (hF.r hmo (by rw [kmo]; rfl)) hr22
    have z147 : q_ir (q_r f116 mo 20) anm := Eq.trans (hF.r hmo (by rw [kmo]; rfl)) hr23
    have z148 : q_ir (q_r f116 mo 24) hp := Eq.trans (hF.r hmo (by rw [kmo]; rfl)) hr24
    have z149 : q_ir (q_r f116 mo 25) dy := Eq.trans (hF.r hmo (by rw [kmo]; rfl)) hr25
    have z150 : q_ir (q_r f116 mo 29) cs := Eq.trans (hF.r hmo (by rw [kmo]; rfl)) hr26
    have z151 : q_ir (q_r f116 mo 30) c1 := Eq.trans (hF.r hmo (by rw [kmo]; rfl)) hr27
    have z152 : q_ir (q_r f116 mo 31) c2 := Eq.trans (hF.r hmo (by rw [kmo]; rfl)) hr28
    have z153 : q_ir (q_r f116 mo 32) c3 := Eq.trans (hF.r hmo (by rw [kmo]; rfl)) hr29
    have z154 : q_ir (q_r f116 mo 33) bg := Eq.trans (hF.r hmo (by rw [kmo]; rfl)) hr30
    have z155 : q_ir (q_r f116 mo 34) lp := Eq.trans (hF.r hmo (by rw [kmo]; rfl)) hr31
    have z156 : q_ir (q_r f116 mo 38) rp := Eq.trans (hF.r hmo (by rw [kmo]; rfl)) hr32
    have g157 : q_gr f116 sr := q_gr_fr hgr (fun i9 _ => hF.z hsr (by rw [ksr]; rfl))
    have g158 : q_z f116 x 9 = q_z f116 mo 22 := tk_s2_tr hs22 (hF.z hx (by rw [kx]; rfl)) (hF.z hmo (by rw [kmo]; rfl))
    have g159 : q_pk f116 mo pa := q_pk_tr hpk (hF.z hmo (by rw [kmo]; rfl)) (fun i9 => hF.z hpa (by rw [kpa]; rfl))
    have g160 : q_sv f116 mo sd := q_sv_tr hsd9 (hF.z hmo (by rw [kmo]; rfl)) (fun i9 => hF.z hsd (by rw [ksd]; rfl))
    have g161 : tk_bb f116 bu ba tn := tk_bb_tr hbb (fun i9 => hF.z hbu (by rw [kbu]; rfl)) (fun i9 => hF.z hba (by rw [kba]; rfl))
    have g162 : tk_ij K L f116 nds := tk_ij_tr hij (fun i9 => hF.r hnds (by rw [knds]; rfl))
    have g163 : tk_vn K L 5 f116 now ndn nl9 := tk_vn_tr hvn (hF.z hnow (by rw [know]; rfl)) (fun a9 h9 k9 => hF.j h9 (by rw [k9]; rfl)) (fun i9 => hF.r hndn (by rw [kndn]; rfl))
    have g164 : tk_vk K L f116 hist ka now ndn := tk_vk_tr hvk (hF.z hhist (by rw [khist]; rfl)) (hF.z hhist (by rw [khist]; rfl)) (hF.z hnow (by rw [know]; rfl)) (fun a9 h9 k9 => hF.j h9 (by rw [k9]; rfl)) (fun i9 => hF.r hndn (by rw [kndn]; rfl)) (fun a9 h9 k9 => hF.z h9 (by rw [k9]; rfl)) (fun a9 h9 k9 => hF.j h9 (by rw [k9]; rfl)) (fun i9 => hF.r hka (by rw [kka]; rfl)) (fun a9 h9 k9 => hF.r h9 (by rw [k9]; rfl)) (fun a9 h9 k9 i9 => hF.r h9 (by rw [k9]; rfl))
    have g165 : tk_vs K L f116 x sv nsv ls9 := tk_vs_tr hvs (hF.z hx (by rw [kx]; rfl)) (hF.z hsv (by rw [ksv]; rfl)) (fun a9 h9 k9 => hF.j h9 (by rw [k9]; rfl)) (fun i9 => hF.r hnsv (by rw [knsv]; rfl))
    have g166 : tk_nq f116 nm nl9 := tk_nq_tr hrn9 (fun i9 => hF.j hnm (by rw [knm]; rfl))
    have g167 : tk_rs f116 mo sd snm ls9 := tk_rs_tr hrs9 (hF.z hmo (by rw [kmo]; rfl)) (fun i9 h9 k9 => hF.z hsd (by rw [ksd]; exact q_inWr rfl h9 k9)) (fun i9 => hF.j hsnm (by rw [ksnm]; rfl))
    have g168 : q_pc f116 mo pa xc := q_pc_tr hpc (hF.z hmo (by rw [kmo]; rfl)) (fun i9 => hF.z hpa (by rw [kpa]; rfl))
    refine lv_istore (lv' := [(6, .int (q_i y117)), (5, .int (q_i ii)), (4, .ref outD), (3, .ref out), (2, .ref mo), (1, .ref x), (0, .ref b)]) cx.1 cx.2.1 dL_law_928 hl (by decide) rfl (fun ls hl => ?_)
    refine q_ald_n cx dL_law_930 rfl (lv_at hl 4 rfl) ?_
    refine q_ald_n cx dL_law_931 rfl (lv_at hl 6 rfl) ?_
    refine lv_iload cx.1 cx.2.1 dL_law_932 (lv_at hl 1 rfl) ?_
    refine q_iconst cx dL_law_934 ?_
    refine q_iadd cx dL_law_935 ?_
    refine va_sld cx.1 cx.2.1 hXs hbl hbA hB.1.2.2.2 (q_in (by omega) (by omega) (by omega)) dL_law_936 ?_
    rw [ea3]
    refine q_ald_n cx dL_law_937 rfl (lv_at hl 6 rfl) ?_
    refine lv_iload cx.1 cx.2.1 dL_law_938 (lv_at hl 1 rfl) ?_
    refine q_iconst cx dL_law_940 ?_
    refine q_iadd cx dL_law_941 ?_
    refine va_sld cx.1 cx.2.1 hXs hbl hbA hB.1.2.2.2 (q_in (by omega) (by omega) (by omega)) dL_law_942 ?_
    rw [ea4]
    refine q_ald_n cx dL_law_943 rfl (lv_at hl 6 rfl) ?_
    refine lv_iload cx.1 cx.2.1 dL_law_944 (lv_at hl 1 rfl) ?_
    refine q_iconst cx dL_law_946 ?_
    refine q_iadd cx dL_law_947 ?_
    refine va_sld cx.1 cx.2.1 hXs hbl hbA hB.1.2.2.2 (q_in (by omega) (by omega) (by omega)) dL_law_948 ?_
    rw [ea5]
    refine q_ifeq (tgt := 956) cx ⟨by omega, by omega⟩ dL_law_949 (by decide) (fun c169 => ?_) (fun c169 => ?_)
    · refine q_iconst cx dL_law_956 ?_
      refine q_cVi (As := [.int (q_i a3), .int (q_i a4), .int (q_i 0)]) (rest := []) cx hB (fun q h => hLA q h) hN hmo kmo (by decide) rfl (r_wouldArrive l g hN hB.2.1 mo hmo kmo a3 (by omega) (by omega) a4 (by omega) (by omega) 0 (by decide) (by decide) sr hsr ksr hp hhp khp dy hdy kdy aw haw kaw x1 (by omega) (by omega) x2 (by omega) (by omega) xc (by omega) (by omega) z122 z123 z121 z140 z148 z149 z143 g157) q_cL_204 q_dX12_wouldArrive ⟨by decide, by show cells + 3 ≤ 601024; omega, by show slots + 18 ≤ 7293034; omega⟩ rfl rfl hl.1 rfl (Nat.le_of_ble_eq_true rfl) dL_law_957 (fun y171 H locs f170 ry171 h172 hF hB => ?_)
      obtain ⟨ly171, uy171, lz173, uz173, lz174, uz174, z175, g176⟩ := h172
      have z177 : q_is (q_z f170 so 1) tn := Eq.trans (hF.z hso (by rw [kso]; rfl)) z119
      have z178 : q_is (q_z f170 mo 2) tn := Eq.trans (hF.z hmo (by rw [kmo]; rfl)) z120
      have z179 : q_ir (q_r f170 x 0) so := Eq.trans (hF.r hx (by rw [kx]; rfl)) z124
      have z180 : q_ir (q_r f170 x 1) rd := Eq.trans (hF.r hx (by rw [kx]; rfl)) z125
      have z181 : q_ir (q_r f170 x 2) scr := Eq.trans (hF.r hx (by rw [kx]; rfl)) z126
      have z182 : q_ir (q_r f170 x 3) fc := Eq.trans (hF.r hx (by rw [kx]; rfl)) z127
      have z183 : q_ir (q_r f170 x 4) hist := Eq.trans (hF.r hx (by rw [kx]; rfl)) z128
      have z184 : q_ir (q_r f170 x 5) rep := Eq.trans (hF.r hx (by rw [kx]; rfl)) z129
      have z185 : q_ir (q_r f170 x 6) now := Eq.trans (hF.r hx (by rw [kx]; rfl)) z130
      have z186 : q_ir (q_r f170 x 7) dr := Eq.trans (hF.r hx (by rw [kx]; rfl)) z131
      have z187 : q_ir (q_r f170 x 8) sv := Eq.trans (hF.r hx (by rw [kx]; rfl)) z132
      have z188 : q_ir (q_r f170 fc 0) tr := Eq.trans (hF.r hfc (by rw [kfc]; rfl)) z133
      have z189 : q_ir (q_r f170 so 0) ba := Eq.trans (hF.r hso (by rw [kso]; rfl)) z134
      have z190 : q_ir (q_r f170 dr 0) nds := Eq.trans (hF.r hdr (by rw [kdr]; rfl)) z135
      have z191 : q_ir (q_r f170 hist 0) ka := Eq.trans (hF.r hhist (by rw [khist]; rfl)) z136
      have z192 : q_ir (q_r f170 now 0) ndn := Eq.trans (hF.r hnow (by rw [know]; rfl)) z137
      have z193 : q_ir (q_r f170 sv 0) nsv := Eq.trans (hF.r hsv (by rw [ksv]; rfl)) z138
      have z194 : q_ir (q_r f170 mo 1) bu := Eq.trans (hF.r hmo (by rw [kmo]; rfl)) z139
      have z195 : q_ir (q_r f170 mo 13) sr := Eq.trans (hF.r hmo (by rw [kmo]; rfl)) z140
      have z196 : q_ir (q_r f170 mo 14) sd := Eq.trans (hF.r hmo (by rw [kmo]; rfl)) z141
      have z197 : q_ir (q_r f170 mo 15) as := Eq.trans (hF.r hmo (by rw [kmo]; rfl)) z142
      have z198 : q_ir (q_r f170 mo 16) aw := Eq.trans (hF.r hmo (by rw [kmo]; rfl)) z143
      have z199 : q_ir (q_r f170 mo 17) pa := Eq.trans (hF.r hmo (by rw [kmo]; rfl)) z144
      have z200 : q_ir (q_r f170 mo 18) nm := Eq.trans (hF.r hmo (by rw [kmo]; rfl)) z145
      have z201 : q_ir (q_r f170 mo 19) snm := Eq.trans (hF.r hmo (by rw [kmo]; rfl)) z146
      have z202 : q_ir (q_r f170 mo 20) anm := Eq.trans (hF.r hmo (by rw [kmo]; rfl)) z147
      have z203 : q_ir (q_r f170 mo 24) hp := Eq.trans (hF.r hmo (by rw [kmo]; rfl)) z148
      have z204 : q_ir (q_r f170 mo 25) dy := Eq.trans (hF.r hmo (by rw [kmo]; rfl)) z149
      have z205 : q_ir (q_r f170 mo 29) cs := Eq.trans (hF.r hmo (by rw [kmo]; rfl)) z150
      have z206 : q_ir (q_r f170 mo 30) c1 := Eq.trans (hF.r hmo (by rw [kmo]; rfl)) z151
      have z207 : q_ir (q_r f170 mo 31) c2 := Eq.trans (hF.r hmo (by rw [kmo]; rfl)) z152
      have z208 : q_ir (q_r f170 mo 32) c3 := Eq.trans (hF.r hmo (by rw [kmo]; rfl)) z153
      have z209 : q_ir (q_r f170 mo 33) bg := Eq.trans (hF.r hmo (by rw [kmo]; rfl)) z154
      have z210 : q_ir (q_r f170 mo 34) lp := Eq.trans (hF.r hmo (by rw [kmo]; rfl)) z155
      have z211 : q_ir (q_r f170 mo 38) rp := Eq.trans (hF.r hmo (by rw [kmo]; rfl)) z156
      have g212 : q_z f170 x 9 = q_z f170 mo 22 := tk_s2_tr g158 (hF.z hx (by rw [kx]; rfl)) (hF.z hmo (by rw [kmo]; rfl))
      have g213 : q_pk f170 mo pa := q_pk_tr g159 (hF.z hmo (by rw [kmo]; rfl)) (fun i9 => hF.z hpa (by rw [kpa]; rfl))
      have g214 : q_sv f170 mo sd := q_sv_tr g160 (hF.z hmo (by rw [kmo]; rfl)) (fun i9 => hF.z hsd (by rw [ksd]; rfl))
      have g215 : tk_bb f170 bu ba tn := tk_bb_tr g161 (fun i9 => hF.z hbu (by rw [kbu]; rfl)) (fun i9 => hF.z hba (by rw [kba]; rfl))
      have g216 : tk_ij K L f170 nds := tk_ij_tr g162 (fun i9 => hF.r hnds (by rw [knds]; rfl))
      have g217 : tk_vn K L 5 f170 now ndn nl9 := tk_vn_tr g163 (hF.z hnow (by rw [know]; rfl)) (fun a9 h9 k9 => hF.j h9 (by rw [k9]; rfl)) (fun i9 => hF.r hndn (by rw [kndn]; rfl))
      have g218 : tk_vk K L f170 hist ka now ndn := tk_vk_tr g164 (hF.z hhist (by rw [khist]; rfl)) (hF.z hhist (by rw [khist]; rfl)) (hF.z hnow (by rw [know]; rfl)) (fun a9 h9 k9 => hF.j h9 (by rw [k9]; rfl)) (fun i9 => hF.r hndn (by rw [kndn]; rfl)) (fun a9 h9 k9 => hF.z h9 (by rw [k9]; rfl)) (fun a9 h9 k9 => hF.j h9 (by rw [k9]; rfl)) (fun i9 => hF.r hka (by rw [kka]; rfl)) (fun a9 h9 k9 => hF.r h9 (by rw [k9]; rfl)) (fun a9 h9 k9 i9 => hF.r h9 (by rw [k9]; rfl))
      have g219 : tk_vs K L f170 x sv nsv ls9 := tk_vs_tr g165 (hF.z hx (by rw [kx]; rfl)) (hF.z hsv (by rw [ksv]; rfl)) (fun a9 h9 k9 => hF.j h9 (by rw [k9]; rfl)) (fun i9 => hF.r hnsv (by rw [knsv]; rfl))
      have g220 : tk_nq f170 nm nl9 := tk_nq_tr g166 (fun i9 => hF.j hnm (by rw [knm]; rfl))
      have g221 : tk_rs f170 mo sd snm ls9 := tk_rs_tr g167 (hF.z hmo (by rw [kmo]; rfl)) (fun i9 h9 k9 => hF.z hsd (by rw [ksd]; exact q_inWr rfl h9 k9)) (fun i9 => hF.j hsnm (by rw [ksnm]; rfl))
      have g222 : q_pc f170 mo pa xc := q_pc_tr g168 (hF.z hmo (by rw [kmo]; rfl)) (fun i9 => hF.z hpa (by rw [kpa]; rfl))
      obtain ⟨x223, ex223⟩ : ∃ zz, q_is (q_z f170 sr 3) zz := ⟨_, q_isr _⟩
      obtain ⟨lx223, ux223⟩ := q_isb ex223 ⟨lz173, uz173⟩
      obtain ⟨x224, ex224⟩ : ∃ zz, q_is (q_z f170 sr 4) zz := ⟨_, q_isr _⟩
      obtain ⟨lx224, ux224⟩ := q_isb ex224 ⟨lz174, uz174⟩
      refine lv_istore (lv' := [(7, .int (q_i y171)), (6, .int (q_i y117)), (5, .int (q_i ii)), (4, .ref outD), (3, .ref out), (2, .ref mo), (1, .ref x), (0, .ref b)]) cx.1 cx.2.1 dL_law_960 hl (by decide) rfl (fun ls hl => ?_)
      refine lv_goto (tgt := 1521) cx.1 cx.2.1 dL_law_962 (by decide) ?_
      refine W.widen (k := cells + 6) (n := slots + 36) (by omega) (by omega) ?_
      exact kk f170 H locs ls tn nl9 ls9 xc hB ⟨⟨z177, (Eq.trans z178 (by omega)), by omega, by omega⟩, g176, g213, g214, q_isu ex223 (by omega), q_isu ex224 (by omega), tk_bb_le g215 (by omega), z175, by omega, g217, g218, g219, g220, g221, g222, g212⟩ (lv_sub hl [2, 3, 4, 5, 6, 7] rfl)
    · refine q_iconst cx dL_law_952 ?_
      refine lv_goto (tgt := 957) cx.1 cx.2.1 dL_law_953 (by decide) ?_
      refine q_cVi (As := [.int (q_i a3), .int (q_i a4), .int (q_i 1)]) (rest := []) cx hB (fun q h => hLA q h) hN hmo kmo (by decide) rfl (r_wouldArrive l g hN hB.2.1 mo hmo kmo a3 (by omega) (by omega) a4 (by omega) (by omega) 1 (by decide) (by decide) sr hsr ksr hp hhp khp dy hdy kdy aw haw kaw x1 (by omega) (by omega) x2 (by omega) (by omega) xc (by omega) (by omega) z122 z123 z121 z140 z148 z149 z143 g157) q_cL_204 q_dX12_wouldArrive ⟨by decide, by show cells + 3 ≤ 601024; omega, by show slots + 18 ≤ 7293034; omega⟩ rfl rfl hl.1 rfl (Nat.le_of_ble_eq_true rfl) dL_law_957 (fun y226 H locs f225 ry226 h227 hF hB => ?_)
      obtain ⟨ly226, uy226, lz228, uz228, lz229, uz229, z230, g231⟩ := h227
      have z232 : q_is (q_z f225 so 1) tn := Eq.trans (hF.z hso (by rw [kso]; rfl)) z119
      have z233 : q_is (q_z f225 mo 2) tn := Eq.trans (hF.z hmo (by rw [kmo]; rfl)) z120
      have z234 : q_ir (q_r f225 x 0) so := Eq.trans (hF.r hx (by rw [kx]; rfl)) z124
      have z235 : q_ir (q_r f225 x 1) rd := Eq.trans (hF.r hx (by rw [kx]; rfl)) z125
      have z236 : q_ir (q_r f225 x 2) scr := Eq.trans (hF.r hx (by rw [kx]; rfl)) z126
      have z237 : q_ir (q_r f225 x 3) fc := Eq.trans (hF.r hx (by rw [kx]; rfl)) z127
      have z238 : q_ir (q_r f225 x 4) hist := Eq.trans (hF.r hx (by rw [kx]; rfl)) z128
      have z239 : q_ir (q_r f225 x 5) rep := Eq.trans (hF.r hx (by rw [kx]; rfl)) z129
      have z240 : q_ir (q_r f225 x 6) now := Eq.trans (hF.r hx (by rw [kx]; rfl)) z130
      have z241 : q_ir (q_r f225 x 7) dr := Eq.trans (hF.r hx (by rw [kx]; rfl)) z131
      have z242 : q_ir (q_r f225 x 8) sv := Eq.trans (hF.r hx (by rw [kx]; rfl)) z132
      have z243 : q_ir (q_r f225 fc 0) tr := Eq.trans (hF.r hfc (by rw [kfc]; rfl)) z133
      have z244 : q_ir (q_r f225 so 0) ba := Eq.trans (hF.r hso (by rw [kso]; rfl)) z134
      have z245 : q_ir (q_r f225 dr 0) nds := Eq.trans (hF.r hdr (by rw [kdr]; rfl)) z135
      have z246 : q_ir (q_r f225 hist 0) ka := Eq.trans (hF.r hhist (by rw [khist]; rfl)) z136
      have z247 : q_ir (q_r f225 now 0) ndn := Eq.trans (hF.r hnow (by rw [know]; rfl)) z137
      have z248 : q_ir (q_r f225 sv 0) nsv := Eq.trans (hF.r hsv (by rw [ksv]; rfl)) z138
      have z249 : q_ir (q_r f225 mo 1) bu := Eq.trans (hF.r hmo (by rw [kmo]; rfl)) z139
      have z250 : q_ir (q_r f225 mo 13) sr := Eq.trans (hF.r hmo (by rw [kmo]; rfl)) z140
      have z251 : q_ir (q_r f225 mo 14) sd := Eq.trans (hF.r hmo (by rw [kmo]; rfl)) z141
      have z252 : q_ir (q_r f225 mo 15) as := Eq.trans (hF.r hmo (by rw [kmo]; rfl)) z142
      have z253 : q_ir (q_r f225 mo 16) aw := Eq.trans (hF.r hmo (by rw [kmo]; rfl)) z143
      have z254 : q_ir (q_r f225 mo 17) pa := Eq.trans (hF.r hmo (by rw [kmo]; rfl)) z144
      have z255 : q_ir (q_r f225 mo 18) nm := Eq.trans (hF.r hmo (by rw [kmo]; rfl)) z145
      have z256 : q_ir (q_r f225 mo 19) snm := Eq.trans (hF.r hmo (by rw [kmo]; rfl)) z146
      have z257 : q_ir (q_r f225 mo 20) anm := Eq.trans (hF.r hmo (by rw [kmo]; rfl)) z147
      have z258 : q_ir (q_r f225 mo 24) hp := Eq.trans (hF.r hmo (by rw [kmo]; rfl)) z148
      have z259 : q_ir (q_r f225 mo 25) dy := Eq.trans (hF.r hmo (by rw [kmo]; rfl)) z149
      have z260 : q_ir (q_r f225 mo 29) cs := Eq.trans (hF.r hmo (by rw [kmo]; rfl)) z150
      have z261 : q_ir (q_r f225 mo 30) c1 := Eq.trans (hF.r hmo (by rw [kmo]; rfl)) z151
      have z262 : q_ir (q_r f225 mo 31) c2 := Eq.trans (hF.r hmo (by rw [kmo]; rfl)) z152
      have z263 : q_ir (q_r f225 mo 32) c3 := Eq.trans (hF.r hmo (by rw [kmo]; rfl)) z153
      have z264 : q_ir (q_r f225 mo 33) bg := Eq.trans (hF.r hmo (by rw [kmo]; rfl)) z154
      have z265 : q_ir (q_r f225 mo 34) lp := Eq.trans (hF.r hmo (by rw [kmo]; rfl)) z155
      have z266 : q_ir (q_r f225 mo 38) rp := Eq.trans (hF.r hmo (by rw [kmo]; rfl)) z156
      have g267 : q_z f225 x 9 = q_z f225 mo 22 := tk_s2_tr g158 (hF.z hx (by rw [kx]; rfl)) (hF.z hmo (by rw [kmo]; rfl))
      have g268 : q_pk f225 mo pa := q_pk_tr g159 (hF.z hmo (by rw [kmo]; rfl)) (fun i9 => hF.z hpa (by rw [kpa]; rfl))
      have g269 : q_sv f225 mo sd := q_sv_tr g160 (hF.z hmo (by rw [kmo]; rfl)) (fun i9 => hF.z hsd (by rw [ksd]; rfl))
      have g270 : tk_bb f225 bu ba tn := tk_bb_tr g161 (fun i9 => hF.z hbu (by rw [kbu]; rfl)) (fun i9 => hF.z hba (by rw [kba]; rfl))
      have g271 : tk_ij K L f225 nds := tk_ij_tr g162 (fun i9 => hF.r hnds (by rw [knds]; rfl))
      have g272 : tk_vn K L 5 f225 now ndn nl9 := tk_vn_tr g163 (hF.z hnow (by rw [know]; rfl)) (fun a9 h9 k9 => hF.j h9 (by rw [k9]; rfl)) (fun i9 => hF.r hndn (by rw [kndn]; rfl))
      have g273 : tk_vk K L f225 hist ka now ndn := tk_vk_tr g164 (hF.z hhist (by rw [khist]; rfl)) (hF.z hhist (by rw [khist]; rfl)) (hF.z hnow (by rw [know]; rfl)) (fun a9 h9 k9 => hF.j h9 (by rw [k9]; rfl)) (fun i9 => hF.r hndn (by rw [kndn]; rfl)) (fun a9 h9 k9 => hF.z h9 (by rw [k9]; rfl)) (fun a9 h9 k9 => hF.j h9 (by rw [k9]; rfl)) (fun i9 => hF.r hka (by rw [kka]; rfl)) (fun a9 h9 k9 => hF.r h9 (by rw [k9]; rfl)) (fun a9 h9 k9 i9 => hF.r h9 (by rw [k9]; rfl))
      have g274 : tk_vs K L f225 x sv nsv ls9 := tk_vs_tr g165 (hF.z hx (by rw [kx]; rfl)) (hF.z hsv (by rw [ksv]; rfl)) (fun a9 h9 k9 => hF.j h9 (by rw [k9]; rfl)) (fun i9 => hF.r hnsv (by rw [knsv]; rfl))
      have g275 : tk_nq f225 nm nl9 := tk_nq_tr g166 (fun i9 => hF.j hnm (by rw [knm]; rfl))
      have g276 : tk_rs f225 mo sd snm ls9 := tk_rs_tr g167 (hF.z hmo (by rw [kmo]; rfl)) (fun i9 h9 k9 => hF.z hsd (by rw [ksd]; exact q_inWr rfl h9 k9)) (fun i9 => hF.j hsnm (by rw [ksnm]; rfl))
      have g277 : q_pc f225 mo pa xc := q_pc_tr g168 (hF.z hmo (by rw [kmo]; rfl)) (fun i9 => hF.z hpa (by rw [kpa]; rfl))
      obtain ⟨x278, ex278⟩ : ∃ zz, q_is (q_z f225 sr 3) zz := ⟨_, q_isr _⟩
      obtain ⟨lx278, ux278⟩ := q_isb ex278 ⟨lz228, uz228⟩
      obtain ⟨x279, ex279⟩ : ∃ zz, q_is (q_z f225 sr 4) zz := ⟨_, q_isr _⟩
      obtain ⟨lx279, ux279⟩ := q_isb ex279 ⟨lz229, uz229⟩
      refine lv_istore (lv' := [(7, .int (q_i y226)), (6, .int (q_i y117)), (5, .int (q_i ii)), (4, .ref outD), (3, .ref out), (2, .ref mo), (1, .ref x), (0, .ref b)]) cx.1 cx.2.1 dL_law_960 hl (by decide) rfl (fun ls hl => ?_)
      refine lv_goto (tgt := 1521) cx.1 cx.2.1 dL_law_962 (by decide) ?_
      refine W.widen (k := cells + 6) (n := slots + 36) (by omega) (by omega) ?_
      exact kk f225 H locs ls tn nl9 ls9 xc hB ⟨⟨z232, (Eq.trans z233 (by omega)), by omega, by omega⟩, g231, g268, g269, q_isu ex278 (by omega), q_isu ex279 (by omega), tk_bb_le g270 (by omega), z230, by omega, g272, g273, g274, g275, g276, g277, g267⟩ (lv_sub hl [2, 3, 4, 5, 6, 7] rfl)
set_option maxHeartbeats 4000000 in
set_option maxRecDepth 100000 in
theorem law_c965 {p : Program} {l : Launch} {e : Env} {s : State} {m : MethodId} {below : List Frame} {meth : Method} {c : Code} {b N9 : Nat} {xs : Nat → Int32} (hfl : l.stackTraces = false) (hN9 : N9 ≤ 3072) (C0 : lw_At p s m meth c b N9 xs) (cx : CallFix p m c cL_law 10 s #[Value.ref b] q_al RL) {g : q_G} {ad : Nat → Nat} {K : Nat → Nat} {L : List Nat} (hN : L.Nodup) (hLA : ∀ q, q ∈ L → s.heap.size ≤ q) (hX : q_X ad (fun q => q ∈ L) s) {f0 : Nat → va_E} {x : Nat} (hx : x ∈ L) (kx : K x = 11) {so : Nat} (hso : so ∈ L) (kso : K so = 8) {rd : Nat} (hrd : rd ∈ L) (krd : K rd = 9) {scr : Nat} (hscr : scr ∈ L) (kscr : K scr = 7) {fc : Nat} (hfc : fc ∈ L) (kfc : K fc = 1) {hist : Nat} (hhist : hist ∈ L) (khist : K hist = 2) {rep : Nat} (hrep : rep ∈ L) (krep : K rep = 6) {now : Nat} (hnow : now ∈ L) (know : K now = 10) {dr : Nat} (hdr : dr ∈ L) (kdr : K dr = 13) {sv : Nat} (hsv : sv ∈ L) (ksv : K sv = 14) {tr : Nat} (htr : tr ∈ L) (ktr : K tr = 15) {ba : Nat} (hba : ba ∈ L) (kba : K ba = 142) {nds : Nat} (hnds : nds ∈ L) (knds : K nds = 111) {ka : Nat} (hka : ka ∈ L) (kka : K ka = 140) {ndn : Nat} (hndn : ndn ∈ L) (kndn : K ndn = 110) {nsv : Nat} (hnsv : nsv ∈ L) (knsv : K nsv = 112) {mo : Nat} (hmo : mo ∈ L) (kmo : K mo = 12) {bu : Nat} (hbu : bu ∈ L) (kbu : K bu = 150) {sr : Nat} (hsr : sr ∈ L) (ksr : K sr = 151) {sd : Nat} (hsd : sd ∈ L) (ksd : K sd = 152) {as : Nat} (has : as ∈ L) (kas : K as = 153) {aw : Nat} (haw : aw ∈ L) (kaw : K aw = 154) {pa : Nat} (hpa : pa ∈ L) (kpa : K pa = 155) {nm : Nat} (hnm : nm ∈ L) (knm : K nm = 156) {snm : Nat} (hsnm : snm ∈ L) (ksnm : K snm = 157) {anm : Nat} (hanm : anm ∈ L) (kanm : K anm = 158) {hp : Nat} (hhp : hp ∈ L) (khp : K hp = 159) {dy : Nat} (hdy : dy ∈ L) (kdy : K dy = 160) {cs : Nat} (hcs : cs ∈ L) (kcs : K cs = 161) {c1 : Nat} (hc1 : c1 ∈ L) (kc1 : K c1 = 162) {c2 : Nat} (hc2 : c2 ∈ L) (kc2 : K c2 = 163) {c3 : Nat} (hc3 : c3 ∈ L) (kc3 : K c3 = 164) {bg : Nat} (hbg : bg ∈ L) (kbg : K bg = 165) {lp : Nat} (hlp : lp ∈ L) (klp : K lp = 166) {rp : Nat} (hrp : rp ∈ L) (krp : K rp = 167) {out : Nat} (hout : out ∈ L) (kout : K out = 168) {outD : Nat} (houtD : outD ∈ L) (koutD : K outD = 169) (hr0 : q_ir (q_r f0 x 0) so) (hr1 : q_ir (q_r f0 x 1) rd) (hr2 : q_ir (q_r f0 x 2) scr) (hr3 : q_ir (q_r f0 x 3) fc) (hr4 : q_ir (q_r f0 x 4) hist) (hr5 : q_ir (q_r f0 x 5) rep) (hr6 : q_ir (q_r f0 x 6) now) (hr7 : q_ir (q_r f0 x 7) dr) (hr8 : q_ir (q_r f0 x 8) sv) (hr9 : q_ir (q_r f0 fc 0) tr) (hr10 : q_ir (q_r f0 so 0) ba) (hr11 : q_ir (q_r f0 dr 0) nds) (hr12 : q_ir (q_r f0 hist 0) ka) (hr13 : q_ir (q_r f0 now 0) ndn) (hr14 : q_ir (q_r f0 sv 0) nsv) (hr15 : q_ir (q_r f0 mo 1) bu) (hr16 : q_ir (q_r f0 mo 13) sr) (hr17 : q_ir (q_r f0 mo 14) sd) (hr18 : q_ir (q_r f0 mo 15) as) (hr19 : q_ir (q_r f0 mo 16) aw) (hr20 : q_ir (q_r f0 mo 17) pa) (hr21 : q_ir (q_r f0 mo 18) nm) (hr22 : q_ir (q_r f0 mo 19) snm) (hr23 : q_ir (q_r f0 mo 20) anm) (hr24 : q_ir (q_r f0 mo 24) hp) (hr25 : q_ir (q_r f0 mo 25) dy) (hr26 : q_ir (q_r f0 mo 29) cs) (hr27 : q_ir (q_r f0 mo 30) c1) (hr28 : q_ir (q_r f0 mo 31) c2) (hr29 : q_ir (q_r f0 mo 32) c3) (hr30 : q_ir (q_r f0 mo 33) bg) (hr31 : q_ir (q_r f0 mo 34) lp) (hr32 : q_ir (q_r f0 mo 38) rp) (hij : tk_ij K L f0 nds) {f : Nat → va_E} {H : Heap} {locs : List Loc} {ls : Array Slot} {cells slots : Nat} {ii tn : Int} {nl9 ls9 : List (List Int)} {xc : Int} (hB : q_B g K L (fun q => s.heap.size ≤ q) [(0, 0, 6), (2, 1, 2), (3, 0, 4), (4, 0, 7), (5, 0, 9), (6, 1, 1), (7, 1, 4), (8, 1, 9), (9, 0, 2), (10, 3, 15), (11, 9, 9), (12, 0, 0), (12, 2, 12), (12, 21, 23), (12, 26, 28), (12, 35, 37), (12, 39, 40), (13, 3, 15), (14, 3, 15), (15, 3, 15), (16, 3, 15), (17, 0, 9), (18, 0, 9), (19, 0, 9), (20, 0, 9), (21, 0, 4), (22, 0, 4), (23, 0, 4), (24, 0, 4), (25, 0, 7), (26, 0, 7), (27, 0, 7), (28, 0, 7), (142, 0, 599), (143, 0, 599), (150, 0, 599), (151, 0, 657), (152, 0, 657), (153, 0, 657), (154, 0, 657), (155, 0, 3947), (156, 0, 9), (157, 0, 9), (158, 0, 9), (159, 0, 9), (160, 0, 9), (161, 0, 59), (162, 0, 58), (163, 0, 58), (164, 0, 58), (165, 0, 1), (166, 0, 1), (167, 0, 479), (168, 0, 0), (169, 0, 0)] f0 f s H locs) (hI : q_Iv5 K L f x so mo sr pa sd bu ba now ndn hist ka sv nsv nm snm tn nl9 ls9 xc) (hl : lv_has ls 10 [(5, .int (q_i ii)), (4, .ref outD), (3, .ref out), (2, .ref mo), (1, .ref x), (0, .ref b)]) (hi0 : 0 ≤ ii) (hi6 : ii + 6 ≤ N9) (hce : cells + 6 ≤ 10000) (hse : slots + 36 ≤ 100000) (kk : ∀ (f1 : Nat → va_E) (H1 : Heap) (locs1 : List Loc) (ls1 : Array Slot) (tn1 : Int) (nl1 ls1_ : List (List Int)) (xc1 : Int), q_B g K L (fun q => s.heap.size ≤ q) [(0, 0, 6), (2, 1, 2), (3, 0, 4), (4, 0, 7), (5, 0, 9), (6, 1, 1), (7, 1, 4), (8, 1, 9), (9, 0, 2), (10, 3, 15), (11, 9, 9), (12, 0, 0), (12, 2, 12), (12, 21, 23), (12, 26, 28), (12, 35, 37), (12, 39, 40), (13, 3, 15), (14, 3, 15), (15, 3, 15), (16, 3, 15), (17, 0, 9), (18, 0, 9), (19, 0, 9), (20, 0, 9), (21, 0, 4), (22, 0, 4), (23, 0, 4), (24, 0, 4), (25, 0, 7), (26, 0, 7), (27, 0, 7), (28, 0, 7), (142, 0, 599), (143, 0, 599), (150, 0, 599), (151, 0, 657), (152, 0, 657), (153, 0, 657), (154, 0, 657), (155, 0, 3947), (156, 0, 9), (157, 0, 9), (158, 0, 9), (159, 0, 9), (160, 0, 9), (161, 0, 59), (162, 0, 58), (163, 0, 58), (164, 0, 58), (165, 0, 1), (166, 0, 1), (167, 0, 479), (168, 0, 0), (169, 0, 0)] f0 f1 s H1 locs1 → q_Iv5 K L f1 x so mo sr pa sd bu ba now ndn hist ka sv nsv nm snm tn1 nl1 ls1_ xc1 → lv_has ls1 10 [(5, .int (q_i ii)), (4, .ref outD), (3, .ref out), (2, .ref mo), (1, .ref x), (0, .ref b)] → W p l e room_1 s m #[Value.ref b] below meth c H1 locs1 (cells + 6) (slots + 36) (lw_Z below #[Value.ref b] s) (F0 m 1521 ls1 [])) : W p l e room_1 s m #[Value.ref b] below meth c H locs (cells) (slots) (lw_Z below #[Value.ref b] s) (F0 m 965 ls []) := by
  have hXs := C0.2.2.2.2.2.2.1
  have hbl := C0.2.2.2.2.2.2.2.1
  have hbA := q_bA hbl
  obtain ⟨⟨hn0, hn1, ltn, utn⟩, hgr, hpk, hsd9, ht3, ht4, hbb, hsr0, hxc, hvn, hvk, hvs, hrn9, hrs9, hpc, hs22⟩ := hI
  have lxc : 0 ≤ xc := by omega
  have uxc : xc ≤ 10 := by have h7 := hvn.2.1.2; omega
  have hr0 : q_ir (q_r f x 0) so := Eq.trans (hB.2.2.r hx (by rw [kx]; rfl)) hr0
  have hr1 : q_ir (q_r f x 1) rd := Eq.trans (hB.2.2.r hx (by rw [kx]; rfl)) hr1
  have hr2 : q_ir (q_r f x 2) scr := Eq.trans (hB.2.2.r hx (by rw [kx]; rfl)) hr2
  have hr3 : q_ir (q_r f x 3) fc := Eq.trans (hB.2.2.r hx (by rw [kx]; rfl)) hr3
  have hr4 : q_ir (q_r f x 4) hist := Eq.trans (hB.2.2.r hx (by rw [kx]; rfl)) hr4
  have hr5 : q_ir (q_r f x 5) rep := Eq.trans (hB.2.2.r hx (by rw [kx]; rfl)) hr5
  have hr6 : q_ir (q_r f x 6) now := Eq.trans (hB.2.2.r hx (by rw [kx]; rfl)) hr6
  have hr7 : q_ir (q_r f x 7) dr := Eq.trans (hB.2.2.r hx (by rw [kx]; rfl)) hr7
  have hr8 : q_ir (q_r f x 8) sv := Eq.trans (hB.2.2.r hx (by rw [kx]; rfl)) hr8
  have hr9 : q_ir (q_r f fc 0) tr := Eq.trans (hB.2.2.r hfc (by rw [kfc]; rfl)) hr9
  have hr10 : q_ir (q_r f so 0) ba := Eq.trans (hB.2.2.r hso (by rw [kso]; rfl)) hr10
  have hr11 : q_ir (q_r f dr 0) nds := Eq.trans (hB.2.2.r hdr (by rw [kdr]; rfl)) hr11
  have hr12 : q_ir (q_r f hist 0) ka := Eq.trans (hB.2.2.r hhist (by rw [khist]; rfl)) hr12
  have hr13 : q_ir (q_r f now 0) ndn := Eq.trans (hB.2.2.r hnow (by rw [know]; rfl)) hr13
  have hr14 : q_ir (q_r f sv 0) nsv := Eq.trans (hB.2.2.r hsv (by rw [ksv]; rfl)) hr14
  have hr15 : q_ir (q_r f mo 1) bu := Eq.trans (hB.2.2.r hmo (by rw [kmo]; rfl)) hr15
  have hr16 : q_ir (q_r f mo 13) sr := Eq.trans (hB.2.2.r hmo (by rw [kmo]; rfl)) hr16
  have hr17 : q_ir (q_r f mo 14) sd := Eq.trans (hB.2.2.r hmo (by rw [kmo]; rfl)) hr17
  have hr18 : q_ir (q_r f mo 15) as := Eq.trans (hB.2.2.r hmo (by rw [kmo]; rfl)) hr18
  have hr19 : q_ir (q_r f mo 16) aw := Eq.trans (hB.2.2.r hmo (by rw [kmo]; rfl)) hr19
  have hr20 : q_ir (q_r f mo 17) pa := Eq.trans (hB.2.2.r hmo (by rw [kmo]; rfl)) hr20
  have hr21 : q_ir (q_r f mo 18) nm := Eq.trans (hB.2.2.r hmo (by rw [kmo]; rfl)) hr21
  have hr22 : q_ir (q_r f mo 19) snm := Eq.trans (hB.2.2.r hmo (by rw [kmo]; rfl)) hr22
  have hr23 : q_ir (q_r f mo 20) anm := Eq.trans (hB.2.2.r hmo (by rw [kmo]; rfl)) hr23
  have hr24 : q_ir (q_r f mo 24) hp := Eq.trans (hB.2.2.r hmo (by rw [kmo]; rfl)) hr24
  have hr25 : q_ir (q_r f mo 25) dy := Eq.trans (hB.2.2.r hmo (by rw [kmo]; rfl)) hr25
  have hr26 : q_ir (q_r f mo 29) cs := Eq.trans (hB.2.2.r hmo (by rw [kmo]; rfl)) hr26
  have hr27 : q_ir (q_r f mo 30) c1 := Eq.trans (hB.2.2.r hmo (by rw [kmo]; rfl)) hr27
  have hr28 : q_ir (q_r f mo 31) c2 := Eq.trans (hB.2.2.r hmo (by rw [kmo]; rfl)) hr28
  have hr29 : q_ir (q_r f mo 32) c3 := Eq.trans (hB.2.2.r hmo (by rw [kmo]; rfl)) hr29
  have hr30 : q_ir (q_r f mo 33) bg := Eq.trans (hB.2.2.r hmo (by rw [kmo]; rfl)) hr30
  have hr31 : q_ir (q_r f mo 34) lp := Eq.trans (hB.2.2.r hmo (by rw [kmo]; rfl)) hr31
  have hr32 : q_ir (q_r f mo 38) rp := Eq.trans (hB.2.2.r hmo (by rw [kmo]; rfl)) hr32
  have hij : tk_ij K L f nds := tk_ij_tr hij (fun i9 => hB.2.2.r hnds (by rw [knds]; rfl))
  obtain ⟨x1, ex1⟩ : ∃ zz, q_is (q_z f sr 3) zz := ⟨_, q_isr _⟩
  obtain ⟨lx1, ux1⟩ : 0 ≤ x1 ∧ x1 ≤ 9999 := q_isb ex1 ⟨(hgr 3 (by decide)).1, ht3⟩
  obtain ⟨x2, ex2⟩ : ∃ zz, q_is (q_z f sr 4) zz := ⟨_, q_isr _⟩
  obtain ⟨lx2, ux2⟩ : 0 ≤ x2 ∧ x2 ≤ 60 := q_isb ex2 ⟨(hgr 4 (by decide)).1, ht4⟩
  refine q_ald_n cx dL_law_965 rfl (lv_at hl 4 rfl) ?_
  refine q_ald_n cx dL_law_966 rfl (lv_at hl 5 rfl) ?_
  refine lv_iload cx.1 cx.2.1 dL_law_967 (lv_at hl 0 rfl) ?_
  refine q_iconst cx dL_law_969 ?_
  refine q_iadd cx dL_law_970 ?_
  refine va_sld cx.1 cx.2.1 hXs hbl hbA hB.1.2.2.2 (q_in (by omega) (by omega) (by omega)) dL_law_971 ?_
  obtain ⟨a3, ra3, ea3⟩ : ∃ z : Int, q_R z ∧ xs (q_i (ii + 1)).toNatClampNeg = q_i z := ⟨_, q_rng _, (q_of _).symm⟩
  rw [ea3]
  refine q_ald_n cx dL_law_972 rfl (lv_at hl 2 rfl) ?_
  refine q_cWS (As := [.ref x, .int (q_i a3), .ref out]) (rest := []) cx hX hB (fun q h => hLA q h) (fun q h1 h2 => absurd h1 (Nat.not_le_of_lt h2)) hN (w_outIn l g ad hN hB.2.1 hfl x hx kx a3 (by omega) (by omega) out hout kout so hso kso rd hrd krd scr hscr kscr fc hfc kfc hist hhist khist rep hrep krep now hnow know dr hdr kdr sv hsv ksv tr htr ktr hr0 hr1 hr2 hr3 hr4 hr5 hr6 hr7 hr8 hr9) q_cL_205 q_dL_outIn ⟨by decide, by show cells + 1 ≤ 601024; omega, by show slots + 6 ≤ 7293034; omega⟩ rfl rfl hl.1 rfl (Nat.le_of_ble_eq_true rfl) dL_law_973 (fun v9 H locs f4 h6 hF hB => ?_)
  obtain ⟨y5, rfl, ry5, h6⟩ := h6
  refine W.eq (g2 := F0 m 976 ls [.int (q_i y5)]) rfl ?_
  obtain ⟨ly5, uy5⟩ := h6
  have z7 : q_is (q_z f4 so 1) tn := Eq.trans (hF.z hso (by rw [kso]; rfl)) hn0
  have z8 : q_is (q_z f4 mo 2) tn := Eq.trans (hF.z hmo (by rw [kmo]; rfl)) hn1
  have z9 : q_is (q_z f4 sr 0) xc := Eq.trans (hF.z hsr (by rw [ksr]; rfl)) hsr0
  have z10 : q_is (q_z f4 sr 3) x1 := Eq.trans (hF.z hsr (by rw [ksr]; rfl)) ex1
  have z11 : q_is (q_z f4 sr 4) x2 := Eq.trans (hF.z hsr (by rw [ksr]; rfl)) ex2
  have z12 : q_ir (q_r f4 x 0) so := Eq.trans (hF.r hx (by rw [kx]; rfl)) hr0
  have z13 : q_ir (q_r f4 x 1) rd := Eq.trans (hF.r hx (by rw [kx]; rfl)) hr1
  have z14 : q_ir (q_r f4 x 2) scr := Eq.trans (hF.r hx (by rw [kx]; rfl)) hr2
  have z15 : q_ir (q_r f4 x 3) fc := Eq.trans (hF.r hx (by rw [kx]; rfl)) hr3
  have z16 : q_ir (q_r f4 x 4) hist := Eq.trans (hF.r hx (by rw [kx]; rfl)) hr4
  have z17 : q_ir (q_r f4 x 5) rep := Eq.trans (hF.r hx (by rw [kx]; rfl)) hr5
  have z18 : q_ir (q_r f4 x 6) now := Eq.trans (hF.r hx (by rw [kx]; rfl)) hr6
  have z19 : q_ir (q_r f4 x 7) dr := Eq.trans (hF.r hx (by rw [kx]; rfl)) hr7
  have z20 : q_ir (q_r f4 x 8) sv := Eq.trans (hF.r hx (by rw [kx]; rfl)) hr8
  have z21 : q_ir (q_r f4 fc 0) tr := Eq.trans (hF.r hfc (by rw [kfc]; rfl)) hr9
  have z22 : q_ir (q_r f4 so 0) ba := Eq.trans (hF.r hso (by rw [kso]; rfl)) hr10
  have z23 : q_ir (q_r f4 dr 0) nds := Eq.trans (hF.r hdr (by rw [kdr]; rfl)) hr11
  have z24 : q_ir (q_r f4 hist 0) ka := Eq.trans (hF.r hhist (by rw [khist]; rfl)) hr12
  have z25 : q_ir (q_r f4 now 0) ndn := Eq.trans (hF.r hnow (by rw [know]; rfl)) hr13
  have z26 : q_ir (q_r f4 sv 0) nsv := Eq.trans (hF.r hsv (by rw [ksv]; rfl)) hr14
  have z27 : q_ir (q_r f4 mo 1) bu := Eq.trans (hF.r hmo (by rw [kmo]; rfl)) hr15
  have z28 : q_ir (q_r f4 mo 13) sr := Eq.trans (hF.r hmo (by rw [kmo]; rfl)) hr16
  have z29 : q_ir (q_r f4 mo 14) sd := Eq.trans (hF.r hmo (by rw [kmo]; rfl)) hr17
  have z30 : q_ir (q_r f4 mo 15) as := Eq.trans (hF.r hmo (by rw [kmo]; rfl)) hr18
  have z31 : q_ir (q_r f4 mo 16) aw := Eq.trans (hF.r hmo (by rw [kmo]; rfl)) hr19
  have z32 : q_ir (q_r f4 mo 17) pa := Eq.trans (hF.r hmo (by rw [kmo]; rfl)) hr20
  have z33 : q_ir (q_r f4 mo 18) nm := Eq.trans (hF.r hmo (by rw [kmo]; rfl)) hr21
  have z34 : q_ir (q_r f4 mo 19) snm := Eq.trans (hF.r hmo (by rw [kmo]; rfl)) hr22
  have z35 : q_ir (q_r f4 mo 20) anm := Eq.trans (hF.r hmo (by rw [kmo]; rfl)) hr23
  have z36 : q_ir (q_r f4 mo 24) hp := Eq.trans (hF.r hmo (by rw [kmo]; rfl)) hr24
  have z37 : q_ir (q_r f4 mo 25) dy := Eq.trans (hF.r hmo (by rw [kmo]; rfl)) hr25
  have z38 : q_ir (q_r f4 mo 29) cs := Eq.trans (hF.r hmo (by rw [kmo]; rfl)) hr26
  have z39 : q_ir (q_r f4 mo 30) c1 := Eq.trans (hF.r hmo (by rw [kmo]; rfl)) hr27
  have z40 : q_ir (q_r f4 mo 31) c2 := Eq.trans (hF.r hmo (by rw [kmo]; rfl)) hr28
  have z41 : q_ir (q_r f4 mo 32) c3 := Eq.trans (hF.r hmo (by rw [kmo]; rfl)) hr29
  have z42 : q_ir (q_r f4 mo 33) bg := Eq.trans (hF.r hmo (by rw [kmo]; rfl)) hr30
  have z43 : q_ir (q_r f4 mo 34) lp := Eq.trans (hF.r hmo (by rw [kmo]; rfl)) hr31
  have z44 : q_ir (q_r f4 mo 38) rp := Eq.trans (hF.r hmo (by rw [kmo]; rfl)) hr32
  have g45 : q_gr f4 sr := q_gr_fr hgr (fun i9 _ => hF.z hsr (by rw [ksr]; rfl))
  have g46 : q_z f4 x 9 = q_z f4 mo 22 := tk_s2_tr hs22 (hF.z hx (by rw [kx]; rfl)) (hF.z hmo (by rw [kmo]; rfl))
  have g47 : q_pk f4 mo pa := q_pk_tr hpk (hF.z hmo (by rw [kmo]; rfl)) (fun i9 => hF.z hpa (by rw [kpa]; rfl))
  have g48 : q_sv f4 mo sd := q_sv_tr hsd9 (hF.z hmo (by rw [kmo]; rfl)) (fun i9 => hF.z hsd (by rw [ksd]; rfl))
  have g49 : tk_bb f4 bu ba tn := tk_bb_tr hbb (fun i9 => hF.z hbu (by rw [kbu]; rfl)) (fun i9 => hF.z hba (by rw [kba]; rfl))
  have g50 : tk_ij K L f4 nds := tk_ij_tr hij (fun i9 => hF.r hnds (by rw [knds]; rfl))
  have g51 : tk_vn K L 5 f4 now ndn nl9 := tk_vn_tr hvn (hF.z hnow (by rw [know]; rfl)) (fun a9 h9 k9 => hF.j h9 (by rw [k9]; rfl)) (fun i9 => hF.r hndn (by rw [kndn]; rfl))
  have g52 : tk_vk K L f4 hist ka now ndn := tk_vk_tr hvk (hF.z hhist (by rw [khist]; rfl)) (hF.z hhist (by rw [khist]; rfl)) (hF.z hnow (by rw [know]; rfl)) (fun a9 h9 k9 => hF.j h9 (by rw [k9]; rfl)) (fun i9 => hF.r hndn (by rw [kndn]; rfl)) (fun a9 h9 k9 => hF.z h9 (by rw [k9]; rfl)) (fun a9 h9 k9 => hF.j h9 (by rw [k9]; rfl)) (fun i9 => hF.r hka (by rw [kka]; rfl)) (fun a9 h9 k9 => hF.r h9 (by rw [k9]; rfl)) (fun a9 h9 k9 i9 => hF.r h9 (by rw [k9]; rfl))
  have g53 : tk_vs K L f4 x sv nsv ls9 := tk_vs_tr hvs (hF.z hx (by rw [kx]; rfl)) (hF.z hsv (by rw [ksv]; rfl)) (fun a9 h9 k9 => hF.j h9 (by rw [k9]; rfl)) (fun i9 => hF.r hnsv (by rw [knsv]; rfl))
  have g54 : tk_nq f4 nm nl9 := tk_nq_tr hrn9 (fun i9 => hF.j hnm (by rw [knm]; rfl))
  have g55 : tk_rs f4 mo sd snm ls9 := tk_rs_tr hrs9 (hF.z hmo (by rw [kmo]; rfl)) (fun i9 h9 k9 => hF.z hsd (by rw [ksd]; exact q_inWr rfl h9 k9)) (fun i9 => hF.j hsnm (by rw [ksnm]; rfl))
  have g56 : q_pc f4 mo pa xc := q_pc_tr hpc (hF.z hmo (by rw [kmo]; rfl)) (fun i9 => hF.z hpa (by rw [kpa]; rfl))
  refine lv_istore (lv' := [(6, .int (q_i y5)), (5, .int (q_i ii)), (4, .ref outD), (3, .ref out), (2, .ref mo), (1, .ref x), (0, .ref b)]) cx.1 cx.2.1 dL_law_976 hl (by decide) rfl (fun ls hl => ?_)
  refine q_ald_n cx dL_law_978 rfl (lv_at hl 4 rfl) ?_
  refine q_ald_n cx dL_law_979 rfl (lv_at hl 6 rfl) ?_
  refine lv_iload cx.1 cx.2.1 dL_law_980 (lv_at hl 1 rfl) ?_
  refine q_iconst cx dL_law_982 ?_
  refine q_iadd cx dL_law_983 ?_
  refine va_sld cx.1 cx.2.1 hXs hbl hbA hB.1.2.2.2 (q_in (by omega) (by omega) (by omega)) dL_law_984 ?_
  rw [ea3]
  refine q_cVi (As := [.int (q_i a3)]) (rest := []) cx hB (fun q h => hLA q h) hN hmo kmo (by decide) rfl (r_outIn l g hN hB.2.1 mo hmo kmo a3 (by omega) (by omega) sr hsr ksr hp hhp khp dy hdy kdy aw haw kaw x1 (by omega) (by omega) x2 (by omega) (by omega) xc (by omega) (by omega) z10 z11 z9 z28 z36 z37 z31 g45) q_cL_207 q_dX12_outIn ⟨by decide, by show cells + 1 ≤ 601024; omega, by show slots + 6 ≤ 7293034; omega⟩ rfl rfl hl.1 rfl (Nat.le_of_ble_eq_true rfl) dL_law_985 (fun y58 H locs f57 ry58 h59 hF hB => ?_)
  obtain ⟨ly58, uy58, lz60, uz60, lz61, uz61, z62, g63⟩ := h59
  have z64 : q_is (q_z f57 so 1) tn := Eq.trans (hF.z hso (by rw [kso]; rfl)) z7
  have z65 : q_is (q_z f57 mo 2) tn := Eq.trans (hF.z hmo (by rw [kmo]; rfl)) z8
  have z66 : q_ir (q_r f57 x 0) so := Eq.trans (hF.r hx (by rw [kx]; rfl)) z12
  have z67 : q_ir (q_r f57 x 1) rd := Eq.trans (hF.r hx (by rw [kx]; rfl)) z13
  have z68 : q_ir (q_r f57 x 2) scr := Eq.trans (hF.r hx (by rw [kx]; rfl)) z14
  have z69 : q_ir (q_r f57 x 3) fc := Eq.trans (hF.r hx (by rw [kx]; rfl)) z15
  have z70 : q_ir (q_r f57 x 4) hist := Eq.trans (hF.r hx (by rw [kx]; rfl)) z16
  have z71 : q_ir (q_r f57 x 5) rep := Eq.trans (hF.r hx (by rw [kx]; rfl)) z17
  have z72 : q_ir (q_r f57 x 6) now := Eq.trans (hF.r hx (by rw [kx]; rfl)) z18
  have z73 : q_ir (q_r f57 x 7) dr := Eq.trans (hF.r hx (by rw [kx]; rfl)) z19
  have z74 : q_ir (q_r f57 x 8) sv := Eq.trans (hF.r hx (by rw [kx]; rfl)) z20
  have z75 : q_ir (q_r f57 fc 0) tr := Eq.trans (hF.r hfc (by rw [kfc]; rfl)) z21
  have z76 : q_ir (q_r f57 so 0) ba := Eq.trans (hF.r hso (by rw [kso]; rfl)) z22
  have z77 : q_ir (q_r f57 dr 0) nds := Eq.trans (hF.r hdr (by rw [kdr]; rfl)) z23
  have z78 : q_ir (q_r f57 hist 0) ka := Eq.trans (hF.r hhist (by rw [khist]; rfl)) z24
  have z79 : q_ir (q_r f57 now 0) ndn := Eq.trans (hF.r hnow (by rw [know]; rfl)) z25
  have z80 : q_ir (q_r f57 sv 0) nsv := Eq.trans (hF.r hsv (by rw [ksv]; rfl)) z26
  have z81 : q_ir (q_r f57 mo 1) bu := Eq.trans (hF.r hmo (by rw [kmo]; rfl)) z27
  have z82 : q_ir (q_r f57 mo 13) sr := Eq.trans (hF.r hmo (by rw [kmo]; rfl)) z28
  have z83 : q_ir (q_r f57 mo 14) sd := Eq.trans (hF.r hmo (by rw [kmo]; rfl)) z29
  have z84 : q_ir (q_r f57 mo 15) as := Eq.trans (hF.r hmo (by rw [kmo]; rfl)) z30
  have z85 : q_ir (q_r f57 mo 16) aw := Eq.trans (hF.r hmo (by rw [kmo]; rfl)) z31
  have z86 : q_ir (q_r f57 mo 17) pa := Eq.trans (hF.r hmo (by rw [kmo]; rfl)) z32
  have z87 : q_ir (q_r f57 mo 18) nm := Eq.trans (hF.r hmo (by rw [kmo]; rfl)) z33
  have z88 : q_ir (q_r f57 mo 19) snm := Eq.trans (hF.r hmo (by rw [kmo]; rfl)) z34
  have z89 : q_ir (q_r f57 mo 20) anm := Eq.trans (hF.r hmo (by rw [kmo]; rfl)) z35
  have z90 : q_ir (q_r f57 mo 24) hp := Eq.trans (hF.r hmo (by rw [kmo]; rfl)) z36
  have z91 : q_ir (q_r f57 mo 25) dy := Eq.trans (hF.r hmo (by rw [kmo]; rfl)) z37
  have z92 : q_ir (q_r f57 mo 29) cs := Eq.trans (hF.r hmo (by rw [kmo]; rfl)) z38
  have z93 : q_ir (q_r f57 mo 30) c1 := Eq.trans (hF.r hmo (by rw [kmo]; rfl)) z39
  have z94 : q_ir (q_r f57 mo 31) c2 := Eq.trans (hF.r hmo (by rw [kmo]; rfl)) z40
  have z95 : q_ir (q_r f57 mo 32) c3 := Eq.trans (hF.r hmo (by rw [kmo]; rfl)) z41
  have z96 : q_ir (q_r f57 mo 33) bg := Eq.trans (hF.r hmo (by rw [kmo]; rfl)) z42
  have z97 : q_ir (q_r f57 mo 34) lp := Eq.trans (hF.r hmo (by rw [kmo]; rfl)) z43
  have z98 : q_ir (q_r f57 mo 38) rp := Eq.trans (hF.r hmo (by rw [kmo]; rfl)) z44
  have g99 : q_z f57 x 9 = q_z f57 mo 22 := tk_s2_tr g46 (hF.z hx (by rw [kx]; rfl)) (hF.z hmo (by rw [kmo]; rfl))
  have g100 : q_pk f57 mo pa := q_pk_tr g47 (hF.z hmo (by rw [kmo]; rfl)) (fun i9 => hF.z hpa (by rw [kpa]; rfl))
  have g101 : q_sv f57 mo sd := q_sv_tr g48 (hF.z hmo (by rw [kmo]; rfl)) (fun i9 => hF.z hsd (by rw [ksd]; rfl))
  have g102 : tk_bb f57 bu ba tn := tk_bb_tr g49 (fun i9 => hF.z hbu (by rw [kbu]; rfl)) (fun i9 => hF.z hba (by rw [kba]; rfl))
  have g103 : tk_ij K L f57 nds := tk_ij_tr g50 (fun i9 => hF.r hnds (by rw [knds]; rfl))
  have g104 : tk_vn K L 5 f57 now ndn nl9 := tk_vn_tr g51 (hF.z hnow (by rw [know]; rfl)) (fun a9 h9 k9 => hF.j h9 (by rw [k9]; rfl)) (fun i9 => hF.r hndn (by rw [kndn]; rfl))
  have g105 : tk_vk K L f57 hist ka now ndn := tk_vk_tr g52 (hF.z hhist (by rw [khist]; rfl)) (hF.z hhist (by rw [khist]; rfl)) (hF.z hnow (by rw [know]; rfl)) (fun a9 h9 k9 => hF.j h9 (by rw [k9]; rfl)) (fun i9 => hF.r hndn (by rw [kndn]; rfl)) (fun a9 h9 k9 => hF.z h9 (by rw [k9]; rfl)) (fun a9 h9 k9 => hF.j h9 (by rw [k9]; rfl)) (fun i9 => hF.r hka (by rw [kka]; rfl)) (fun a9 h9 k9 => hF.r h9 (by rw [k9]; rfl)) (fun a9 h9 k9 i9 => hF.r h9 (by rw [k9]; rfl))
  have g106 : tk_vs K L f57 x sv nsv ls9 := tk_vs_tr g53 (hF.z hx (by rw [kx]; rfl)) (hF.z hsv (by rw [ksv]; rfl)) (fun a9 h9 k9 => hF.j h9 (by rw [k9]; rfl)) (fun i9 => hF.r hnsv (by rw [knsv]; rfl))
  have g107 : tk_nq f57 nm nl9 := tk_nq_tr g54 (fun i9 => hF.j hnm (by rw [knm]; rfl))
  have g108 : tk_rs f57 mo sd snm ls9 := tk_rs_tr g55 (hF.z hmo (by rw [kmo]; rfl)) (fun i9 h9 k9 => hF.z hsd (by rw [ksd]; exact q_inWr rfl h9 k9)) (fun i9 => hF.j hsnm (by rw [ksnm]; rfl))
  have g109 : q_pc f57 mo pa xc := q_pc_tr g56 (hF.z hmo (by rw [kmo]; rfl)) (fun i9 => hF.z hpa (by rw [kpa]; rfl))
  obtain ⟨x110, ex110⟩ : ∃ zz, q_is (q_z f57 sr 3) zz := ⟨_, q_isr _⟩
  obtain ⟨lx110, ux110⟩ := q_isb ex110 ⟨lz60, uz60⟩
  obtain ⟨x111, ex111⟩ : ∃ zz, q_is (q_z f57 sr 4) zz := ⟨_, q_isr _⟩
  obtain ⟨lx111, ux111⟩ := q_isb ex111 ⟨lz61, uz61⟩
  refine lv_istore (lv' := [(7, .int (q_i y58)), (6, .int (q_i y5)), (5, .int (q_i ii)), (4, .ref outD), (3, .ref out), (2, .ref mo), (1, .ref x), (0, .ref b)]) cx.1 cx.2.1 dL_law_988 hl (by decide) rfl (fun ls hl => ?_)
  refine lv_goto (tgt := 1521) cx.1 cx.2.1 dL_law_990 (by decide) ?_
  refine W.widen (k := cells + 6) (n := slots + 36) (by omega) (by omega) ?_
  exact kk f57 H locs ls tn nl9 ls9 xc hB ⟨⟨z64, (Eq.trans z65 (by omega)), by omega, by omega⟩, g63, g100, g101, q_isu ex110 (by omega), q_isu ex111 (by omega), tk_bb_le g102 (by omega), z62, by omega, g104, g105, g106, g107, g108, g109, g99⟩ (lv_sub hl [2, 3, 4, 5, 6, 7] rfl)
