set_option maxHeartbeats 4000000 in
set_option maxRecDepth 100000 in
theorem law_c220 {p : Program} {l : Launch} {e : Env} {s : State} {m : MethodId} {below : List Frame} {meth : Method} {c : Code} {b : Nat} {xs : Nat → Int32} (hfl : l.stackTraces = false) (C0 : lw_At p s m meth c b 6 xs) (cx : CallFix p m c cL_law 10 s #[Value.ref b] q_al RL) {g : q_G} {K : Nat → Nat} {L : List Nat} {f : Nat → va_E} {H : Heap} {locs : List Loc} {ls : Array Slot} (hN : L.Nodup) (hLA : ∀ q, q ∈ L → s.heap.size ≤ q) (hX : q_X (fun q => q ∈ L) s) (hB : q_B g K L (fun q => s.heap.size ≤ q) [(2, 1, 2), (6, 1, 1), (7, 1, 4), (8, 1, 9), (9, 0, 2), (10, 3, 15), (11, 9, 9), (12, 0, 40), (13, 3, 15), (14, 3, 15), (15, 3, 15), (16, 3, 15), (142, 0, 599), (150, 0, 599), (151, 0, 657), (152, 0, 657), (153, 0, 657), (154, 0, 657), (155, 0, 3947), (156, 0, 9), (157, 0, 9), (158, 0, 9), (168, 0, 0), (169, 0, 0)] f f s H locs) {x : Nat} (hx : x ∈ L) (kx : K x = 11) {src : Nat} (hsrc : src ∈ L) (ksrc : K src = 8) {rdr : Nat} (hrdr : rdr ∈ L) (krdr : K rdr = 9) {scr : Nat} (hscr : scr ∈ L) (kscr : K scr = 7) {fc : Nat} (hfc : fc ∈ L) (kfc : K fc = 1) {hist : Nat} (hhist : hist ∈ L) (khist : K hist = 2) {rep : Nat} (hrep : rep ∈ L) (krep : K rep = 6) {now : Nat} (hnow : now ∈ L) (know : K now = 10) {dr : Nat} (hdr : dr ∈ L) (kdr : K dr = 13) {sv : Nat} (hsv : sv ∈ L) (ksv : K sv = 14) {tr : Nat} (htr : tr ∈ L) (ktr : K tr = 15) {mo : Nat} (hmo : mo ∈ L) (kmo : K mo = 12) {bu : Nat} (hbu : bu ∈ L) (kbu : K bu = 150) {sr : Nat} (hsr : sr ∈ L) (ksr : K sr = 151) {sd : Nat} (hsd : sd ∈ L) (ksd : K sd = 152) {as : Nat} (has : as ∈ L) (kas : K as = 153) {aw : Nat} (haw : aw ∈ L) (kaw : K aw = 154) {pa : Nat} (hpa : pa ∈ L) (kpa : K pa = 155) {nm : Nat} (hnm : nm ∈ L) (knm : K nm = 156) {snm : Nat} (hsnm : snm ∈ L) (ksnm : K snm = 157) {anm : Nat} (hanm : anm ∈ L) (kanm : K anm = 158) {out : Nat} (hout : out ∈ L) (kout : K out = 168) {outD : Nat} (houtD : outD ∈ L) (koutD : K outD = 169) (hf0 : q_z f x 9 = 0) (hf1 : q_z f src 1 = 0) (hf2 : q_z f src 2 = 0) (hf3 : q_z f src 3 = (-1)) (hf4 : q_z f hist 1 = 0) (hf5 : q_z f hist 2 = 0) (hf6 : q_z f rep 1 = 0) (hf7 : q_z f now 3 = 0) (hf8 : q_z f now 4 = 0) (hf9 : q_z f now 5 = 0) (hf10 : q_z f now 6 = 12) (hf11 : q_z f now 10 = 3) (hf12 : q_z f now 11 = 0) (hf13 : q_z f now 12 = 0) (hf14 : q_z f mo 2 = 0) (hf15 : q_z f mo 8 = 0) (hf16 : q_z f mo 9 = (-1)) (hf17 : q_z f mo 10 = 0) (hf18 : q_z f mo 11 = (-1)) (hf19 : q_z f mo 21 = 0) (hf20 : q_z f mo 22 = 0) (hf21 : q_z f mo 40 = 0) (hf22 : q_z f sr 0 = 0) (hf23 : q_z f sr 1 = 0) (hf24 : q_z f sr 2 = 12) (hf25 : q_z f sr 3 = 0) (hf26 : q_z f sr 4 = 0) (hf27 : q_z f sr 5 = 1) (hf28 : q_z f sr 6 = 2) (hf29 : q_z f sr 7 = 5) (hf30 : q_z f sr 8 = 3) (hf31 : q_z f sr 9 = 0) (hr0 : q_r f x 0 = src) (hr1 : q_r f x 1 = rdr) (hr2 : q_r f x 2 = scr) (hr3 : q_r f x 3 = fc) (hr4 : q_r f x 4 = hist) (hr5 : q_r f x 5 = rep) (hr6 : q_r f x 6 = now) (hr7 : q_r f x 7 = dr) (hr8 : q_r f x 8 = sv) (hr9 : q_r f fc 0 = tr) (hr10 : q_r f mo 1 = bu) (hr11 : q_r f mo 13 = sr) (hr12 : q_r f mo 14 = sd) (hr13 : q_r f mo 15 = as) (hr14 : q_r f mo 16 = aw) (hr15 : q_r f mo 17 = pa) (hr16 : q_r f mo 18 = nm) (hr17 : q_r f mo 19 = snm) (hr18 : q_r f mo 20 = anm) (hl : lv_has ls 10 [(5, .int (q_i 0)), (0, .ref b), (1, .ref x), (2, .ref mo), (3, .ref out), (4, .ref outD)]) : W p l e room_1 s m #[Value.ref b] below meth c H locs 1100 20000 (lw_Z below #[Value.ref b] s) (F0 m 220 ls []) := by
  have hXs := C0.2.2.2.2.2.2.1
  have hbl := C0.2.2.2.2.2.2.2.1
  have hbA := q_bA hbl
  obtain ⟨x0, rx0, ex0⟩ : ∃ z : Int, q_R z ∧ xs 0 = q_i z := ⟨_, q_rng _, (q_of _).symm⟩
  have lx0 := rx0.1
  have ux0 := rx0.2
  obtain ⟨x1, rx1, ex1⟩ : ∃ z : Int, q_R z ∧ xs 1 = q_i z := ⟨_, q_rng _, (q_of _).symm⟩
  have lx1 := rx1.1
  have ux1 := rx1.2
  obtain ⟨x2, rx2, ex2⟩ : ∃ z : Int, q_R z ∧ xs 2 = q_i z := ⟨_, q_rng _, (q_of _).symm⟩
  have lx2 := rx2.1
  have ux2 := rx2.2
  obtain ⟨x3, rx3, ex3⟩ : ∃ z : Int, q_R z ∧ xs 3 = q_i z := ⟨_, q_rng _, (q_of _).symm⟩
  have lx3 := rx3.1
  have ux3 := rx3.2
  obtain ⟨x4, rx4, ex4⟩ : ∃ z : Int, q_R z ∧ xs 4 = q_i z := ⟨_, q_rng _, (q_of _).symm⟩
  have lx4 := rx4.1
  have ux4 := rx4.2
  obtain ⟨x5, rx5, ex5⟩ : ∃ z : Int, q_R z ∧ xs 5 = q_i z := ⟨_, q_rng _, (q_of _).symm⟩
  have lx5 := rx5.1
  have ux5 := rx5.2
  refine q_ald_n cx dL_law_220 rfl (lv_at hl 2 rfl) ?_
  refine q_ald_n cx dL_law_221 rfl (lv_at hl 1 rfl) ?_
  refine lv_iload cx.1 cx.2.1 dL_law_222 (lv_at hl 0 rfl) ?_
  refine q_iconst cx dL_law_224 ?_
  refine q_iadd cx dL_law_225 ?_
  refine va_sld cx.1 cx.2.1 hXs hbl hbA hB.1.2.2.2 (q_in (by decide) (by decide) (by decide)) dL_law_226 ?_
  rw [show (q_i (0 + 1)).toNatClampNeg = 1 from by decide, ex1]
  refine q_ald_n cx dL_law_227 rfl (lv_at hl 1 rfl) ?_
  refine lv_iload cx.1 cx.2.1 dL_law_228 (lv_at hl 0 rfl) ?_
  refine q_iconst cx dL_law_230 ?_
  refine q_iadd cx dL_law_231 ?_
  refine va_sld cx.1 cx.2.1 hXs hbl hbA hB.1.2.2.2 (q_in (by decide) (by decide) (by decide)) dL_law_232 ?_
  rw [show (q_i (0 + 2)).toNatClampNeg = 2 from by decide, ex2]
  refine q_ald_n cx dL_law_233 rfl (lv_at hl 1 rfl) ?_
  refine lv_iload cx.1 cx.2.1 dL_law_234 (lv_at hl 0 rfl) ?_
  refine q_iconst cx dL_law_236 ?_
  refine q_iadd cx dL_law_237 ?_
  refine va_sld cx.1 cx.2.1 hXs hbl hbA hB.1.2.2.2 (q_in (by decide) (by decide) (by decide)) dL_law_238 ?_
  rw [show (q_i (0 + 3)).toNatClampNeg = 3 from by decide, ex3]
  refine q_ald_n cx dL_law_239 rfl (lv_at hl 1 rfl) ?_
  refine lv_iload cx.1 cx.2.1 dL_law_240 (lv_at hl 0 rfl) ?_
  refine q_iconst cx dL_law_242 ?_
  refine q_iadd cx dL_law_243 ?_
  refine va_sld cx.1 cx.2.1 hXs hbl hbA hB.1.2.2.2 (q_in (by decide) (by decide) (by decide)) dL_law_244 ?_
  rw [show (q_i (0 + 4)).toNatClampNeg = 4 from by decide, ex4]
  refine q_ald_n cx dL_law_245 rfl (lv_at hl 1 rfl) ?_
  refine lv_iload cx.1 cx.2.1 dL_law_246 (lv_at hl 0 rfl) ?_
  refine q_iconst cx dL_law_248 ?_
  refine q_iadd cx dL_law_249 ?_
  refine va_sld cx.1 cx.2.1 hXs hbl hbA hB.1.2.2.2 (q_in (by decide) (by decide) (by decide)) dL_law_250 ?_
  rw [show (q_i (0 + 5)).toNatClampNeg = 5 from by decide, ex5]
  refine q_ald_n cx dL_law_251 rfl (lv_at hl 4 rfl) ?_
  refine q_cWS (As := [.ref x, .int (q_i x1), .int (q_i x2), .int (q_i x3), .int (q_i x4), .int (q_i x5), .ref out]) (rest := []) cx hX hB (fun q h => hLA q h) (fun q h1 h2 => absurd h1 (Nat.not_le_of_lt h2)) hN (w_feed l g hN hB.2.1 hfl x hx kx x1 (by omega) (by omega) x2 (by omega) (by omega) x3 (by omega) (by omega) x4 (by omega) (by omega) x5 (by omega) (by omega) out hout kout src hsrc ksrc rdr hrdr krdr scr hscr kscr fc hfc kfc hist hhist khist rep hrep krep now hnow know dr hdr kdr sv hsv ksv tr htr ktr hf0 hf1 hf2 hf3 hf4 hf5 hf6 hf7 hf8 hf9 hf10 hf11 hf12 hf13 hr0 hr1 hr2 hr3 hr4 hr5 hr6 hr7 hr8 hr9) q_cL_118 q_dL_feed (by decide) rfl rfl hl.1 rfl (Nat.le_of_ble_eq_true rfl) dL_law_252 (fun v9 H locs f1 h3 hF hB => ?_)
  obtain ⟨y2, rfl, ry2, h3⟩ := h3
  refine W.eq (g2 := F0 m 255 ls [.int (q_i y2)]) rfl ?_
  obtain ⟨qy2, z4⟩ := h3
  have z5 : q_z f1 mo 2 = 0 := (hF.z hmo (by rw [kmo]; rfl)).trans hf14
  have z6 : q_z f1 mo 8 = 0 := (hF.z hmo (by rw [kmo]; rfl)).trans hf15
  have z7 : q_z f1 mo 9 = (-1) := (hF.z hmo (by rw [kmo]; rfl)).trans hf16
  have z8 : q_z f1 mo 10 = 0 := (hF.z hmo (by rw [kmo]; rfl)).trans hf17
  have z9 : q_z f1 mo 11 = (-1) := (hF.z hmo (by rw [kmo]; rfl)).trans hf18
  have z10 : q_z f1 mo 21 = 0 := (hF.z hmo (by rw [kmo]; rfl)).trans hf19
  have z11 : q_z f1 mo 22 = 0 := (hF.z hmo (by rw [kmo]; rfl)).trans hf20
  have z12 : q_z f1 mo 40 = 0 := (hF.z hmo (by rw [kmo]; rfl)).trans hf21
  have z13 : q_z f1 sr 0 = 0 := (hF.z hsr (by rw [ksr]; rfl)).trans hf22
  have z14 : q_z f1 sr 1 = 0 := (hF.z hsr (by rw [ksr]; rfl)).trans hf23
  have z15 : q_z f1 sr 2 = 12 := (hF.z hsr (by rw [ksr]; rfl)).trans hf24
  have z16 : q_z f1 sr 3 = 0 := (hF.z hsr (by rw [ksr]; rfl)).trans hf25
  have z17 : q_z f1 sr 4 = 0 := (hF.z hsr (by rw [ksr]; rfl)).trans hf26
  have z18 : q_z f1 sr 5 = 1 := (hF.z hsr (by rw [ksr]; rfl)).trans hf27
  have z19 : q_z f1 sr 6 = 2 := (hF.z hsr (by rw [ksr]; rfl)).trans hf28
  have z20 : q_z f1 sr 7 = 5 := (hF.z hsr (by rw [ksr]; rfl)).trans hf29
  have z21 : q_z f1 sr 8 = 3 := (hF.z hsr (by rw [ksr]; rfl)).trans hf30
  have z22 : q_z f1 sr 9 = 0 := (hF.z hsr (by rw [ksr]; rfl)).trans hf31
  have z23 : q_r f1 x 0 = src := (hF.r hx (by rw [kx]; rfl)).trans hr0
  have z24 : q_r f1 x 1 = rdr := (hF.r hx (by rw [kx]; rfl)).trans hr1
  have z25 : q_r f1 x 2 = scr := (hF.r hx (by rw [kx]; rfl)).trans hr2
  have z26 : q_r f1 x 3 = fc := (hF.r hx (by rw [kx]; rfl)).trans hr3
  have z27 : q_r f1 x 4 = hist := (hF.r hx (by rw [kx]; rfl)).trans hr4
  have z28 : q_r f1 x 5 = rep := (hF.r hx (by rw [kx]; rfl)).trans hr5
  have z29 : q_r f1 x 6 = now := (hF.r hx (by rw [kx]; rfl)).trans hr6
  have z30 : q_r f1 x 7 = dr := (hF.r hx (by rw [kx]; rfl)).trans hr7
  have z31 : q_r f1 x 8 = sv := (hF.r hx (by rw [kx]; rfl)).trans hr8
  have z32 : q_r f1 fc 0 = tr := (hF.r hfc (by rw [kfc]; rfl)).trans hr9
  have z33 : q_r f1 mo 1 = bu := (hF.r hmo (by rw [kmo]; rfl)).trans hr10
  have z34 : q_r f1 mo 13 = sr := (hF.r hmo (by rw [kmo]; rfl)).trans hr11
  have z35 : q_r f1 mo 14 = sd := (hF.r hmo (by rw [kmo]; rfl)).trans hr12
  have z36 : q_r f1 mo 15 = as := (hF.r hmo (by rw [kmo]; rfl)).trans hr13
  have z37 : q_r f1 mo 16 = aw := (hF.r hmo (by rw [kmo]; rfl)).trans hr14
  have z38 : q_r f1 mo 17 = pa := (hF.r hmo (by rw [kmo]; rfl)).trans hr15
  have z39 : q_r f1 mo 18 = nm := (hF.r hmo (by rw [kmo]; rfl)).trans hr16
  have z40 : q_r f1 mo 19 = snm := (hF.r hmo (by rw [kmo]; rfl)).trans hr17
  have z41 : q_r f1 mo 20 = anm := (hF.r hmo (by rw [kmo]; rfl)).trans hr18
  subst qy2
  refine lv_istore (lv' := [(6, .int (q_i 0)), (5, .int (q_i 0)), (0, .ref b), (1, .ref x), (2, .ref mo), (3, .ref out), (4, .ref outD)]) cx.1 cx.2.1 dL_law_255 hl (by decide) rfl (fun ls hl => ?_)
  refine q_ald_n cx dL_law_257 rfl (lv_at hl 4 rfl) ?_
  refine q_ald_n cx dL_law_258 rfl (lv_at hl 2 rfl) ?_
  refine lv_iload cx.1 cx.2.1 dL_law_259 (lv_at hl 1 rfl) ?_
  refine q_iconst cx dL_law_261 ?_
  refine q_iadd cx dL_law_262 ?_
  refine va_sld cx.1 cx.2.1 hXs hbl hbA hB.1.2.2.2 (q_in (by decide) (by decide) (by decide)) dL_law_263 ?_
  rw [show (q_i (0 + 1)).toNatClampNeg = 1 from by decide, ex1]
  refine q_ald_n cx dL_law_264 rfl (lv_at hl 2 rfl) ?_
  refine lv_iload cx.1 cx.2.1 dL_law_265 (lv_at hl 1 rfl) ?_
  refine q_iconst cx dL_law_267 ?_
  refine q_iadd cx dL_law_268 ?_
  refine va_sld cx.1 cx.2.1 hXs hbl hbA hB.1.2.2.2 (q_in (by decide) (by decide) (by decide)) dL_law_269 ?_
  rw [show (q_i (0 + 2)).toNatClampNeg = 2 from by decide, ex2]
  refine q_ald_n cx dL_law_270 rfl (lv_at hl 2 rfl) ?_
  refine lv_iload cx.1 cx.2.1 dL_law_271 (lv_at hl 1 rfl) ?_
  refine q_iconst cx dL_law_273 ?_
  refine q_iadd cx dL_law_274 ?_
  refine va_sld cx.1 cx.2.1 hXs hbl hbA hB.1.2.2.2 (q_in (by decide) (by decide) (by decide)) dL_law_275 ?_
  rw [show (q_i (0 + 3)).toNatClampNeg = 3 from by decide, ex3]
  refine q_ald_n cx dL_law_276 rfl (lv_at hl 2 rfl) ?_
  refine lv_iload cx.1 cx.2.1 dL_law_277 (lv_at hl 1 rfl) ?_
  refine q_iconst cx dL_law_279 ?_
  refine q_iadd cx dL_law_280 ?_
  refine va_sld cx.1 cx.2.1 hXs hbl hbA hB.1.2.2.2 (q_in (by decide) (by decide) (by decide)) dL_law_281 ?_
  rw [show (q_i (0 + 4)).toNatClampNeg = 4 from by decide, ex4]
  refine q_ald_n cx dL_law_282 rfl (lv_at hl 2 rfl) ?_
  refine lv_iload cx.1 cx.2.1 dL_law_283 (lv_at hl 1 rfl) ?_
  refine q_iconst cx dL_law_285 ?_
  refine q_iadd cx dL_law_286 ?_
  refine va_sld cx.1 cx.2.1 hXs hbl hbA hB.1.2.2.2 (q_in (by decide) (by decide) (by decide)) dL_law_287 ?_
  rw [show (q_i (0 + 5)).toNatClampNeg = 5 from by decide, ex5]
  refine q_cVi (As := [.int (q_i x1), .int (q_i x2), .int (q_i x3), .int (q_i x4), .int (q_i x5)]) (rest := []) cx hB (fun q h => hLA q h) hN hmo kmo (by decide) rfl (p_feed l g hN hB.2.1 mo hmo kmo x1 (by omega) (by omega) x2 (by omega) (by omega) x3 (by omega) (by omega) x4 (by omega) (by omega) x5 (by omega) (by omega) bu hbu kbu sr hsr ksr sd hsd ksd as has kas aw haw kaw pa hpa kpa nm hnm knm snm hsnm ksnm anm hanm kanm z5 z6 z7 z8 z9 z10 z11 z12 z13 z14 z15 z16 z17 z18 z19 z20 z21 z22 z33 z34 z35 z36 z37 z38 z39 z40 z41) q_cL_123 q_dX12_feed (by decide) rfl rfl hl.1 rfl (Nat.le_of_ble_eq_true rfl) dL_law_288 (fun y43 H locs f42 ry43 h44 hF hB => ?_)
  obtain ⟨qy43, z45⟩ := h44
  have z46 : q_j f42 out 0 = (q_l 20) := (hF.j hout (by rw [kout]; rfl)).trans z4
  have z47 : q_r f42 x 0 = src := (hF.r hx (by rw [kx]; rfl)).trans z23
  have z48 : q_r f42 x 1 = rdr := (hF.r hx (by rw [kx]; rfl)).trans z24
  have z49 : q_r f42 x 2 = scr := (hF.r hx (by rw [kx]; rfl)).trans z25
  have z50 : q_r f42 x 3 = fc := (hF.r hx (by rw [kx]; rfl)).trans z26
  have z51 : q_r f42 x 4 = hist := (hF.r hx (by rw [kx]; rfl)).trans z27
  have z52 : q_r f42 x 5 = rep := (hF.r hx (by rw [kx]; rfl)).trans z28
  have z53 : q_r f42 x 6 = now := (hF.r hx (by rw [kx]; rfl)).trans z29
  have z54 : q_r f42 x 7 = dr := (hF.r hx (by rw [kx]; rfl)).trans z30
  have z55 : q_r f42 x 8 = sv := (hF.r hx (by rw [kx]; rfl)).trans z31
  have z56 : q_r f42 fc 0 = tr := (hF.r hfc (by rw [kfc]; rfl)).trans z32
  subst qy43
  refine lv_istore (lv' := [(7, .int (q_i 20)), (6, .int (q_i 0)), (5, .int (q_i 0)), (0, .ref b), (1, .ref x), (2, .ref mo), (3, .ref out), (4, .ref outD)]) cx.1 cx.2.1 dL_law_291 hl (by decide) rfl (fun ls hl => ?_)
  refine q_ald_n cx dL_law_293 rfl (lv_at hl 5 rfl) ?_
  refine q_cVi (As := []) (rest := []) cx hB (fun q h => hLA q h) hN hmo kmo (by decide) rfl (r_thrown l g hN hB.2.1 mo hmo kmo 0 (by decide) (by decide) z45) q_cL_124 q_dX12_thrown (by decide) rfl rfl hl.1 rfl (Nat.le_of_ble_eq_true rfl) dL_law_294 (fun y58 H locs f57 ry58 h59 hF hB => ?_)
  obtain ⟨rfl, qy58⟩ := h59
  subst qy58
  refine lv_iload cx.1 cx.2.1 dL_law_297 (lv_at hl 1 rfl) ?_
  refine q_iceq (tgt := 304) cx ⟨by decide, by decide⟩ ⟨by decide, by decide⟩ dL_law_299 (by decide) (fun c60 => ?_) (fun c60 => ?_)
  · refine lv_iload cx.1 cx.2.1 dL_law_304 (lv_at hl 1 rfl) ?_
    refine q_ifne (tgt := 321) cx ⟨by decide, by decide⟩ dL_law_306 (by decide) (fun c61 => ?_) (fun c61 => ?_)
    · exact absurd c61 (by omega)
    · refine q_ald_n cx dL_law_309 rfl (lv_at hl 6 rfl) ?_
      refine q_iconst cx dL_law_310 ?_
      refine q_lald (n := 1) cx hB hout kout (by decide) rfl rfl (by decide) (by decide) (by decide) rfl z46 dL_law_311 ?_
      refine lv_iload cx.1 cx.2.1 dL_law_312 (lv_at hl 0 rfl) ?_
      refine q_i2l cx ⟨by decide, by decide⟩ dL_law_314 ?_
      refine q_lcmp cx dL_law_315 (fun y62 ly62 uy62 ey62 gy62 hy62 => ?_)
      rw [q_lInt ⟨by decide, by decide⟩] at ey62 hy62
      refine q_ifeq (tgt := 321) cx ⟨by omega, by omega⟩ dL_law_316 (by decide) (fun c63 => ?_) (fun c63 => ?_)
      · refine lv_goto (tgt := 2394) cx.1 cx.2.1 dL_law_321 (by decide) ?_
        refine q_iinc (lv' := [(5, .int (q_i (0 + 6))), (7, .int (q_i 20)), (6, .int (q_i 0)), (0, .ref b), (1, .ref x), (2, .ref mo), (3, .ref out), (4, .ref outD)]) cx dL_law_2394 hl (k := 2) rfl (by decide) rfl (fun ls hl => ?_)
        refine lv_goto (tgt := 28) cx.1 cx.2.1 dL_law_2397 (by decide) ?_
        refine lv_iload cx.1 cx.2.1 dL_law_28 (lv_at hl 0 rfl) ?_
        refine q_ald_n cx dL_law_30 rfl (lv_at hl 3 rfl) ?_
        refine va_slen cx.1 cx.2.1 hXs hbl hbA hB.1.2.2.2 dL_law_31 ?_
        rw [show Int32.ofNat 6 = q_i 6 from by decide]
        refine q_bipush cx dL_law_32 rfl ?_
        refine q_isub cx dL_law_34 ?_
        refine q_icgt (tgt := 2400) cx ⟨by decide, by decide⟩ ⟨by decide, by decide⟩ dL_law_35 (by decide) (fun c64 => ?_) (fun c64 => ?_)
        · refine q_iconst cx dL_law_2400 ?_
          exact q_lawret C0 hB (by decide) (by decide) dL_law_2401
        · exact absurd c64 (by omega)
      · exact absurd c63 (by omega)
  · exact absurd c60 (by omega)
set_option maxHeartbeats 4000000 in
set_option maxRecDepth 100000 in
theorem law_c324 {p : Program} {l : Launch} {e : Env} {s : State} {m : MethodId} {below : List Frame} {meth : Method} {c : Code} {b : Nat} {xs : Nat → Int32} (hfl : l.stackTraces = false) (C0 : lw_At p s m meth c b 6 xs) (cx : CallFix p m c cL_law 10 s #[Value.ref b] q_al RL) {g : q_G} {K : Nat → Nat} {L : List Nat} {f : Nat → va_E} {H : Heap} {locs : List Loc} {ls : Array Slot} (hN : L.Nodup) (hLA : ∀ q, q ∈ L → s.heap.size ≤ q) (hX : q_X (fun q => q ∈ L) s) (hB : q_B g K L (fun q => s.heap.size ≤ q) [(2, 1, 2), (6, 1, 1), (7, 1, 4), (8, 1, 9), (9, 0, 2), (10, 3, 15), (11, 9, 9), (12, 0, 40), (13, 3, 15), (14, 3, 15), (15, 3, 15), (16, 3, 15), (142, 0, 599), (150, 0, 599), (151, 0, 657), (152, 0, 657), (153, 0, 657), (154, 0, 657), (155, 0, 3947), (156, 0, 9), (157, 0, 9), (158, 0, 9), (168, 0, 0), (169, 0, 0)] f f s H locs) {x : Nat} (hx : x ∈ L) (kx : K x = 11) {src : Nat} (hsrc : src ∈ L) (ksrc : K src = 8) {rdr : Nat} (hrdr : rdr ∈ L) (krdr : K rdr = 9) {scr : Nat} (hscr : scr ∈ L) (kscr : K scr = 7) {fc : Nat} (hfc : fc ∈ L) (kfc : K fc = 1) {hist : Nat} (hhist : hist ∈ L) (khist : K hist = 2) {rep : Nat} (hrep : rep ∈ L) (krep : K rep = 6) {now : Nat} (hnow : now ∈ L) (know : K now = 10) {dr : Nat} (hdr : dr ∈ L) (kdr : K dr = 13) {sv : Nat} (hsv : sv ∈ L) (ksv : K sv = 14) {tr : Nat} (htr : tr ∈ L) (ktr : K tr = 15) {mo : Nat} (hmo : mo ∈ L) (kmo : K mo = 12) {bu : Nat} (hbu : bu ∈ L) (kbu : K bu = 150) {sr : Nat} (hsr : sr ∈ L) (ksr : K sr = 151) {sd : Nat} (hsd : sd ∈ L) (ksd : K sd = 152) {as : Nat} (has : as ∈ L) (kas : K as = 153) {aw : Nat} (haw : aw ∈ L) (kaw : K aw = 154) {pa : Nat} (hpa : pa ∈ L) (kpa : K pa = 155) {nm : Nat} (hnm : nm ∈ L) (knm : K nm = 156) {snm : Nat} (hsnm : snm ∈ L) (ksnm : K snm = 157) {anm : Nat} (hanm : anm ∈ L) (kanm : K anm = 158) {out : Nat} (hout : out ∈ L) (kout : K out = 168) {outD : Nat} (houtD : outD ∈ L) (koutD : K outD = 169) (hf0 : q_z f x 9 = 0) (hf1 : q_z f src 1 = 0) (hf2 : q_z f src 2 = 0) (hf3 : q_z f src 3 = (-1)) (hf4 : q_z f hist 1 = 0) (hf5 : q_z f hist 2 = 0) (hf6 : q_z f rep 1 = 0) (hf7 : q_z f now 3 = 0) (hf8 : q_z f now 4 = 0) (hf9 : q_z f now 5 = 0) (hf10 : q_z f now 6 = 12) (hf11 : q_z f now 10 = 3) (hf12 : q_z f now 11 = 0) (hf13 : q_z f now 12 = 0) (hf14 : q_z f mo 2 = 0) (hf15 : q_z f mo 8 = 0) (hf16 : q_z f mo 9 = (-1)) (hf17 : q_z f mo 10 = 0) (hf18 : q_z f mo 11 = (-1)) (hf19 : q_z f mo 21 = 0) (hf20 : q_z f mo 22 = 0) (hf21 : q_z f mo 40 = 0) (hf22 : q_z f sr 0 = 0) (hf23 : q_z f sr 1 = 0) (hf24 : q_z f sr 2 = 12) (hf25 : q_z f sr 3 = 0) (hf26 : q_z f sr 4 = 0) (hf27 : q_z f sr 5 = 1) (hf28 : q_z f sr 6 = 2) (hf29 : q_z f sr 7 = 5) (hf30 : q_z f sr 8 = 3) (hf31 : q_z f sr 9 = 0) (hr0 : q_r f x 0 = src) (hr1 : q_r f x 1 = rdr) (hr2 : q_r f x 2 = scr) (hr3 : q_r f x 3 = fc) (hr4 : q_r f x 4 = hist) (hr5 : q_r f x 5 = rep) (hr6 : q_r f x 6 = now) (hr7 : q_r f x 7 = dr) (hr8 : q_r f x 8 = sv) (hr9 : q_r f fc 0 = tr) (hr10 : q_r f mo 1 = bu) (hr11 : q_r f mo 13 = sr) (hr12 : q_r f mo 14 = sd) (hr13 : q_r f mo 15 = as) (hr14 : q_r f mo 16 = aw) (hr15 : q_r f mo 17 = pa) (hr16 : q_r f mo 18 = nm) (hr17 : q_r f mo 19 = snm) (hr18 : q_r f mo 20 = anm) (hl : lv_has ls 10 [(5, .int (q_i 0)), (0, .ref b), (1, .ref x), (2, .ref mo), (3, .ref out), (4, .ref outD)]) : W p l e room_1 s m #[Value.ref b] below meth c H locs 1100 20000 (lw_Z below #[Value.ref b] s) (F0 m 324 ls []) := by
  have hXs := C0.2.2.2.2.2.2.1
  have hbl := C0.2.2.2.2.2.2.2.1
  have hbA := q_bA hbl
  obtain ⟨x0, rx0, ex0⟩ : ∃ z : Int, q_R z ∧ xs 0 = q_i z := ⟨_, q_rng _, (q_of _).symm⟩
  have lx0 := rx0.1
  have ux0 := rx0.2
  obtain ⟨x1, rx1, ex1⟩ : ∃ z : Int, q_R z ∧ xs 1 = q_i z := ⟨_, q_rng _, (q_of _).symm⟩
  have lx1 := rx1.1
  have ux1 := rx1.2
  obtain ⟨x2, rx2, ex2⟩ : ∃ z : Int, q_R z ∧ xs 2 = q_i z := ⟨_, q_rng _, (q_of _).symm⟩
  have lx2 := rx2.1
  have ux2 := rx2.2
  obtain ⟨x3, rx3, ex3⟩ : ∃ z : Int, q_R z ∧ xs 3 = q_i z := ⟨_, q_rng _, (q_of _).symm⟩
  have lx3 := rx3.1
  have ux3 := rx3.2
  obtain ⟨x4, rx4, ex4⟩ : ∃ z : Int, q_R z ∧ xs 4 = q_i z := ⟨_, q_rng _, (q_of _).symm⟩
  have lx4 := rx4.1
  have ux4 := rx4.2
  obtain ⟨x5, rx5, ex5⟩ : ∃ z : Int, q_R z ∧ xs 5 = q_i z := ⟨_, q_rng _, (q_of _).symm⟩
  have lx5 := rx5.1
  have ux5 := rx5.2
  refine q_ald_n cx dL_law_324 rfl (lv_at hl 2 rfl) ?_
  refine q_ald_n cx dL_law_325 rfl (lv_at hl 1 rfl) ?_
  refine lv_iload cx.1 cx.2.1 dL_law_326 (lv_at hl 0 rfl) ?_
  refine q_iconst cx dL_law_328 ?_
  refine q_iadd cx dL_law_329 ?_
  refine va_sld cx.1 cx.2.1 hXs hbl hbA hB.1.2.2.2 (q_in (by decide) (by decide) (by decide)) dL_law_330 ?_
  rw [show (q_i (0 + 1)).toNatClampNeg = 1 from by decide, ex1]
  refine q_ald_n cx dL_law_331 rfl (lv_at hl 4 rfl) ?_
  by_cases c1 : x1 ≤ (-1)
  · refine q_cWS (As := [.ref x, .int (q_i x1), .ref out]) (rest := []) cx hX hB (fun q h => hLA q h) (fun q h1 h2 => absurd h1 (Nat.not_le_of_lt h2)) hN (w_truncatea l g hN hB.2.1 hfl x hx kx x1 (by omega) (by omega) out hout kout src hsrc ksrc rdr hrdr krdr scr hscr kscr fc hfc kfc hist hhist khist rep hrep krep now hnow know dr hdr kdr sv hsv ksv tr htr ktr hf0 hf1 hf2 hf3 hf4 hf5 hf6 hf7 hf8 hf9 hf10 hf11 hf12 hf13 hr0 hr1 hr2 hr3 hr4 hr5 hr6 hr7 hr8 hr9) q_cL_127 q_dL_truncate (by decide) rfl rfl hl.1 rfl (Nat.le_of_ble_eq_true rfl) dL_law_332 (fun v9 H locs f2 h4 hF hB => ?_)
    obtain ⟨y3, rfl, ry3, h4⟩ := h4
    refine W.eq (g2 := F0 m 335 ls [.int (q_i y3)]) rfl ?_
    have qy3 := h4
    have z5 : q_z f2 x 9 = 0 := (hF.z hx (by rw [kx]; rfl)).trans hf0
    have z6 : q_z f2 src 1 = 0 := (hF.z hsrc (by rw [ksrc]; rfl)).trans hf1
    have z7 : q_z f2 src 2 = 0 := (hF.z hsrc (by rw [ksrc]; rfl)).trans hf2
    have z8 : q_z f2 src 3 = (-1) := (hF.z hsrc (by rw [ksrc]; rfl)).trans hf3
    have z9 : q_z f2 hist 1 = 0 := (hF.z hhist (by rw [khist]; rfl)).trans hf4
    have z10 : q_z f2 hist 2 = 0 := (hF.z hhist (by rw [khist]; rfl)).trans hf5
    have z11 : q_z f2 rep 1 = 0 := (hF.z hrep (by rw [krep]; rfl)).trans hf6
    have z12 : q_z f2 now 3 = 0 := (hF.z hnow (by rw [know]; rfl)).trans hf7
    have z13 : q_z f2 now 4 = 0 := (hF.z hnow (by rw [know]; rfl)).trans hf8
    have z14 : q_z f2 now 5 = 0 := (hF.z hnow (by rw [know]; rfl)).trans hf9
    have z15 : q_z f2 now 6 = 12 := (hF.z hnow (by rw [know]; rfl)).trans hf10
    have z16 : q_z f2 now 10 = 3 := (hF.z hnow (by rw [know]; rfl)).trans hf11
    have z17 : q_z f2 now 11 = 0 := (hF.z hnow (by rw [know]; rfl)).trans hf12
    have z18 : q_z f2 now 12 = 0 := (hF.z hnow (by rw [know]; rfl)).trans hf13
    have z19 : q_z f2 mo 2 = 0 := (hF.z hmo (by rw [kmo]; rfl)).trans hf14
    have z20 : q_z f2 mo 8 = 0 := (hF.z hmo (by rw [kmo]; rfl)).trans hf15
    have z21 : q_z f2 mo 9 = (-1) := (hF.z hmo (by rw [kmo]; rfl)).trans hf16
    have z22 : q_z f2 mo 10 = 0 := (hF.z hmo (by rw [kmo]; rfl)).trans hf17
    have z23 : q_z f2 mo 11 = (-1) := (hF.z hmo (by rw [kmo]; rfl)).trans hf18
    have z24 : q_z f2 mo 21 = 0 := (hF.z hmo (by rw [kmo]; rfl)).trans hf19
    have z25 : q_z f2 mo 22 = 0 := (hF.z hmo (by rw [kmo]; rfl)).trans hf20
    have z26 : q_z f2 mo 40 = 0 := (hF.z hmo (by rw [kmo]; rfl)).trans hf21
    have z27 : q_z f2 sr 0 = 0 := (hF.z hsr (by rw [ksr]; rfl)).trans hf22
    have z28 : q_z f2 sr 1 = 0 := (hF.z hsr (by rw [ksr]; rfl)).trans hf23
    have z29 : q_z f2 sr 2 = 12 := (hF.z hsr (by rw [ksr]; rfl)).trans hf24
    have z30 : q_z f2 sr 3 = 0 := (hF.z hsr (by rw [ksr]; rfl)).trans hf25
    have z31 : q_z f2 sr 4 = 0 := (hF.z hsr (by rw [ksr]; rfl)).trans hf26
    have z32 : q_z f2 sr 5 = 1 := (hF.z hsr (by rw [ksr]; rfl)).trans hf27
    have z33 : q_z f2 sr 6 = 2 := (hF.z hsr (by rw [ksr]; rfl)).trans hf28
    have z34 : q_z f2 sr 7 = 5 := (hF.z hsr (by rw [ksr]; rfl)).trans hf29
    have z35 : q_z f2 sr 8 = 3 := (hF.z hsr (by rw [ksr]; rfl)).trans hf30
    have z36 : q_z f2 sr 9 = 0 := (hF.z hsr (by rw [ksr]; rfl)).trans hf31
    have z37 : q_r f2 x 0 = src := (hF.r hx (by rw [kx]; rfl)).trans hr0
    have z38 : q_r f2 x 1 = rdr := (hF.r hx (by rw [kx]; rfl)).trans hr1
    have z39 : q_r f2 x 2 = scr := (hF.r hx (by rw [kx]; rfl)).trans hr2
    have z40 : q_r f2 x 3 = fc := (hF.r hx (by rw [kx]; rfl)).trans hr3
    have z41 : q_r f2 x 4 = hist := (hF.r hx (by rw [kx]; rfl)).trans hr4
    have z42 : q_r f2 x 5 = rep := (hF.r hx (by rw [kx]; rfl)).trans hr5
    have z43 : q_r f2 x 6 = now := (hF.r hx (by rw [kx]; rfl)).trans hr6
    have z44 : q_r f2 x 7 = dr := (hF.r hx (by rw [kx]; rfl)).trans hr7
    have z45 : q_r f2 x 8 = sv := (hF.r hx (by rw [kx]; rfl)).trans hr8
    have z46 : q_r f2 fc 0 = tr := (hF.r hfc (by rw [kfc]; rfl)).trans hr9
    have z47 : q_r f2 mo 1 = bu := (hF.r hmo (by rw [kmo]; rfl)).trans hr10
    have z48 : q_r f2 mo 13 = sr := (hF.r hmo (by rw [kmo]; rfl)).trans hr11
    have z49 : q_r f2 mo 14 = sd := (hF.r hmo (by rw [kmo]; rfl)).trans hr12
    have z50 : q_r f2 mo 15 = as := (hF.r hmo (by rw [kmo]; rfl)).trans hr13
    have z51 : q_r f2 mo 16 = aw := (hF.r hmo (by rw [kmo]; rfl)).trans hr14
    have z52 : q_r f2 mo 17 = pa := (hF.r hmo (by rw [kmo]; rfl)).trans hr15
    have z53 : q_r f2 mo 18 = nm := (hF.r hmo (by rw [kmo]; rfl)).trans hr16
    have z54 : q_r f2 mo 19 = snm := (hF.r hmo (by rw [kmo]; rfl)).trans hr17
    have z55 : q_r f2 mo 20 = anm := (hF.r hmo (by rw [kmo]; rfl)).trans hr18
    subst qy3
    refine lv_istore (lv' := [(6, .int (q_i 1)), (5, .int (q_i 0)), (0, .ref b), (1, .ref x), (2, .ref mo), (3, .ref out), (4, .ref outD)]) cx.1 cx.2.1 dL_law_335 hl (by decide) rfl (fun ls hl => ?_)
    refine q_ald_n cx dL_law_337 rfl (lv_at hl 4 rfl) ?_
    refine q_ald_n cx dL_law_338 rfl (lv_at hl 2 rfl) ?_
    refine lv_iload cx.1 cx.2.1 dL_law_339 (lv_at hl 1 rfl) ?_
    refine q_iconst cx dL_law_341 ?_
    refine q_iadd cx dL_law_342 ?_
    refine va_sld cx.1 cx.2.1 hXs hbl hbA hB.1.2.2.2 (q_in (by decide) (by decide) (by decide)) dL_law_343 ?_
    rw [show (q_i (0 + 1)).toNatClampNeg = 1 from by decide, ex1]
    refine q_cVi (As := [.int (q_i x1)]) (rest := []) cx hB (fun q h => hLA q h) hN hmo kmo (by decide) rfl (p_truncatea l g hN hB.2.1 mo hmo kmo x1 (by omega) (by omega) bu hbu kbu sr hsr ksr sd hsd ksd as has kas aw haw kaw pa hpa kpa nm hnm knm snm hsnm ksnm anm hanm kanm z19 z20 z21 z22 z23 z24 z25 z26 z27 z28 z29 z30 z31 z32 z33 z34 z35 z36 z47 z48 z49 z50 z51 z52 z53 z54 z55) q_cL_130 q_dX12_truncate (by decide) rfl rfl hl.1 rfl (Nat.le_of_ble_eq_true rfl) dL_law_344 (fun y57 H locs f56 ry57 h58 hF hB => ?_)
    obtain ⟨qy57, z59⟩ := h58
    have z60 : q_z f56 x 9 = 0 := (hF.z hx (by rw [kx]; rfl)).trans z5
    have z61 : q_z f56 src 1 = 0 := (hF.z hsrc (by rw [ksrc]; rfl)).trans z6
    have z62 : q_z f56 src 2 = 0 := (hF.z hsrc (by rw [ksrc]; rfl)).trans z7
    have z63 : q_z f56 src 3 = (-1) := (hF.z hsrc (by rw [ksrc]; rfl)).trans z8
    have z64 : q_z f56 hist 1 = 0 := (hF.z hhist (by rw [khist]; rfl)).trans z9
    have z65 : q_z f56 hist 2 = 0 := (hF.z hhist (by rw [khist]; rfl)).trans z10
    have z66 : q_z f56 rep 1 = 0 := (hF.z hrep (by rw [krep]; rfl)).trans z11
    have z67 : q_z f56 now 3 = 0 := (hF.z hnow (by rw [know]; rfl)).trans z12
    have z68 : q_z f56 now 4 = 0 := (hF.z hnow (by rw [know]; rfl)).trans z13
    have z69 : q_z f56 now 5 = 0 := (hF.z hnow (by rw [know]; rfl)).trans z14
    have z70 : q_z f56 now 6 = 12 := (hF.z hnow (by rw [know]; rfl)).trans z15
    have z71 : q_z f56 now 10 = 3 := (hF.z hnow (by rw [know]; rfl)).trans z16
    have z72 : q_z f56 now 11 = 0 := (hF.z hnow (by rw [know]; rfl)).trans z17
    have z73 : q_z f56 now 12 = 0 := (hF.z hnow (by rw [know]; rfl)).trans z18
    have z74 : q_r f56 x 0 = src := (hF.r hx (by rw [kx]; rfl)).trans z37
    have z75 : q_r f56 x 1 = rdr := (hF.r hx (by rw [kx]; rfl)).trans z38
    have z76 : q_r f56 x 2 = scr := (hF.r hx (by rw [kx]; rfl)).trans z39
    have z77 : q_r f56 x 3 = fc := (hF.r hx (by rw [kx]; rfl)).trans z40
    have z78 : q_r f56 x 4 = hist := (hF.r hx (by rw [kx]; rfl)).trans z41
    have z79 : q_r f56 x 5 = rep := (hF.r hx (by rw [kx]; rfl)).trans z42
    have z80 : q_r f56 x 6 = now := (hF.r hx (by rw [kx]; rfl)).trans z43
    have z81 : q_r f56 x 7 = dr := (hF.r hx (by rw [kx]; rfl)).trans z44
    have z82 : q_r f56 x 8 = sv := (hF.r hx (by rw [kx]; rfl)).trans z45
    have z83 : q_r f56 fc 0 = tr := (hF.r hfc (by rw [kfc]; rfl)).trans z46
    subst qy57
    refine lv_istore (lv' := [(7, .int (q_i 0)), (6, .int (q_i 1)), (5, .int (q_i 0)), (0, .ref b), (1, .ref x), (2, .ref mo), (3, .ref out), (4, .ref outD)]) cx.1 cx.2.1 dL_law_347 hl (by decide) rfl (fun ls hl => ?_)
    refine q_ald_n cx dL_law_349 rfl (lv_at hl 5 rfl) ?_
    refine q_cVi (As := []) (rest := []) cx hB (fun q h => hLA q h) hN hmo kmo (by decide) rfl (r_thrown l g hN hB.2.1 mo hmo kmo 1 (by decide) (by decide) z59) q_cL_124 q_dX12_thrown (by decide) rfl rfl hl.1 rfl (Nat.le_of_ble_eq_true rfl) dL_law_350 (fun y85 H locs f84 ry85 h86 hF hB => ?_)
    obtain ⟨rfl, qy85⟩ := h86
    subst qy85
    refine lv_iload cx.1 cx.2.1 dL_law_353 (lv_at hl 1 rfl) ?_
    refine q_iceq (tgt := 360) cx ⟨by decide, by decide⟩ ⟨by decide, by decide⟩ dL_law_355 (by decide) (fun c87 => ?_) (fun c87 => ?_)
    · refine lv_iload cx.1 cx.2.1 dL_law_360 (lv_at hl 1 rfl) ?_
      refine q_ifne (tgt := 377) cx ⟨by decide, by decide⟩ dL_law_362 (by decide) (fun c88 => ?_) (fun c88 => ?_)
      · refine lv_goto (tgt := 2394) cx.1 cx.2.1 dL_law_377 (by decide) ?_
        refine q_iinc (lv' := [(5, .int (q_i (0 + 6))), (7, .int (q_i 0)), (6, .int (q_i 1)), (0, .ref b), (1, .ref x), (2, .ref mo), (3, .ref out), (4, .ref outD)]) cx dL_law_2394 hl (k := 2) rfl (by decide) rfl (fun ls hl => ?_)
        refine lv_goto (tgt := 28) cx.1 cx.2.1 dL_law_2397 (by decide) ?_
        refine lv_iload cx.1 cx.2.1 dL_law_28 (lv_at hl 0 rfl) ?_
        refine q_ald_n cx dL_law_30 rfl (lv_at hl 3 rfl) ?_
        refine va_slen cx.1 cx.2.1 hXs hbl hbA hB.1.2.2.2 dL_law_31 ?_
        rw [show Int32.ofNat 6 = q_i 6 from by decide]
        refine q_bipush cx dL_law_32 rfl ?_
        refine q_isub cx dL_law_34 ?_
        refine q_icgt (tgt := 2400) cx ⟨by decide, by decide⟩ ⟨by decide, by decide⟩ dL_law_35 (by decide) (fun c89 => ?_) (fun c89 => ?_)
        · refine q_iconst cx dL_law_2400 ?_
          exact q_lawret C0 hB (by decide) (by decide) dL_law_2401
        · exact absurd c89 (by omega)
      · exact absurd c88 (by omega)
    · exact absurd c87 (by omega)
  · by_cases c90 : x1 ≤ 0
    · refine q_cWS (As := [.ref x, .int (q_i x1), .ref out]) (rest := []) cx hX hB (fun q h => hLA q h) (fun q h1 h2 => absurd h1 (Nat.not_le_of_lt h2)) hN (w_truncateb l g hN hB.2.1 hfl x hx kx x1 (by omega) (by omega) out hout kout src hsrc ksrc rdr hrdr krdr scr hscr kscr fc hfc kfc hist hhist khist rep hrep krep now hnow know dr hdr kdr sv hsv ksv tr htr ktr hf0 hf1 hf2 hf3 hf4 hf5 hf6 hf7 hf8 hf9 hf10 hf11 hf12 hf13 hr0 hr1 hr2 hr3 hr4 hr5 hr6 hr7 hr8 hr9) q_cL_127 q_dL_truncate (by decide) rfl rfl hl.1 rfl (Nat.le_of_ble_eq_true rfl) dL_law_332 (fun v9 H locs f91 h93 hF hB => ?_)
      obtain ⟨y92, rfl, ry92, h93⟩ := h93
      refine W.eq (g2 := F0 m 335 ls [.int (q_i y92)]) rfl ?_
      obtain ⟨qy92, z94⟩ := h93
      have z95 : q_z f91 mo 2 = 0 := (hF.z hmo (by rw [kmo]; rfl)).trans hf14
      have z96 : q_z f91 mo 8 = 0 := (hF.z hmo (by rw [kmo]; rfl)).trans hf15
      have z97 : q_z f91 mo 9 = (-1) := (hF.z hmo (by rw [kmo]; rfl)).trans hf16
      have z98 : q_z f91 mo 10 = 0 := (hF.z hmo (by rw [kmo]; rfl)).trans hf17
      have z99 : q_z f91 mo 11 = (-1) := (hF.z hmo (by rw [kmo]; rfl)).trans hf18
      have z100 : q_z f91 mo 21 = 0 := (hF.z hmo (by rw [kmo]; rfl)).trans hf19
      have z101 : q_z f91 mo 22 = 0 := (hF.z hmo (by rw [kmo]; rfl)).trans hf20
      have z102 : q_z f91 mo 40 = 0 := (hF.z hmo (by rw [kmo]; rfl)).trans hf21
      have z103 : q_z f91 sr 0 = 0 := (hF.z hsr (by rw [ksr]; rfl)).trans hf22
      have z104 : q_z f91 sr 1 = 0 := (hF.z hsr (by rw [ksr]; rfl)).trans hf23
      have z105 : q_z f91 sr 2 = 12 := (hF.z hsr (by rw [ksr]; rfl)).trans hf24
      have z106 : q_z f91 sr 3 = 0 := (hF.z hsr (by rw [ksr]; rfl)).trans hf25
      have z107 : q_z f91 sr 4 = 0 := (hF.z hsr (by rw [ksr]; rfl)).trans hf26
      have z108 : q_z f91 sr 5 = 1 := (hF.z hsr (by rw [ksr]; rfl)).trans hf27
      have z109 : q_z f91 sr 6 = 2 := (hF.z hsr (by rw [ksr]; rfl)).trans hf28
      have z110 : q_z f91 sr 7 = 5 := (hF.z hsr (by rw [ksr]; rfl)).trans hf29
      have z111 : q_z f91 sr 8 = 3 := (hF.z hsr (by rw [ksr]; rfl)).trans hf30
      have z112 : q_z f91 sr 9 = 0 := (hF.z hsr (by rw [ksr]; rfl)).trans hf31
      have z113 : q_r f91 x 0 = src := (hF.r hx (by rw [kx]; rfl)).trans hr0
      have z114 : q_r f91 x 1 = rdr := (hF.r hx (by rw [kx]; rfl)).trans hr1
      have z115 : q_r f91 x 2 = scr := (hF.r hx (by rw [kx]; rfl)).trans hr2
      have z116 : q_r f91 x 3 = fc := (hF.r hx (by rw [kx]; rfl)).trans hr3
      have z117 : q_r f91 x 4 = hist := (hF.r hx (by rw [kx]; rfl)).trans hr4
      have z118 : q_r f91 x 5 = rep := (hF.r hx (by rw [kx]; rfl)).trans hr5
      have z119 : q_r f91 x 6 = now := (hF.r hx (by rw [kx]; rfl)).trans hr6
      have z120 : q_r f91 x 7 = dr := (hF.r hx (by rw [kx]; rfl)).trans hr7
      have z121 : q_r f91 x 8 = sv := (hF.r hx (by rw [kx]; rfl)).trans hr8
      have z122 : q_r f91 fc 0 = tr := (hF.r hfc (by rw [kfc]; rfl)).trans hr9
      have z123 : q_r f91 mo 1 = bu := (hF.r hmo (by rw [kmo]; rfl)).trans hr10
      have z124 : q_r f91 mo 13 = sr := (hF.r hmo (by rw [kmo]; rfl)).trans hr11
      have z125 : q_r f91 mo 14 = sd := (hF.r hmo (by rw [kmo]; rfl)).trans hr12
      have z126 : q_r f91 mo 15 = as := (hF.r hmo (by rw [kmo]; rfl)).trans hr13
      have z127 : q_r f91 mo 16 = aw := (hF.r hmo (by rw [kmo]; rfl)).trans hr14
      have z128 : q_r f91 mo 17 = pa := (hF.r hmo (by rw [kmo]; rfl)).trans hr15
      have z129 : q_r f91 mo 18 = nm := (hF.r hmo (by rw [kmo]; rfl)).trans hr16
      have z130 : q_r f91 mo 19 = snm := (hF.r hmo (by rw [kmo]; rfl)).trans hr17
      have z131 : q_r f91 mo 20 = anm := (hF.r hmo (by rw [kmo]; rfl)).trans hr18
      subst qy92
      refine lv_istore (lv' := [(6, .int (q_i 0)), (5, .int (q_i 0)), (0, .ref b), (1, .ref x), (2, .ref mo), (3, .ref out), (4, .ref outD)]) cx.1 cx.2.1 dL_law_335 hl (by decide) rfl (fun ls hl => ?_)
      refine q_ald_n cx dL_law_337 rfl (lv_at hl 4 rfl) ?_
      refine q_ald_n cx dL_law_338 rfl (lv_at hl 2 rfl) ?_
      refine lv_iload cx.1 cx.2.1 dL_law_339 (lv_at hl 1 rfl) ?_
      refine q_iconst cx dL_law_341 ?_
      refine q_iadd cx dL_law_342 ?_
      refine va_sld cx.1 cx.2.1 hXs hbl hbA hB.1.2.2.2 (q_in (by decide) (by decide) (by decide)) dL_law_343 ?_
      rw [show (q_i (0 + 1)).toNatClampNeg = 1 from by decide, ex1]
      refine q_cVi (As := [.int (q_i x1)]) (rest := []) cx hB (fun q h => hLA q h) hN hmo kmo (by decide) rfl (p_truncateb l g hN hB.2.1 mo hmo kmo x1 (by omega) (by omega) bu hbu kbu sr hsr ksr sd hsd ksd as has kas aw haw kaw pa hpa kpa nm hnm knm snm hsnm ksnm anm hanm kanm z95 z96 z97 z98 z99 z100 z101 z102 z103 z104 z105 z106 z107 z108 z109 z110 z111 z112 z123 z124 z125 z126 z127 z128 z129 z130 z131) q_cL_130 q_dX12_truncate (by decide) rfl rfl hl.1 rfl (Nat.le_of_ble_eq_true rfl) dL_law_344 (fun y133 H locs f132 ry133 h134 hF hB => ?_)
      obtain ⟨qy133, z135⟩ := h134
      have z136 : q_j f132 out 0 = (q_l 0) := (hF.j hout (by rw [kout]; rfl)).trans z94
      have z137 : q_r f132 x 0 = src := (hF.r hx (by rw [kx]; rfl)).trans z113
      have z138 : q_r f132 x 1 = rdr := (hF.r hx (by rw [kx]; rfl)).trans z114
      have z139 : q_r f132 x 2 = scr := (hF.r hx (by rw [kx]; rfl)).trans z115
      have z140 : q_r f132 x 3 = fc := (hF.r hx (by rw [kx]; rfl)).trans z116
      have z141 : q_r f132 x 4 = hist := (hF.r hx (by rw [kx]; rfl)).trans z117
      have z142 : q_r f132 x 5 = rep := (hF.r hx (by rw [kx]; rfl)).trans z118
      have z143 : q_r f132 x 6 = now := (hF.r hx (by rw [kx]; rfl)).trans z119
      have z144 : q_r f132 x 7 = dr := (hF.r hx (by rw [kx]; rfl)).trans z120
      have z145 : q_r f132 x 8 = sv := (hF.r hx (by rw [kx]; rfl)).trans z121
      have z146 : q_r f132 fc 0 = tr := (hF.r hfc (by rw [kfc]; rfl)).trans z122
      subst qy133
      refine lv_istore (lv' := [(7, .int (q_i 0)), (6, .int (q_i 0)), (5, .int (q_i 0)), (0, .ref b), (1, .ref x), (2, .ref mo), (3, .ref out), (4, .ref outD)]) cx.1 cx.2.1 dL_law_347 hl (by decide) rfl (fun ls hl => ?_)
      refine q_ald_n cx dL_law_349 rfl (lv_at hl 5 rfl) ?_
      refine q_cVi (As := []) (rest := []) cx hB (fun q h => hLA q h) hN hmo kmo (by decide) rfl (r_thrown l g hN hB.2.1 mo hmo kmo 0 (by decide) (by decide) z135) q_cL_124 q_dX12_thrown (by decide) rfl rfl hl.1 rfl (Nat.le_of_ble_eq_true rfl) dL_law_350 (fun y148 H locs f147 ry148 h149 hF hB => ?_)
      obtain ⟨rfl, qy148⟩ := h149
      subst qy148
      refine lv_iload cx.1 cx.2.1 dL_law_353 (lv_at hl 1 rfl) ?_
      refine q_iceq (tgt := 360) cx ⟨by decide, by decide⟩ ⟨by decide, by decide⟩ dL_law_355 (by decide) (fun c150 => ?_) (fun c150 => ?_)
      · refine lv_iload cx.1 cx.2.1 dL_law_360 (lv_at hl 1 rfl) ?_
        refine q_ifne (tgt := 377) cx ⟨by decide, by decide⟩ dL_law_362 (by decide) (fun c151 => ?_) (fun c151 => ?_)
        · exact absurd c151 (by omega)
        · refine q_ald_n cx dL_law_365 rfl (lv_at hl 6 rfl) ?_
          refine q_iconst cx dL_law_366 ?_
          refine q_lald (n := 1) cx hB hout kout (by decide) rfl rfl (by decide) (by decide) (by decide) rfl z136 dL_law_367 ?_
          refine lv_iload cx.1 cx.2.1 dL_law_368 (lv_at hl 0 rfl) ?_
          refine q_i2l cx ⟨by decide, by decide⟩ dL_law_370 ?_
          refine q_lcmp cx dL_law_371 (fun y152 ly152 uy152 ey152 gy152 hy152 => ?_)
          rw [q_lInt ⟨by decide, by decide⟩] at ey152 hy152
          refine q_ifeq (tgt := 377) cx ⟨by omega, by omega⟩ dL_law_372 (by decide) (fun c153 => ?_) (fun c153 => ?_)
          · refine lv_goto (tgt := 2394) cx.1 cx.2.1 dL_law_377 (by decide) ?_
            refine q_iinc (lv' := [(5, .int (q_i (0 + 6))), (7, .int (q_i 0)), (6, .int (q_i 0)), (0, .ref b), (1, .ref x), (2, .ref mo), (3, .ref out), (4, .ref outD)]) cx dL_law_2394 hl (k := 2) rfl (by decide) rfl (fun ls hl => ?_)
            refine lv_goto (tgt := 28) cx.1 cx.2.1 dL_law_2397 (by decide) ?_
            refine lv_iload cx.1 cx.2.1 dL_law_28 (lv_at hl 0 rfl) ?_
            refine q_ald_n cx dL_law_30 rfl (lv_at hl 3 rfl) ?_
            refine va_slen cx.1 cx.2.1 hXs hbl hbA hB.1.2.2.2 dL_law_31 ?_
            rw [show Int32.ofNat 6 = q_i 6 from by decide]
            refine q_bipush cx dL_law_32 rfl ?_
            refine q_isub cx dL_law_34 ?_
            refine q_icgt (tgt := 2400) cx ⟨by decide, by decide⟩ ⟨by decide, by decide⟩ dL_law_35 (by decide) (fun c154 => ?_) (fun c154 => ?_)
            · refine q_iconst cx dL_law_2400 ?_
              exact q_lawret C0 hB (by decide) (by decide) dL_law_2401
            · exact absurd c154 (by omega)
          · exact absurd c153 (by omega)
      · exact absurd c150 (by omega)
    · refine q_cWS (As := [.ref x, .int (q_i x1), .ref out]) (rest := []) cx hX hB (fun q h => hLA q h) (fun q h1 h2 => absurd h1 (Nat.not_le_of_lt h2)) hN (w_truncatec l g hN hB.2.1 hfl x hx kx x1 (by omega) (by omega) out hout kout src hsrc ksrc rdr hrdr krdr scr hscr kscr fc hfc kfc hist hhist khist rep hrep krep now hnow know dr hdr kdr sv hsv ksv tr htr ktr hf0 hf1 hf2 hf3 hf4 hf5 hf6 hf7 hf8 hf9 hf10 hf11 hf12 hf13 hr0 hr1 hr2 hr3 hr4 hr5 hr6 hr7 hr8 hr9) q_cL_127 q_dL_truncate (by decide) rfl rfl hl.1 rfl (Nat.le_of_ble_eq_true rfl) dL_law_332 (fun v9 H locs f155 h157 hF hB => ?_)
      obtain ⟨y156, rfl, ry156, h157⟩ := h157
      refine W.eq (g2 := F0 m 335 ls [.int (q_i y156)]) rfl ?_
      have qy156 := h157
      have z158 : q_z f155 x 9 = 0 := (hF.z hx (by rw [kx]; rfl)).trans hf0
      have z159 : q_z f155 src 1 = 0 := (hF.z hsrc (by rw [ksrc]; rfl)).trans hf1
      have z160 : q_z f155 src 2 = 0 := (hF.z hsrc (by rw [ksrc]; rfl)).trans hf2
      have z161 : q_z f155 src 3 = (-1) := (hF.z hsrc (by rw [ksrc]; rfl)).trans hf3
      have z162 : q_z f155 hist 1 = 0 := (hF.z hhist (by rw [khist]; rfl)).trans hf4
      have z163 : q_z f155 hist 2 = 0 := (hF.z hhist (by rw [khist]; rfl)).trans hf5
      have z164 : q_z f155 rep 1 = 0 := (hF.z hrep (by rw [krep]; rfl)).trans hf6
      have z165 : q_z f155 now 3 = 0 := (hF.z hnow (by rw [know]; rfl)).trans hf7
      have z166 : q_z f155 now 4 = 0 := (hF.z hnow (by rw [know]; rfl)).trans hf8
      have z167 : q_z f155 now 5 = 0 := (hF.z hnow (by rw [know]; rfl)).trans hf9
      have z168 : q_z f155 now 6 = 12 := (hF.z hnow (by rw [know]; rfl)).trans hf10
      have z169 : q_z f155 now 10 = 3 := (hF.z hnow (by rw [know]; rfl)).trans hf11
      have z170 : q_z f155 now 11 = 0 := (hF.z hnow (by rw [know]; rfl)).trans hf12
      have z171 : q_z f155 now 12 = 0 := (hF.z hnow (by rw [know]; rfl)).trans hf13
      have z172 : q_z f155 mo 2 = 0 := (hF.z hmo (by rw [kmo]; rfl)).trans hf14
      have z173 : q_z f155 mo 8 = 0 := (hF.z hmo (by rw [kmo]; rfl)).trans hf15
      have z174 : q_z f155 mo 9 = (-1) := (hF.z hmo (by rw [kmo]; rfl)).trans hf16
      have z175 : q_z f155 mo 10 = 0 := (hF.z hmo (by rw [kmo]; rfl)).trans hf17
      have z176 : q_z f155 mo 11 = (-1) := (hF.z hmo (by rw [kmo]; rfl)).trans hf18
      have z177 : q_z f155 mo 21 = 0 := (hF.z hmo (by rw [kmo]; rfl)).trans hf19
      have z178 : q_z f155 mo 22 = 0 := (hF.z hmo (by rw [kmo]; rfl)).trans hf20
      have z179 : q_z f155 mo 40 = 0 := (hF.z hmo (by rw [kmo]; rfl)).trans hf21
      have z180 : q_z f155 sr 0 = 0 := (hF.z hsr (by rw [ksr]; rfl)).trans hf22
      have z181 : q_z f155 sr 1 = 0 := (hF.z hsr (by rw [ksr]; rfl)).trans hf23
      have z182 : q_z f155 sr 2 = 12 := (hF.z hsr (by rw [ksr]; rfl)).trans hf24
      have z183 : q_z f155 sr 3 = 0 := (hF.z hsr (by rw [ksr]; rfl)).trans hf25
      have z184 : q_z f155 sr 4 = 0 := (hF.z hsr (by rw [ksr]; rfl)).trans hf26
      have z185 : q_z f155 sr 5 = 1 := (hF.z hsr (by rw [ksr]; rfl)).trans hf27
      have z186 : q_z f155 sr 6 = 2 := (hF.z hsr (by rw [ksr]; rfl)).trans hf28
      have z187 : q_z f155 sr 7 = 5 := (hF.z hsr (by rw [ksr]; rfl)).trans hf29
      have z188 : q_z f155 sr 8 = 3 := (hF.z hsr (by rw [ksr]; rfl)).trans hf30
      have z189 : q_z f155 sr 9 = 0 := (hF.z hsr (by rw [ksr]; rfl)).trans hf31
      have z190 : q_r f155 x 0 = src := (hF.r hx (by rw [kx]; rfl)).trans hr0
      have z191 : q_r f155 x 1 = rdr := (hF.r hx (by rw [kx]; rfl)).trans hr1
      have z192 : q_r f155 x 2 = scr := (hF.r hx (by rw [kx]; rfl)).trans hr2
      have z193 : q_r f155 x 3 = fc := (hF.r hx (by rw [kx]; rfl)).trans hr3
      have z194 : q_r f155 x 4 = hist := (hF.r hx (by rw [kx]; rfl)).trans hr4
      have z195 : q_r f155 x 5 = rep := (hF.r hx (by rw [kx]; rfl)).trans hr5
      have z196 : q_r f155 x 6 = now := (hF.r hx (by rw [kx]; rfl)).trans hr6
      have z197 : q_r f155 x 7 = dr := (hF.r hx (by rw [kx]; rfl)).trans hr7
      have z198 : q_r f155 x 8 = sv := (hF.r hx (by rw [kx]; rfl)).trans hr8
      have z199 : q_r f155 fc 0 = tr := (hF.r hfc (by rw [kfc]; rfl)).trans hr9
      have z200 : q_r f155 mo 1 = bu := (hF.r hmo (by rw [kmo]; rfl)).trans hr10
      have z201 : q_r f155 mo 13 = sr := (hF.r hmo (by rw [kmo]; rfl)).trans hr11
      have z202 : q_r f155 mo 14 = sd := (hF.r hmo (by rw [kmo]; rfl)).trans hr12
      have z203 : q_r f155 mo 15 = as := (hF.r hmo (by rw [kmo]; rfl)).trans hr13
      have z204 : q_r f155 mo 16 = aw := (hF.r hmo (by rw [kmo]; rfl)).trans hr14
      have z205 : q_r f155 mo 17 = pa := (hF.r hmo (by rw [kmo]; rfl)).trans hr15
      have z206 : q_r f155 mo 18 = nm := (hF.r hmo (by rw [kmo]; rfl)).trans hr16
      have z207 : q_r f155 mo 19 = snm := (hF.r hmo (by rw [kmo]; rfl)).trans hr17
      have z208 : q_r f155 mo 20 = anm := (hF.r hmo (by rw [kmo]; rfl)).trans hr18
      subst qy156
      refine lv_istore (lv' := [(6, .int (q_i 1)), (5, .int (q_i 0)), (0, .ref b), (1, .ref x), (2, .ref mo), (3, .ref out), (4, .ref outD)]) cx.1 cx.2.1 dL_law_335 hl (by decide) rfl (fun ls hl => ?_)
      refine q_ald_n cx dL_law_337 rfl (lv_at hl 4 rfl) ?_
      refine q_ald_n cx dL_law_338 rfl (lv_at hl 2 rfl) ?_
      refine lv_iload cx.1 cx.2.1 dL_law_339 (lv_at hl 1 rfl) ?_
      refine q_iconst cx dL_law_341 ?_
      refine q_iadd cx dL_law_342 ?_
      refine va_sld cx.1 cx.2.1 hXs hbl hbA hB.1.2.2.2 (q_in (by decide) (by decide) (by decide)) dL_law_343 ?_
      rw [show (q_i (0 + 1)).toNatClampNeg = 1 from by decide, ex1]
      refine q_cVi (As := [.int (q_i x1)]) (rest := []) cx hB (fun q h => hLA q h) hN hmo kmo (by decide) rfl (p_truncatec l g hN hB.2.1 mo hmo kmo x1 (by omega) (by omega) bu hbu kbu sr hsr ksr sd hsd ksd as has kas aw haw kaw pa hpa kpa nm hnm knm snm hsnm ksnm anm hanm kanm z172 z173 z174 z175 z176 z177 z178 z179 z180 z181 z182 z183 z184 z185 z186 z187 z188 z189 z200 z201 z202 z203 z204 z205 z206 z207 z208) q_cL_130 q_dX12_truncate (by decide) rfl rfl hl.1 rfl (Nat.le_of_ble_eq_true rfl) dL_law_344 (fun y210 H locs f209 ry210 h211 hF hB => ?_)
      obtain ⟨qy210, z212⟩ := h211
      have z213 : q_z f209 x 9 = 0 := (hF.z hx (by rw [kx]; rfl)).trans z158
      have z214 : q_z f209 src 1 = 0 := (hF.z hsrc (by rw [ksrc]; rfl)).trans z159
      have z215 : q_z f209 src 2 = 0 := (hF.z hsrc (by rw [ksrc]; rfl)).trans z160
      have z216 : q_z f209 src 3 = (-1) := (hF.z hsrc (by rw [ksrc]; rfl)).trans z161
      have z217 : q_z f209 hist 1 = 0 := (hF.z hhist (by rw [khist]; rfl)).trans z162
      have z218 : q_z f209 hist 2 = 0 := (hF.z hhist (by rw [khist]; rfl)).trans z163
      have z219 : q_z f209 rep 1 = 0 := (hF.z hrep (by rw [krep]; rfl)).trans z164
      have z220 : q_z f209 now 3 = 0 := (hF.z hnow (by rw [know]; rfl)).trans z165
      have z221 : q_z f209 now 4 = 0 := (hF.z hnow (by rw [know]; rfl)).trans z166
      have z222 : q_z f209 now 5 = 0 := (hF.z hnow (by rw [know]; rfl)).trans z167
      have z223 : q_z f209 now 6 = 12 := (hF.z hnow (by rw [know]; rfl)).trans z168
      have z224 : q_z f209 now 10 = 3 := (hF.z hnow (by rw [know]; rfl)).trans z169
      have z225 : q_z f209 now 11 = 0 := (hF.z hnow (by rw [know]; rfl)).trans z170
      have z226 : q_z f209 now 12 = 0 := (hF.z hnow (by rw [know]; rfl)).trans z171
      have z227 : q_r f209 x 0 = src := (hF.r hx (by rw [kx]; rfl)).trans z190
      have z228 : q_r f209 x 1 = rdr := (hF.r hx (by rw [kx]; rfl)).trans z191
      have z229 : q_r f209 x 2 = scr := (hF.r hx (by rw [kx]; rfl)).trans z192
      have z230 : q_r f209 x 3 = fc := (hF.r hx (by rw [kx]; rfl)).trans z193
      have z231 : q_r f209 x 4 = hist := (hF.r hx (by rw [kx]; rfl)).trans z194
      have z232 : q_r f209 x 5 = rep := (hF.r hx (by rw [kx]; rfl)).trans z195
      have z233 : q_r f209 x 6 = now := (hF.r hx (by rw [kx]; rfl)).trans z196
      have z234 : q_r f209 x 7 = dr := (hF.r hx (by rw [kx]; rfl)).trans z197
      have z235 : q_r f209 x 8 = sv := (hF.r hx (by rw [kx]; rfl)).trans z198
      have z236 : q_r f209 fc 0 = tr := (hF.r hfc (by rw [kfc]; rfl)).trans z199
      subst qy210
      refine lv_istore (lv' := [(7, .int (q_i 0)), (6, .int (q_i 1)), (5, .int (q_i 0)), (0, .ref b), (1, .ref x), (2, .ref mo), (3, .ref out), (4, .ref outD)]) cx.1 cx.2.1 dL_law_347 hl (by decide) rfl (fun ls hl => ?_)
      refine q_ald_n cx dL_law_349 rfl (lv_at hl 5 rfl) ?_
      refine q_cVi (As := []) (rest := []) cx hB (fun q h => hLA q h) hN hmo kmo (by decide) rfl (r_thrown l g hN hB.2.1 mo hmo kmo 1 (by decide) (by decide) z212) q_cL_124 q_dX12_thrown (by decide) rfl rfl hl.1 rfl (Nat.le_of_ble_eq_true rfl) dL_law_350 (fun y238 H locs f237 ry238 h239 hF hB => ?_)
      obtain ⟨rfl, qy238⟩ := h239
      subst qy238
      refine lv_iload cx.1 cx.2.1 dL_law_353 (lv_at hl 1 rfl) ?_
      refine q_iceq (tgt := 360) cx ⟨by decide, by decide⟩ ⟨by decide, by decide⟩ dL_law_355 (by decide) (fun c240 => ?_) (fun c240 => ?_)
      · refine lv_iload cx.1 cx.2.1 dL_law_360 (lv_at hl 1 rfl) ?_
        refine q_ifne (tgt := 377) cx ⟨by decide, by decide⟩ dL_law_362 (by decide) (fun c241 => ?_) (fun c241 => ?_)
        · refine lv_goto (tgt := 2394) cx.1 cx.2.1 dL_law_377 (by decide) ?_
          refine q_iinc (lv' := [(5, .int (q_i (0 + 6))), (7, .int (q_i 0)), (6, .int (q_i 1)), (0, .ref b), (1, .ref x), (2, .ref mo), (3, .ref out), (4, .ref outD)]) cx dL_law_2394 hl (k := 2) rfl (by decide) rfl (fun ls hl => ?_)
          refine lv_goto (tgt := 28) cx.1 cx.2.1 dL_law_2397 (by decide) ?_
          refine lv_iload cx.1 cx.2.1 dL_law_28 (lv_at hl 0 rfl) ?_
          refine q_ald_n cx dL_law_30 rfl (lv_at hl 3 rfl) ?_
          refine va_slen cx.1 cx.2.1 hXs hbl hbA hB.1.2.2.2 dL_law_31 ?_
          rw [show Int32.ofNat 6 = q_i 6 from by decide]
          refine q_bipush cx dL_law_32 rfl ?_
          refine q_isub cx dL_law_34 ?_
          refine q_icgt (tgt := 2400) cx ⟨by decide, by decide⟩ ⟨by decide, by decide⟩ dL_law_35 (by decide) (fun c242 => ?_) (fun c242 => ?_)
          · refine q_iconst cx dL_law_2400 ?_
            exact q_lawret C0 hB (by decide) (by decide) dL_law_2401
          · exact absurd c242 (by omega)
        · exact absurd c241 (by omega)
      · exact absurd c240 (by omega)
set_option maxHeartbeats 4000000 in
set_option maxRecDepth 100000 in
theorem law_c380 {p : Program} {l : Launch} {e : Env} {s : State} {m : MethodId} {below : List Frame} {meth : Method} {c : Code} {b : Nat} {xs : Nat → Int32} (hfl : l.stackTraces = false) (C0 : lw_At p s m meth c b 6 xs) (cx : CallFix p m c cL_law 10 s #[Value.ref b] q_al RL) {g : q_G} {K : Nat → Nat} {L : List Nat} {f : Nat → va_E} {H : Heap} {locs : List Loc} {ls : Array Slot} (hN : L.Nodup) (hLA : ∀ q, q ∈ L → s.heap.size ≤ q) (hX : q_X (fun q => q ∈ L) s) (hB : q_B g K L (fun q => s.heap.size ≤ q) [(2, 1, 2), (6, 1, 1), (7, 1, 4), (8, 1, 9), (9, 0, 2), (10, 3, 15), (11, 9, 9), (12, 0, 40), (13, 3, 15), (14, 3, 15), (15, 3, 15), (16, 3, 15), (142, 0, 599), (150, 0, 599), (151, 0, 657), (152, 0, 657), (153, 0, 657), (154, 0, 657), (155, 0, 3947), (156, 0, 9), (157, 0, 9), (158, 0, 9), (168, 0, 0), (169, 0, 0)] f f s H locs) {x : Nat} (hx : x ∈ L) (kx : K x = 11) {src : Nat} (hsrc : src ∈ L) (ksrc : K src = 8) {rdr : Nat} (hrdr : rdr ∈ L) (krdr : K rdr = 9) {scr : Nat} (hscr : scr ∈ L) (kscr : K scr = 7) {fc : Nat} (hfc : fc ∈ L) (kfc : K fc = 1) {hist : Nat} (hhist : hist ∈ L) (khist : K hist = 2) {rep : Nat} (hrep : rep ∈ L) (krep : K rep = 6) {now : Nat} (hnow : now ∈ L) (know : K now = 10) {dr : Nat} (hdr : dr ∈ L) (kdr : K dr = 13) {sv : Nat} (hsv : sv ∈ L) (ksv : K sv = 14) {tr : Nat} (htr : tr ∈ L) (ktr : K tr = 15) {mo : Nat} (hmo : mo ∈ L) (kmo : K mo = 12) {bu : Nat} (hbu : bu ∈ L) (kbu : K bu = 150) {sr : Nat} (hsr : sr ∈ L) (ksr : K sr = 151) {sd : Nat} (hsd : sd ∈ L) (ksd : K sd = 152) {as : Nat} (has : as ∈ L) (kas : K as = 153) {aw : Nat} (haw : aw ∈ L) (kaw : K aw = 154) {pa : Nat} (hpa : pa ∈ L) (kpa : K pa = 155) {nm : Nat} (hnm : nm ∈ L) (knm : K nm = 156) {snm : Nat} (hsnm : snm ∈ L) (ksnm : K snm = 157) {anm : Nat} (hanm : anm ∈ L) (kanm : K anm = 158) {out : Nat} (hout : out ∈ L) (kout : K out = 168) {outD : Nat} (houtD : outD ∈ L) (koutD : K outD = 169) (hf0 : q_z f x 9 = 0) (hf1 : q_z f src 1 = 0) (hf2 : q_z f src 2 = 0) (hf3 : q_z f src 3 = (-1)) (hf4 : q_z f hist 1 = 0) (hf5 : q_z f hist 2 = 0) (hf6 : q_z f rep 1 = 0) (hf7 : q_z f now 3 = 0) (hf8 : q_z f now 4 = 0) (hf9 : q_z f now 5 = 0) (hf10 : q_z f now 6 = 12) (hf11 : q_z f now 10 = 3) (hf12 : q_z f now 11 = 0) (hf13 : q_z f now 12 = 0) (hf14 : q_z f mo 2 = 0) (hf15 : q_z f mo 8 = 0) (hf16 : q_z f mo 9 = (-1)) (hf17 : q_z f mo 10 = 0) (hf18 : q_z f mo 11 = (-1)) (hf19 : q_z f mo 21 = 0) (hf20 : q_z f mo 22 = 0) (hf21 : q_z f mo 40 = 0) (hf22 : q_z f sr 0 = 0) (hf23 : q_z f sr 1 = 0) (hf24 : q_z f sr 2 = 12) (hf25 : q_z f sr 3 = 0) (hf26 : q_z f sr 4 = 0) (hf27 : q_z f sr 5 = 1) (hf28 : q_z f sr 6 = 2) (hf29 : q_z f sr 7 = 5) (hf30 : q_z f sr 8 = 3) (hf31 : q_z f sr 9 = 0) (hr0 : q_r f x 0 = src) (hr1 : q_r f x 1 = rdr) (hr2 : q_r f x 2 = scr) (hr3 : q_r f x 3 = fc) (hr4 : q_r f x 4 = hist) (hr5 : q_r f x 5 = rep) (hr6 : q_r f x 6 = now) (hr7 : q_r f x 7 = dr) (hr8 : q_r f x 8 = sv) (hr9 : q_r f fc 0 = tr) (hr10 : q_r f mo 1 = bu) (hr11 : q_r f mo 13 = sr) (hr12 : q_r f mo 14 = sd) (hr13 : q_r f mo 15 = as) (hr14 : q_r f mo 16 = aw) (hr15 : q_r f mo 17 = pa) (hr16 : q_r f mo 18 = nm) (hr17 : q_r f mo 19 = snm) (hr18 : q_r f mo 20 = anm) (hl : lv_has ls 10 [(5, .int (q_i 0)), (0, .ref b), (1, .ref x), (2, .ref mo), (3, .ref out), (4, .ref outD)]) : W p l e room_1 s m #[Value.ref b] below meth c H locs 1100 20000 (lw_Z below #[Value.ref b] s) (F0 m 380 ls []) := by
  have hXs := C0.2.2.2.2.2.2.1
  have hbl := C0.2.2.2.2.2.2.2.1
  have hbA := q_bA hbl
  obtain ⟨x0, rx0, ex0⟩ : ∃ z : Int, q_R z ∧ xs 0 = q_i z := ⟨_, q_rng _, (q_of _).symm⟩
  have lx0 := rx0.1
  have ux0 := rx0.2
  obtain ⟨x1, rx1, ex1⟩ : ∃ z : Int, q_R z ∧ xs 1 = q_i z := ⟨_, q_rng _, (q_of _).symm⟩
  have lx1 := rx1.1
  have ux1 := rx1.2
  obtain ⟨x2, rx2, ex2⟩ : ∃ z : Int, q_R z ∧ xs 2 = q_i z := ⟨_, q_rng _, (q_of _).symm⟩
  have lx2 := rx2.1
  have ux2 := rx2.2
  obtain ⟨x3, rx3, ex3⟩ : ∃ z : Int, q_R z ∧ xs 3 = q_i z := ⟨_, q_rng _, (q_of _).symm⟩
  have lx3 := rx3.1
  have ux3 := rx3.2
  obtain ⟨x4, rx4, ex4⟩ : ∃ z : Int, q_R z ∧ xs 4 = q_i z := ⟨_, q_rng _, (q_of _).symm⟩
  have lx4 := rx4.1
  have ux4 := rx4.2
  obtain ⟨x5, rx5, ex5⟩ : ∃ z : Int, q_R z ∧ xs 5 = q_i z := ⟨_, q_rng _, (q_of _).symm⟩
  have lx5 := rx5.1
  have ux5 := rx5.2
  refine q_ald_n cx dL_law_380 rfl (lv_at hl 2 rfl) ?_
  refine q_ald_n cx dL_law_381 rfl (lv_at hl 4 rfl) ?_
  refine q_cWS (As := [.ref x, .ref out]) (rest := []) cx hX hB (fun q h => hLA q h) (fun q h1 h2 => absurd h1 (Nat.not_le_of_lt h2)) hN (w_readText l g hN hB.2.1 hfl x hx kx out hout kout src hsrc ksrc rdr hrdr krdr scr hscr kscr fc hfc kfc hist hhist khist rep hrep krep now hnow know dr hdr kdr sv hsv ksv tr htr ktr hf0 hf1 hf2 hf3 hf4 hf5 hf6 hf7 hf8 hf9 hf10 hf11 hf12 hf13 hr0 hr1 hr2 hr3 hr4 hr5 hr6 hr7 hr8 hr9) q_cL_131 q_dL_readText (by decide) rfl rfl hl.1 rfl (Nat.le_of_ble_eq_true rfl) dL_law_382 (fun v9 H locs f1 h3 hF hB => ?_)
  obtain ⟨y2, rfl, ry2, h3⟩ := h3
  refine W.eq (g2 := F0 m 385 ls [.int (q_i y2)]) rfl ?_
  obtain ⟨qy2, z4⟩ := h3
  have z5 : q_z f1 mo 2 = 0 := (hF.z hmo (by rw [kmo]; rfl)).trans hf14
  have z6 : q_z f1 mo 8 = 0 := (hF.z hmo (by rw [kmo]; rfl)).trans hf15
  have z7 : q_z f1 mo 9 = (-1) := (hF.z hmo (by rw [kmo]; rfl)).trans hf16
  have z8 : q_z f1 mo 10 = 0 := (hF.z hmo (by rw [kmo]; rfl)).trans hf17
  have z9 : q_z f1 mo 11 = (-1) := (hF.z hmo (by rw [kmo]; rfl)).trans hf18
  have z10 : q_z f1 mo 21 = 0 := (hF.z hmo (by rw [kmo]; rfl)).trans hf19
  have z11 : q_z f1 mo 22 = 0 := (hF.z hmo (by rw [kmo]; rfl)).trans hf20
  have z12 : q_z f1 mo 40 = 0 := (hF.z hmo (by rw [kmo]; rfl)).trans hf21
  have z13 : q_z f1 sr 0 = 0 := (hF.z hsr (by rw [ksr]; rfl)).trans hf22
  have z14 : q_z f1 sr 1 = 0 := (hF.z hsr (by rw [ksr]; rfl)).trans hf23
  have z15 : q_z f1 sr 2 = 12 := (hF.z hsr (by rw [ksr]; rfl)).trans hf24
  have z16 : q_z f1 sr 3 = 0 := (hF.z hsr (by rw [ksr]; rfl)).trans hf25
  have z17 : q_z f1 sr 4 = 0 := (hF.z hsr (by rw [ksr]; rfl)).trans hf26
  have z18 : q_z f1 sr 5 = 1 := (hF.z hsr (by rw [ksr]; rfl)).trans hf27
  have z19 : q_z f1 sr 6 = 2 := (hF.z hsr (by rw [ksr]; rfl)).trans hf28
  have z20 : q_z f1 sr 7 = 5 := (hF.z hsr (by rw [ksr]; rfl)).trans hf29
  have z21 : q_z f1 sr 8 = 3 := (hF.z hsr (by rw [ksr]; rfl)).trans hf30
  have z22 : q_z f1 sr 9 = 0 := (hF.z hsr (by rw [ksr]; rfl)).trans hf31
  have z23 : q_r f1 x 0 = src := (hF.r hx (by rw [kx]; rfl)).trans hr0
  have z24 : q_r f1 x 1 = rdr := (hF.r hx (by rw [kx]; rfl)).trans hr1
  have z25 : q_r f1 x 2 = scr := (hF.r hx (by rw [kx]; rfl)).trans hr2
  have z26 : q_r f1 x 3 = fc := (hF.r hx (by rw [kx]; rfl)).trans hr3
  have z27 : q_r f1 x 4 = hist := (hF.r hx (by rw [kx]; rfl)).trans hr4
  have z28 : q_r f1 x 5 = rep := (hF.r hx (by rw [kx]; rfl)).trans hr5
  have z29 : q_r f1 x 6 = now := (hF.r hx (by rw [kx]; rfl)).trans hr6
  have z30 : q_r f1 x 7 = dr := (hF.r hx (by rw [kx]; rfl)).trans hr7
  have z31 : q_r f1 x 8 = sv := (hF.r hx (by rw [kx]; rfl)).trans hr8
  have z32 : q_r f1 fc 0 = tr := (hF.r hfc (by rw [kfc]; rfl)).trans hr9
  have z33 : q_r f1 mo 1 = bu := (hF.r hmo (by rw [kmo]; rfl)).trans hr10
  have z34 : q_r f1 mo 13 = sr := (hF.r hmo (by rw [kmo]; rfl)).trans hr11
  have z35 : q_r f1 mo 14 = sd := (hF.r hmo (by rw [kmo]; rfl)).trans hr12
  have z36 : q_r f1 mo 15 = as := (hF.r hmo (by rw [kmo]; rfl)).trans hr13
  have z37 : q_r f1 mo 16 = aw := (hF.r hmo (by rw [kmo]; rfl)).trans hr14
  have z38 : q_r f1 mo 17 = pa := (hF.r hmo (by rw [kmo]; rfl)).trans hr15
  have z39 : q_r f1 mo 18 = nm := (hF.r hmo (by rw [kmo]; rfl)).trans hr16
  have z40 : q_r f1 mo 19 = snm := (hF.r hmo (by rw [kmo]; rfl)).trans hr17
  have z41 : q_r f1 mo 20 = anm := (hF.r hmo (by rw [kmo]; rfl)).trans hr18
  subst qy2
  refine lv_istore (lv' := [(6, .int (q_i 0)), (5, .int (q_i 0)), (0, .ref b), (1, .ref x), (2, .ref mo), (3, .ref out), (4, .ref outD)]) cx.1 cx.2.1 dL_law_385 hl (by decide) rfl (fun ls hl => ?_)
  refine q_ald_n cx dL_law_387 rfl (lv_at hl 4 rfl) ?_
  refine q_cVi (As := []) (rest := []) cx hB (fun q h => hLA q h) hN hmo kmo (by decide) rfl (p_readText l g hN hB.2.1 mo hmo kmo bu hbu kbu sr hsr ksr sd hsd ksd as has kas aw haw kaw pa hpa kpa nm hnm knm snm hsnm ksnm anm hanm kanm z5 z6 z7 z8 z9 z10 z11 z12 z13 z14 z15 z16 z17 z18 z19 z20 z21 z22 z33 z34 z35 z36 z37 z38 z39 z40 z41) q_cL_134 q_dX12_readText (by decide) rfl rfl hl.1 rfl (Nat.le_of_ble_eq_true rfl) dL_law_388 (fun y43 H locs f42 ry43 h44 hF hB => ?_)
  obtain ⟨qy43, z45⟩ := h44
  have z46 : q_j f42 out 0 = (q_l 0) := (hF.j hout (by rw [kout]; rfl)).trans z4
  have z47 : q_r f42 x 0 = src := (hF.r hx (by rw [kx]; rfl)).trans z23
  have z48 : q_r f42 x 1 = rdr := (hF.r hx (by rw [kx]; rfl)).trans z24
  have z49 : q_r f42 x 2 = scr := (hF.r hx (by rw [kx]; rfl)).trans z25
  have z50 : q_r f42 x 3 = fc := (hF.r hx (by rw [kx]; rfl)).trans z26
  have z51 : q_r f42 x 4 = hist := (hF.r hx (by rw [kx]; rfl)).trans z27
  have z52 : q_r f42 x 5 = rep := (hF.r hx (by rw [kx]; rfl)).trans z28
  have z53 : q_r f42 x 6 = now := (hF.r hx (by rw [kx]; rfl)).trans z29
  have z54 : q_r f42 x 7 = dr := (hF.r hx (by rw [kx]; rfl)).trans z30
  have z55 : q_r f42 x 8 = sv := (hF.r hx (by rw [kx]; rfl)).trans z31
  have z56 : q_r f42 fc 0 = tr := (hF.r hfc (by rw [kfc]; rfl)).trans z32
  subst qy43
  refine lv_istore (lv' := [(7, .int (q_i 0)), (6, .int (q_i 0)), (5, .int (q_i 0)), (0, .ref b), (1, .ref x), (2, .ref mo), (3, .ref out), (4, .ref outD)]) cx.1 cx.2.1 dL_law_391 hl (by decide) rfl (fun ls hl => ?_)
  refine q_ald_n cx dL_law_393 rfl (lv_at hl 5 rfl) ?_
  refine q_cVi (As := []) (rest := []) cx hB (fun q h => hLA q h) hN hmo kmo (by decide) rfl (r_thrown l g hN hB.2.1 mo hmo kmo 0 (by decide) (by decide) z45) q_cL_124 q_dX12_thrown (by decide) rfl rfl hl.1 rfl (Nat.le_of_ble_eq_true rfl) dL_law_394 (fun y58 H locs f57 ry58 h59 hF hB => ?_)
  obtain ⟨rfl, qy58⟩ := h59
  subst qy58
  refine lv_iload cx.1 cx.2.1 dL_law_397 (lv_at hl 1 rfl) ?_
  refine q_iceq (tgt := 404) cx ⟨by decide, by decide⟩ ⟨by decide, by decide⟩ dL_law_399 (by decide) (fun c60 => ?_) (fun c60 => ?_)
  · refine lv_iload cx.1 cx.2.1 dL_law_404 (lv_at hl 1 rfl) ?_
    refine q_ifne (tgt := 421) cx ⟨by decide, by decide⟩ dL_law_406 (by decide) (fun c61 => ?_) (fun c61 => ?_)
    · exact absurd c61 (by omega)
    · refine q_ald_n cx dL_law_409 rfl (lv_at hl 6 rfl) ?_
      refine q_iconst cx dL_law_410 ?_
      refine q_lald (n := 1) cx hB hout kout (by decide) rfl rfl (by decide) (by decide) (by decide) rfl z46 dL_law_411 ?_
      refine lv_iload cx.1 cx.2.1 dL_law_412 (lv_at hl 0 rfl) ?_
      refine q_i2l cx ⟨by decide, by decide⟩ dL_law_414 ?_
      refine q_lcmp cx dL_law_415 (fun y62 ly62 uy62 ey62 gy62 hy62 => ?_)
      rw [q_lInt ⟨by decide, by decide⟩] at ey62 hy62
      refine q_ifeq (tgt := 421) cx ⟨by omega, by omega⟩ dL_law_416 (by decide) (fun c63 => ?_) (fun c63 => ?_)
      · refine lv_goto (tgt := 2394) cx.1 cx.2.1 dL_law_421 (by decide) ?_
        refine q_iinc (lv' := [(5, .int (q_i (0 + 6))), (7, .int (q_i 0)), (6, .int (q_i 0)), (0, .ref b), (1, .ref x), (2, .ref mo), (3, .ref out), (4, .ref outD)]) cx dL_law_2394 hl (k := 2) rfl (by decide) rfl (fun ls hl => ?_)
        refine lv_goto (tgt := 28) cx.1 cx.2.1 dL_law_2397 (by decide) ?_
        refine lv_iload cx.1 cx.2.1 dL_law_28 (lv_at hl 0 rfl) ?_
        refine q_ald_n cx dL_law_30 rfl (lv_at hl 3 rfl) ?_
        refine va_slen cx.1 cx.2.1 hXs hbl hbA hB.1.2.2.2 dL_law_31 ?_
        rw [show Int32.ofNat 6 = q_i 6 from by decide]
        refine q_bipush cx dL_law_32 rfl ?_
        refine q_isub cx dL_law_34 ?_
        refine q_icgt (tgt := 2400) cx ⟨by decide, by decide⟩ ⟨by decide, by decide⟩ dL_law_35 (by decide) (fun c64 => ?_) (fun c64 => ?_)
        · refine q_iconst cx dL_law_2400 ?_
          exact q_lawret C0 hB (by decide) (by decide) dL_law_2401
        · exact absurd c64 (by omega)
      · exact absurd c63 (by omega)
  · exact absurd c60 (by omega)
set_option maxHeartbeats 4000000 in
set_option maxRecDepth 100000 in
theorem law_c424 {p : Program} {l : Launch} {e : Env} {s : State} {m : MethodId} {below : List Frame} {meth : Method} {c : Code} {b : Nat} {xs : Nat → Int32} (hfl : l.stackTraces = false) (C0 : lw_At p s m meth c b 6 xs) (cx : CallFix p m c cL_law 10 s #[Value.ref b] q_al RL) {g : q_G} {K : Nat → Nat} {L : List Nat} {f : Nat → va_E} {H : Heap} {locs : List Loc} {ls : Array Slot} (hN : L.Nodup) (hLA : ∀ q, q ∈ L → s.heap.size ≤ q) (hX : q_X (fun q => q ∈ L) s) (hB : q_B g K L (fun q => s.heap.size ≤ q) [(2, 1, 2), (6, 1, 1), (7, 1, 4), (8, 1, 9), (9, 0, 2), (10, 3, 15), (11, 9, 9), (12, 0, 40), (13, 3, 15), (14, 3, 15), (15, 3, 15), (16, 3, 15), (142, 0, 599), (150, 0, 599), (151, 0, 657), (152, 0, 657), (153, 0, 657), (154, 0, 657), (155, 0, 3947), (156, 0, 9), (157, 0, 9), (158, 0, 9), (168, 0, 0), (169, 0, 0)] f f s H locs) {x : Nat} (hx : x ∈ L) (kx : K x = 11) {src : Nat} (hsrc : src ∈ L) (ksrc : K src = 8) {rdr : Nat} (hrdr : rdr ∈ L) (krdr : K rdr = 9) {scr : Nat} (hscr : scr ∈ L) (kscr : K scr = 7) {fc : Nat} (hfc : fc ∈ L) (kfc : K fc = 1) {hist : Nat} (hhist : hist ∈ L) (khist : K hist = 2) {rep : Nat} (hrep : rep ∈ L) (krep : K rep = 6) {now : Nat} (hnow : now ∈ L) (know : K now = 10) {dr : Nat} (hdr : dr ∈ L) (kdr : K dr = 13) {sv : Nat} (hsv : sv ∈ L) (ksv : K sv = 14) {tr : Nat} (htr : tr ∈ L) (ktr : K tr = 15) {mo : Nat} (hmo : mo ∈ L) (kmo : K mo = 12) {bu : Nat} (hbu : bu ∈ L) (kbu : K bu = 150) {sr : Nat} (hsr : sr ∈ L) (ksr : K sr = 151) {sd : Nat} (hsd : sd ∈ L) (ksd : K sd = 152) {as : Nat} (has : as ∈ L) (kas : K as = 153) {aw : Nat} (haw : aw ∈ L) (kaw : K aw = 154) {pa : Nat} (hpa : pa ∈ L) (kpa : K pa = 155) {nm : Nat} (hnm : nm ∈ L) (knm : K nm = 156) {snm : Nat} (hsnm : snm ∈ L) (ksnm : K snm = 157) {anm : Nat} (hanm : anm ∈ L) (kanm : K anm = 158) {out : Nat} (hout : out ∈ L) (kout : K out = 168) {outD : Nat} (houtD : outD ∈ L) (koutD : K outD = 169) (hf0 : q_z f x 9 = 0) (hf1 : q_z f src 1 = 0) (hf2 : q_z f src 2 = 0) (hf3 : q_z f src 3 = (-1)) (hf4 : q_z f hist 1 = 0) (hf5 : q_z f hist 2 = 0) (hf6 : q_z f rep 1 = 0) (hf7 : q_z f now 3 = 0) (hf8 : q_z f now 4 = 0) (hf9 : q_z f now 5 = 0) (hf10 : q_z f now 6 = 12) (hf11 : q_z f now 10 = 3) (hf12 : q_z f now 11 = 0) (hf13 : q_z f now 12 = 0) (hf14 : q_z f mo 2 = 0) (hf15 : q_z f mo 8 = 0) (hf16 : q_z f mo 9 = (-1)) (hf17 : q_z f mo 10 = 0) (hf18 : q_z f mo 11 = (-1)) (hf19 : q_z f mo 21 = 0) (hf20 : q_z f mo 22 = 0) (hf21 : q_z f mo 40 = 0) (hf22 : q_z f sr 0 = 0) (hf23 : q_z f sr 1 = 0) (hf24 : q_z f sr 2 = 12) (hf25 : q_z f sr 3 = 0) (hf26 : q_z f sr 4 = 0) (hf27 : q_z f sr 5 = 1) (hf28 : q_z f sr 6 = 2) (hf29 : q_z f sr 7 = 5) (hf30 : q_z f sr 8 = 3) (hf31 : q_z f sr 9 = 0) (hr0 : q_r f x 0 = src) (hr1 : q_r f x 1 = rdr) (hr2 : q_r f x 2 = scr) (hr3 : q_r f x 3 = fc) (hr4 : q_r f x 4 = hist) (hr5 : q_r f x 5 = rep) (hr6 : q_r f x 6 = now) (hr7 : q_r f x 7 = dr) (hr8 : q_r f x 8 = sv) (hr9 : q_r f fc 0 = tr) (hr10 : q_r f mo 1 = bu) (hr11 : q_r f mo 13 = sr) (hr12 : q_r f mo 14 = sd) (hr13 : q_r f mo 15 = as) (hr14 : q_r f mo 16 = aw) (hr15 : q_r f mo 17 = pa) (hr16 : q_r f mo 18 = nm) (hr17 : q_r f mo 19 = snm) (hr18 : q_r f mo 20 = anm) (hl : lv_has ls 10 [(5, .int (q_i 0)), (0, .ref b), (1, .ref x), (2, .ref mo), (3, .ref out), (4, .ref outD)]) : W p l e room_1 s m #[Value.ref b] below meth c H locs 1100 20000 (lw_Z below #[Value.ref b] s) (F0 m 424 ls []) := by
  have hXs := C0.2.2.2.2.2.2.1
  have hbl := C0.2.2.2.2.2.2.2.1
  have hbA := q_bA hbl
  obtain ⟨x0, rx0, ex0⟩ : ∃ z : Int, q_R z ∧ xs 0 = q_i z := ⟨_, q_rng _, (q_of _).symm⟩
  have lx0 := rx0.1
  have ux0 := rx0.2
  obtain ⟨x1, rx1, ex1⟩ : ∃ z : Int, q_R z ∧ xs 1 = q_i z := ⟨_, q_rng _, (q_of _).symm⟩
  have lx1 := rx1.1
  have ux1 := rx1.2
  obtain ⟨x2, rx2, ex2⟩ : ∃ z : Int, q_R z ∧ xs 2 = q_i z := ⟨_, q_rng _, (q_of _).symm⟩
  have lx2 := rx2.1
  have ux2 := rx2.2
  obtain ⟨x3, rx3, ex3⟩ : ∃ z : Int, q_R z ∧ xs 3 = q_i z := ⟨_, q_rng _, (q_of _).symm⟩
  have lx3 := rx3.1
  have ux3 := rx3.2
  obtain ⟨x4, rx4, ex4⟩ : ∃ z : Int, q_R z ∧ xs 4 = q_i z := ⟨_, q_rng _, (q_of _).symm⟩
  have lx4 := rx4.1
  have ux4 := rx4.2
  obtain ⟨x5, rx5, ex5⟩ : ∃ z : Int, q_R z ∧ xs 5 = q_i z := ⟨_, q_rng _, (q_of _).symm⟩
  have lx5 := rx5.1
  have ux5 := rx5.2
  refine q_ald_n cx dL_law_424 rfl (lv_at hl 2 rfl) ?_
  refine q_ald_n cx dL_law_425 rfl (lv_at hl 4 rfl) ?_
  refine q_cWS (As := [.ref x, .ref out]) (rest := []) cx hX hB (fun q h => hLA q h) (fun q h1 h2 => absurd h1 (Nat.not_le_of_lt h2)) hN (w_runScript l g hN hB.2.1 hfl x hx kx out hout kout src hsrc ksrc rdr hrdr krdr scr hscr kscr fc hfc kfc hist hhist khist rep hrep krep now hnow know dr hdr kdr sv hsv ksv tr htr ktr hf0 hf1 hf2 hf3 hf4 hf5 hf6 hf7 hf8 hf9 hf10 hf11 hf12 hf13 hr0 hr1 hr2 hr3 hr4 hr5 hr6 hr7 hr8 hr9) q_cL_135 q_dL_runScript (by decide) rfl rfl hl.1 rfl (Nat.le_of_ble_eq_true rfl) dL_law_426 (fun v9 H locs f1 h3 hF hB => ?_)
  obtain ⟨y2, rfl, ry2, h3⟩ := h3
  refine W.eq (g2 := F0 m 429 ls [.int (q_i y2)]) rfl ?_
  obtain ⟨qy2, z4⟩ := h3
  have z5 : q_z f1 mo 2 = 0 := (hF.z hmo (by rw [kmo]; rfl)).trans hf14
  have z6 : q_z f1 mo 8 = 0 := (hF.z hmo (by rw [kmo]; rfl)).trans hf15
  have z7 : q_z f1 mo 9 = (-1) := (hF.z hmo (by rw [kmo]; rfl)).trans hf16
  have z8 : q_z f1 mo 10 = 0 := (hF.z hmo (by rw [kmo]; rfl)).trans hf17
  have z9 : q_z f1 mo 11 = (-1) := (hF.z hmo (by rw [kmo]; rfl)).trans hf18
  have z10 : q_z f1 mo 21 = 0 := (hF.z hmo (by rw [kmo]; rfl)).trans hf19
  have z11 : q_z f1 mo 22 = 0 := (hF.z hmo (by rw [kmo]; rfl)).trans hf20
  have z12 : q_z f1 mo 40 = 0 := (hF.z hmo (by rw [kmo]; rfl)).trans hf21
  have z13 : q_z f1 sr 0 = 0 := (hF.z hsr (by rw [ksr]; rfl)).trans hf22
  have z14 : q_z f1 sr 1 = 0 := (hF.z hsr (by rw [ksr]; rfl)).trans hf23
  have z15 : q_z f1 sr 2 = 12 := (hF.z hsr (by rw [ksr]; rfl)).trans hf24
  have z16 : q_z f1 sr 3 = 0 := (hF.z hsr (by rw [ksr]; rfl)).trans hf25
  have z17 : q_z f1 sr 4 = 0 := (hF.z hsr (by rw [ksr]; rfl)).trans hf26
  have z18 : q_z f1 sr 5 = 1 := (hF.z hsr (by rw [ksr]; rfl)).trans hf27
  have z19 : q_z f1 sr 6 = 2 := (hF.z hsr (by rw [ksr]; rfl)).trans hf28
  have z20 : q_z f1 sr 7 = 5 := (hF.z hsr (by rw [ksr]; rfl)).trans hf29
  have z21 : q_z f1 sr 8 = 3 := (hF.z hsr (by rw [ksr]; rfl)).trans hf30
  have z22 : q_z f1 sr 9 = 0 := (hF.z hsr (by rw [ksr]; rfl)).trans hf31
  have z23 : q_r f1 x 0 = src := (hF.r hx (by rw [kx]; rfl)).trans hr0
  have z24 : q_r f1 x 1 = rdr := (hF.r hx (by rw [kx]; rfl)).trans hr1
  have z25 : q_r f1 x 2 = scr := (hF.r hx (by rw [kx]; rfl)).trans hr2
  have z26 : q_r f1 x 3 = fc := (hF.r hx (by rw [kx]; rfl)).trans hr3
  have z27 : q_r f1 x 4 = hist := (hF.r hx (by rw [kx]; rfl)).trans hr4
  have z28 : q_r f1 x 5 = rep := (hF.r hx (by rw [kx]; rfl)).trans hr5
  have z29 : q_r f1 x 6 = now := (hF.r hx (by rw [kx]; rfl)).trans hr6
  have z30 : q_r f1 x 7 = dr := (hF.r hx (by rw [kx]; rfl)).trans hr7
  have z31 : q_r f1 x 8 = sv := (hF.r hx (by rw [kx]; rfl)).trans hr8
  have z32 : q_r f1 fc 0 = tr := (hF.r hfc (by rw [kfc]; rfl)).trans hr9
  have z33 : q_r f1 mo 1 = bu := (hF.r hmo (by rw [kmo]; rfl)).trans hr10
  have z34 : q_r f1 mo 13 = sr := (hF.r hmo (by rw [kmo]; rfl)).trans hr11
  have z35 : q_r f1 mo 14 = sd := (hF.r hmo (by rw [kmo]; rfl)).trans hr12
  have z36 : q_r f1 mo 15 = as := (hF.r hmo (by rw [kmo]; rfl)).trans hr13
  have z37 : q_r f1 mo 16 = aw := (hF.r hmo (by rw [kmo]; rfl)).trans hr14
  have z38 : q_r f1 mo 17 = pa := (hF.r hmo (by rw [kmo]; rfl)).trans hr15
  have z39 : q_r f1 mo 18 = nm := (hF.r hmo (by rw [kmo]; rfl)).trans hr16
  have z40 : q_r f1 mo 19 = snm := (hF.r hmo (by rw [kmo]; rfl)).trans hr17
  have z41 : q_r f1 mo 20 = anm := (hF.r hmo (by rw [kmo]; rfl)).trans hr18
  subst qy2
  refine lv_istore (lv' := [(6, .int (q_i 0)), (5, .int (q_i 0)), (0, .ref b), (1, .ref x), (2, .ref mo), (3, .ref out), (4, .ref outD)]) cx.1 cx.2.1 dL_law_429 hl (by decide) rfl (fun ls hl => ?_)
  refine q_ald_n cx dL_law_431 rfl (lv_at hl 4 rfl) ?_
  refine q_cVi (As := []) (rest := []) cx hB (fun q h => hLA q h) hN hmo kmo (by decide) rfl (p_runScript l g hN hB.2.1 mo hmo kmo bu hbu kbu sr hsr ksr sd hsd ksd as has kas aw haw kaw pa hpa kpa nm hnm knm snm hsnm ksnm anm hanm kanm z5 z6 z7 z8 z9 z10 z11 z12 z13 z14 z15 z16 z17 z18 z19 z20 z21 z22 z33 z34 z35 z36 z37 z38 z39 z40 z41) q_cL_137 q_dX12_runScript (by decide) rfl rfl hl.1 rfl (Nat.le_of_ble_eq_true rfl) dL_law_432 (fun y43 H locs f42 ry43 h44 hF hB => ?_)
  obtain ⟨qy43, z45⟩ := h44
  have z46 : q_j f42 out 0 = (q_l 0) := (hF.j hout (by rw [kout]; rfl)).trans z4
  have z47 : q_r f42 x 0 = src := (hF.r hx (by rw [kx]; rfl)).trans z23
  have z48 : q_r f42 x 1 = rdr := (hF.r hx (by rw [kx]; rfl)).trans z24
  have z49 : q_r f42 x 2 = scr := (hF.r hx (by rw [kx]; rfl)).trans z25
  have z50 : q_r f42 x 3 = fc := (hF.r hx (by rw [kx]; rfl)).trans z26
  have z51 : q_r f42 x 4 = hist := (hF.r hx (by rw [kx]; rfl)).trans z27
  have z52 : q_r f42 x 5 = rep := (hF.r hx (by rw [kx]; rfl)).trans z28
  have z53 : q_r f42 x 6 = now := (hF.r hx (by rw [kx]; rfl)).trans z29
  have z54 : q_r f42 x 7 = dr := (hF.r hx (by rw [kx]; rfl)).trans z30
  have z55 : q_r f42 x 8 = sv := (hF.r hx (by rw [kx]; rfl)).trans z31
  have z56 : q_r f42 fc 0 = tr := (hF.r hfc (by rw [kfc]; rfl)).trans z32
  subst qy43
  refine lv_istore (lv' := [(7, .int (q_i 0)), (6, .int (q_i 0)), (5, .int (q_i 0)), (0, .ref b), (1, .ref x), (2, .ref mo), (3, .ref out), (4, .ref outD)]) cx.1 cx.2.1 dL_law_435 hl (by decide) rfl (fun ls hl => ?_)
  refine q_ald_n cx dL_law_437 rfl (lv_at hl 5 rfl) ?_
  refine q_cVi (As := []) (rest := []) cx hB (fun q h => hLA q h) hN hmo kmo (by decide) rfl (r_thrown l g hN hB.2.1 mo hmo kmo 0 (by decide) (by decide) z45) q_cL_124 q_dX12_thrown (by decide) rfl rfl hl.1 rfl (Nat.le_of_ble_eq_true rfl) dL_law_438 (fun y58 H locs f57 ry58 h59 hF hB => ?_)
  obtain ⟨rfl, qy58⟩ := h59
  subst qy58
  refine lv_iload cx.1 cx.2.1 dL_law_441 (lv_at hl 1 rfl) ?_
  refine q_iceq (tgt := 448) cx ⟨by decide, by decide⟩ ⟨by decide, by decide⟩ dL_law_443 (by decide) (fun c60 => ?_) (fun c60 => ?_)
  · refine lv_iload cx.1 cx.2.1 dL_law_448 (lv_at hl 1 rfl) ?_
    refine q_ifne (tgt := 465) cx ⟨by decide, by decide⟩ dL_law_450 (by decide) (fun c61 => ?_) (fun c61 => ?_)
    · exact absurd c61 (by omega)
    · refine q_ald_n cx dL_law_453 rfl (lv_at hl 6 rfl) ?_
      refine q_iconst cx dL_law_454 ?_
      refine q_lald (n := 1) cx hB hout kout (by decide) rfl rfl (by decide) (by decide) (by decide) rfl z46 dL_law_455 ?_
      refine lv_iload cx.1 cx.2.1 dL_law_456 (lv_at hl 0 rfl) ?_
      refine q_i2l cx ⟨by decide, by decide⟩ dL_law_458 ?_
      refine q_lcmp cx dL_law_459 (fun y62 ly62 uy62 ey62 gy62 hy62 => ?_)
      rw [q_lInt ⟨by decide, by decide⟩] at ey62 hy62
      refine q_ifeq (tgt := 465) cx ⟨by omega, by omega⟩ dL_law_460 (by decide) (fun c63 => ?_) (fun c63 => ?_)
      · refine lv_goto (tgt := 2394) cx.1 cx.2.1 dL_law_465 (by decide) ?_
        refine q_iinc (lv' := [(5, .int (q_i (0 + 6))), (7, .int (q_i 0)), (6, .int (q_i 0)), (0, .ref b), (1, .ref x), (2, .ref mo), (3, .ref out), (4, .ref outD)]) cx dL_law_2394 hl (k := 2) rfl (by decide) rfl (fun ls hl => ?_)
        refine lv_goto (tgt := 28) cx.1 cx.2.1 dL_law_2397 (by decide) ?_
        refine lv_iload cx.1 cx.2.1 dL_law_28 (lv_at hl 0 rfl) ?_
        refine q_ald_n cx dL_law_30 rfl (lv_at hl 3 rfl) ?_
        refine va_slen cx.1 cx.2.1 hXs hbl hbA hB.1.2.2.2 dL_law_31 ?_
        rw [show Int32.ofNat 6 = q_i 6 from by decide]
        refine q_bipush cx dL_law_32 rfl ?_
        refine q_isub cx dL_law_34 ?_
        refine q_icgt (tgt := 2400) cx ⟨by decide, by decide⟩ ⟨by decide, by decide⟩ dL_law_35 (by decide) (fun c64 => ?_) (fun c64 => ?_)
        · refine q_iconst cx dL_law_2400 ?_
          exact q_lawret C0 hB (by decide) (by decide) dL_law_2401
        · exact absurd c64 (by omega)
      · exact absurd c63 (by omega)
  · exact absurd c60 (by omega)
set_option maxHeartbeats 4000000 in
set_option maxRecDepth 100000 in
theorem law_c468 {p : Program} {l : Launch} {e : Env} {s : State} {m : MethodId} {below : List Frame} {meth : Method} {c : Code} {b : Nat} {xs : Nat → Int32} (hfl : l.stackTraces = false) (C0 : lw_At p s m meth c b 6 xs) (cx : CallFix p m c cL_law 10 s #[Value.ref b] q_al RL) {g : q_G} {K : Nat → Nat} {L : List Nat} {f : Nat → va_E} {H : Heap} {locs : List Loc} {ls : Array Slot} (hN : L.Nodup) (hLA : ∀ q, q ∈ L → s.heap.size ≤ q) (hX : q_X (fun q => q ∈ L) s) (hB : q_B g K L (fun q => s.heap.size ≤ q) [(2, 1, 2), (6, 1, 1), (7, 1, 4), (8, 1, 9), (9, 0, 2), (10, 3, 15), (11, 9, 9), (12, 0, 40), (13, 3, 15), (14, 3, 15), (15, 3, 15), (16, 3, 15), (142, 0, 599), (150, 0, 599), (151, 0, 657), (152, 0, 657), (153, 0, 657), (154, 0, 657), (155, 0, 3947), (156, 0, 9), (157, 0, 9), (158, 0, 9), (168, 0, 0), (169, 0, 0)] f f s H locs) {x : Nat} (hx : x ∈ L) (kx : K x = 11) {src : Nat} (hsrc : src ∈ L) (ksrc : K src = 8) {rdr : Nat} (hrdr : rdr ∈ L) (krdr : K rdr = 9) {scr : Nat} (hscr : scr ∈ L) (kscr : K scr = 7) {fc : Nat} (hfc : fc ∈ L) (kfc : K fc = 1) {hist : Nat} (hhist : hist ∈ L) (khist : K hist = 2) {rep : Nat} (hrep : rep ∈ L) (krep : K rep = 6) {now : Nat} (hnow : now ∈ L) (know : K now = 10) {dr : Nat} (hdr : dr ∈ L) (kdr : K dr = 13) {sv : Nat} (hsv : sv ∈ L) (ksv : K sv = 14) {tr : Nat} (htr : tr ∈ L) (ktr : K tr = 15) {mo : Nat} (hmo : mo ∈ L) (kmo : K mo = 12) {bu : Nat} (hbu : bu ∈ L) (kbu : K bu = 150) {sr : Nat} (hsr : sr ∈ L) (ksr : K sr = 151) {sd : Nat} (hsd : sd ∈ L) (ksd : K sd = 152) {as : Nat} (has : as ∈ L) (kas : K as = 153) {aw : Nat} (haw : aw ∈ L) (kaw : K aw = 154) {pa : Nat} (hpa : pa ∈ L) (kpa : K pa = 155) {nm : Nat} (hnm : nm ∈ L) (knm : K nm = 156) {snm : Nat} (hsnm : snm ∈ L) (ksnm : K snm = 157) {anm : Nat} (hanm : anm ∈ L) (kanm : K anm = 158) {out : Nat} (hout : out ∈ L) (kout : K out = 168) {outD : Nat} (houtD : outD ∈ L) (koutD : K outD = 169) (hf0 : q_z f x 9 = 0) (hf1 : q_z f src 1 = 0) (hf2 : q_z f src 2 = 0) (hf3 : q_z f src 3 = (-1)) (hf4 : q_z f hist 1 = 0) (hf5 : q_z f hist 2 = 0) (hf6 : q_z f rep 1 = 0) (hf7 : q_z f now 3 = 0) (hf8 : q_z f now 4 = 0) (hf9 : q_z f now 5 = 0) (hf10 : q_z f now 6 = 12) (hf11 : q_z f now 10 = 3) (hf12 : q_z f now 11 = 0) (hf13 : q_z f now 12 = 0) (hf14 : q_z f mo 2 = 0) (hf15 : q_z f mo 8 = 0) (hf16 : q_z f mo 9 = (-1)) (hf17 : q_z f mo 10 = 0) (hf18 : q_z f mo 11 = (-1)) (hf19 : q_z f mo 21 = 0) (hf20 : q_z f mo 22 = 0) (hf21 : q_z f mo 40 = 0) (hf22 : q_z f sr 0 = 0) (hf23 : q_z f sr 1 = 0) (hf24 : q_z f sr 2 = 12) (hf25 : q_z f sr 3 = 0) (hf26 : q_z f sr 4 = 0) (hf27 : q_z f sr 5 = 1) (hf28 : q_z f sr 6 = 2) (hf29 : q_z f sr 7 = 5) (hf30 : q_z f sr 8 = 3) (hf31 : q_z f sr 9 = 0) (hr0 : q_r f x 0 = src) (hr1 : q_r f x 1 = rdr) (hr2 : q_r f x 2 = scr) (hr3 : q_r f x 3 = fc) (hr4 : q_r f x 4 = hist) (hr5 : q_r f x 5 = rep) (hr6 : q_r f x 6 = now) (hr7 : q_r f x 7 = dr) (hr8 : q_r f x 8 = sv) (hr9 : q_r f fc 0 = tr) (hr10 : q_r f mo 1 = bu) (hr11 : q_r f mo 13 = sr) (hr12 : q_r f mo 14 = sd) (hr13 : q_r f mo 15 = as) (hr14 : q_r f mo 16 = aw) (hr15 : q_r f mo 17 = pa) (hr16 : q_r f mo 18 = nm) (hr17 : q_r f mo 19 = snm) (hr18 : q_r f mo 20 = anm) (hl : lv_has ls 10 [(5, .int (q_i 0)), (0, .ref b), (1, .ref x), (2, .ref mo), (3, .ref out), (4, .ref outD)]) : W p l e room_1 s m #[Value.ref b] below meth c H locs 1100 20000 (lw_Z below #[Value.ref b] s) (F0 m 468 ls []) := by
  have hXs := C0.2.2.2.2.2.2.1
  have hbl := C0.2.2.2.2.2.2.2.1
  have hbA := q_bA hbl
  obtain ⟨x0, rx0, ex0⟩ : ∃ z : Int, q_R z ∧ xs 0 = q_i z := ⟨_, q_rng _, (q_of _).symm⟩
  have lx0 := rx0.1
  have ux0 := rx0.2
  obtain ⟨x1, rx1, ex1⟩ : ∃ z : Int, q_R z ∧ xs 1 = q_i z := ⟨_, q_rng _, (q_of _).symm⟩
  have lx1 := rx1.1
  have ux1 := rx1.2
  obtain ⟨x2, rx2, ex2⟩ : ∃ z : Int, q_R z ∧ xs 2 = q_i z := ⟨_, q_rng _, (q_of _).symm⟩
  have lx2 := rx2.1
  have ux2 := rx2.2
  obtain ⟨x3, rx3, ex3⟩ : ∃ z : Int, q_R z ∧ xs 3 = q_i z := ⟨_, q_rng _, (q_of _).symm⟩
  have lx3 := rx3.1
  have ux3 := rx3.2
  obtain ⟨x4, rx4, ex4⟩ : ∃ z : Int, q_R z ∧ xs 4 = q_i z := ⟨_, q_rng _, (q_of _).symm⟩
  have lx4 := rx4.1
  have ux4 := rx4.2
  obtain ⟨x5, rx5, ex5⟩ : ∃ z : Int, q_R z ∧ xs 5 = q_i z := ⟨_, q_rng _, (q_of _).symm⟩
  have lx5 := rx5.1
  have ux5 := rx5.2
  refine q_ald_n cx dL_law_468 rfl (lv_at hl 2 rfl) ?_
  refine q_cVi (As := []) (rest := []) cx hB (fun q h => hLA q h) hN hx kx (by decide) rfl (x_errorCode l g hN hB.2.1 x hx kx src hsrc ksrc rdr hrdr krdr scr hscr kscr fc hfc kfc hist hhist khist rep hrep krep now hnow know dr hdr kdr sv hsv ksv tr htr ktr hf0 hf1 hf2 hf3 hf4 hf5 hf6 hf7 hf8 hf9 hf10 hf11 hf12 hf13 hr0 hr1 hr2 hr3 hr4 hr5 hr6 hr7 hr8 hr9) q_cL_138 q_dX11_errorCode (by decide) rfl rfl hl.1 rfl (Nat.le_of_ble_eq_true rfl) dL_law_469 (fun y2 H locs f1 ry2 h3 hF hB => ?_)
  obtain ⟨rfl, qy2⟩ := h3
  subst qy2
  refine q_ald_n cx dL_law_472 rfl (lv_at hl 3 rfl) ?_
  refine q_cVi (As := []) (rest := [.int (q_i 0)]) cx hB (fun q h => hLA q h) hN hmo kmo (by decide) rfl (p_errorCode l g hN hB.2.1 mo hmo kmo bu hbu kbu sr hsr ksr sd hsd ksd as has kas aw haw kaw pa hpa kpa nm hnm knm snm hsnm ksnm anm hanm kanm hf14 hf15 hf16 hf17 hf18 hf19 hf20 hf21 hf22 hf23 hf24 hf25 hf26 hf27 hf28 hf29 hf30 hf31 hr10 hr11 hr12 hr13 hr14 hr15 hr16 hr17 hr18) q_cL_141 q_dX12_errorCode (by decide) rfl rfl hl.1 rfl (Nat.le_of_ble_eq_true rfl) dL_law_473 (fun y5 H locs f4 ry5 h6 hF hB => ?_)
  obtain ⟨qy5, z7⟩ := h6
  have z8 : q_z f4 x 9 = 0 := (hF.z hx (by rw [kx]; rfl)).trans hf0
  have z9 : q_z f4 src 1 = 0 := (hF.z hsrc (by rw [ksrc]; rfl)).trans hf1
  have z10 : q_z f4 src 2 = 0 := (hF.z hsrc (by rw [ksrc]; rfl)).trans hf2
  have z11 : q_z f4 src 3 = (-1) := (hF.z hsrc (by rw [ksrc]; rfl)).trans hf3
  have z12 : q_z f4 hist 1 = 0 := (hF.z hhist (by rw [khist]; rfl)).trans hf4
  have z13 : q_z f4 hist 2 = 0 := (hF.z hhist (by rw [khist]; rfl)).trans hf5
  have z14 : q_z f4 rep 1 = 0 := (hF.z hrep (by rw [krep]; rfl)).trans hf6
  have z15 : q_z f4 now 3 = 0 := (hF.z hnow (by rw [know]; rfl)).trans hf7
  have z16 : q_z f4 now 4 = 0 := (hF.z hnow (by rw [know]; rfl)).trans hf8
  have z17 : q_z f4 now 5 = 0 := (hF.z hnow (by rw [know]; rfl)).trans hf9
  have z18 : q_z f4 now 6 = 12 := (hF.z hnow (by rw [know]; rfl)).trans hf10
  have z19 : q_z f4 now 10 = 3 := (hF.z hnow (by rw [know]; rfl)).trans hf11
  have z20 : q_z f4 now 11 = 0 := (hF.z hnow (by rw [know]; rfl)).trans hf12
  have z21 : q_z f4 now 12 = 0 := (hF.z hnow (by rw [know]; rfl)).trans hf13
  have z22 : q_r f4 x 0 = src := (hF.r hx (by rw [kx]; rfl)).trans hr0
  have z23 : q_r f4 x 1 = rdr := (hF.r hx (by rw [kx]; rfl)).trans hr1
  have z24 : q_r f4 x 2 = scr := (hF.r hx (by rw [kx]; rfl)).trans hr2
  have z25 : q_r f4 x 3 = fc := (hF.r hx (by rw [kx]; rfl)).trans hr3
  have z26 : q_r f4 x 4 = hist := (hF.r hx (by rw [kx]; rfl)).trans hr4
  have z27 : q_r f4 x 5 = rep := (hF.r hx (by rw [kx]; rfl)).trans hr5
  have z28 : q_r f4 x 6 = now := (hF.r hx (by rw [kx]; rfl)).trans hr6
  have z29 : q_r f4 x 7 = dr := (hF.r hx (by rw [kx]; rfl)).trans hr7
  have z30 : q_r f4 x 8 = sv := (hF.r hx (by rw [kx]; rfl)).trans hr8
  have z31 : q_r f4 fc 0 = tr := (hF.r hfc (by rw [kfc]; rfl)).trans hr9
  subst qy5
  refine q_iceq (tgt := 2394) cx ⟨by decide, by decide⟩ ⟨by decide, by decide⟩ dL_law_476 (by decide) (fun c32 => ?_) (fun c32 => ?_)
  · refine q_iinc (lv' := [(5, .int (q_i (0 + 6))), (0, .ref b), (1, .ref x), (2, .ref mo), (3, .ref out), (4, .ref outD)]) cx dL_law_2394 hl (k := 0) rfl (by decide) rfl (fun ls hl => ?_)
    refine lv_goto (tgt := 28) cx.1 cx.2.1 dL_law_2397 (by decide) ?_
    refine lv_iload cx.1 cx.2.1 dL_law_28 (lv_at hl 0 rfl) ?_
    refine q_ald_n cx dL_law_30 rfl (lv_at hl 1 rfl) ?_
    refine va_slen cx.1 cx.2.1 hXs hbl hbA hB.1.2.2.2 dL_law_31 ?_
    rw [show Int32.ofNat 6 = q_i 6 from by decide]
    refine q_bipush cx dL_law_32 rfl ?_
    refine q_isub cx dL_law_34 ?_
    refine q_icgt (tgt := 2400) cx ⟨by decide, by decide⟩ ⟨by decide, by decide⟩ dL_law_35 (by decide) (fun c33 => ?_) (fun c33 => ?_)
    · refine q_iconst cx dL_law_2400 ?_
      exact q_lawret C0 hB (by decide) (by decide) dL_law_2401
    · exact absurd c33 (by omega)
  · exact absurd c32 (by omega)
set_option maxHeartbeats 4000000 in
set_option maxRecDepth 100000 in
theorem law_c481 {p : Program} {l : Launch} {e : Env} {s : State} {m : MethodId} {below : List Frame} {meth : Method} {c : Code} {b : Nat} {xs : Nat → Int32} (hfl : l.stackTraces = false) (C0 : lw_At p s m meth c b 6 xs) (cx : CallFix p m c cL_law 10 s #[Value.ref b] q_al RL) {g : q_G} {K : Nat → Nat} {L : List Nat} {f : Nat → va_E} {H : Heap} {locs : List Loc} {ls : Array Slot} (hN : L.Nodup) (hLA : ∀ q, q ∈ L → s.heap.size ≤ q) (hX : q_X (fun q => q ∈ L) s) (hB : q_B g K L (fun q => s.heap.size ≤ q) [(2, 1, 2), (6, 1, 1), (7, 1, 4), (8, 1, 9), (9, 0, 2), (10, 3, 15), (11, 9, 9), (12, 0, 40), (13, 3, 15), (14, 3, 15), (15, 3, 15), (16, 3, 15), (142, 0, 599), (150, 0, 599), (151, 0, 657), (152, 0, 657), (153, 0, 657), (154, 0, 657), (155, 0, 3947), (156, 0, 9), (157, 0, 9), (158, 0, 9), (168, 0, 0), (169, 0, 0)] f f s H locs) {x : Nat} (hx : x ∈ L) (kx : K x = 11) {src : Nat} (hsrc : src ∈ L) (ksrc : K src = 8) {rdr : Nat} (hrdr : rdr ∈ L) (krdr : K rdr = 9) {scr : Nat} (hscr : scr ∈ L) (kscr : K scr = 7) {fc : Nat} (hfc : fc ∈ L) (kfc : K fc = 1) {hist : Nat} (hhist : hist ∈ L) (khist : K hist = 2) {rep : Nat} (hrep : rep ∈ L) (krep : K rep = 6) {now : Nat} (hnow : now ∈ L) (know : K now = 10) {dr : Nat} (hdr : dr ∈ L) (kdr : K dr = 13) {sv : Nat} (hsv : sv ∈ L) (ksv : K sv = 14) {tr : Nat} (htr : tr ∈ L) (ktr : K tr = 15) {mo : Nat} (hmo : mo ∈ L) (kmo : K mo = 12) {bu : Nat} (hbu : bu ∈ L) (kbu : K bu = 150) {sr : Nat} (hsr : sr ∈ L) (ksr : K sr = 151) {sd : Nat} (hsd : sd ∈ L) (ksd : K sd = 152) {as : Nat} (has : as ∈ L) (kas : K as = 153) {aw : Nat} (haw : aw ∈ L) (kaw : K aw = 154) {pa : Nat} (hpa : pa ∈ L) (kpa : K pa = 155) {nm : Nat} (hnm : nm ∈ L) (knm : K nm = 156) {snm : Nat} (hsnm : snm ∈ L) (ksnm : K snm = 157) {anm : Nat} (hanm : anm ∈ L) (kanm : K anm = 158) {out : Nat} (hout : out ∈ L) (kout : K out = 168) {outD : Nat} (houtD : outD ∈ L) (koutD : K outD = 169) (hf0 : q_z f x 9 = 0) (hf1 : q_z f src 1 = 0) (hf2 : q_z f src 2 = 0) (hf3 : q_z f src 3 = (-1)) (hf4 : q_z f hist 1 = 0) (hf5 : q_z f hist 2 = 0) (hf6 : q_z f rep 1 = 0) (hf7 : q_z f now 3 = 0) (hf8 : q_z f now 4 = 0) (hf9 : q_z f now 5 = 0) (hf10 : q_z f now 6 = 12) (hf11 : q_z f now 10 = 3) (hf12 : q_z f now 11 = 0) (hf13 : q_z f now 12 = 0) (hf14 : q_z f mo 2 = 0) (hf15 : q_z f mo 8 = 0) (hf16 : q_z f mo 9 = (-1)) (hf17 : q_z f mo 10 = 0) (hf18 : q_z f mo 11 = (-1)) (hf19 : q_z f mo 21 = 0) (hf20 : q_z f mo 22 = 0) (hf21 : q_z f mo 40 = 0) (hf22 : q_z f sr 0 = 0) (hf23 : q_z f sr 1 = 0) (hf24 : q_z f sr 2 = 12) (hf25 : q_z f sr 3 = 0) (hf26 : q_z f sr 4 = 0) (hf27 : q_z f sr 5 = 1) (hf28 : q_z f sr 6 = 2) (hf29 : q_z f sr 7 = 5) (hf30 : q_z f sr 8 = 3) (hf31 : q_z f sr 9 = 0) (hr0 : q_r f x 0 = src) (hr1 : q_r f x 1 = rdr) (hr2 : q_r f x 2 = scr) (hr3 : q_r f x 3 = fc) (hr4 : q_r f x 4 = hist) (hr5 : q_r f x 5 = rep) (hr6 : q_r f x 6 = now) (hr7 : q_r f x 7 = dr) (hr8 : q_r f x 8 = sv) (hr9 : q_r f fc 0 = tr) (hr10 : q_r f mo 1 = bu) (hr11 : q_r f mo 13 = sr) (hr12 : q_r f mo 14 = sd) (hr13 : q_r f mo 15 = as) (hr14 : q_r f mo 16 = aw) (hr15 : q_r f mo 17 = pa) (hr16 : q_r f mo 18 = nm) (hr17 : q_r f mo 19 = snm) (hr18 : q_r f mo 20 = anm) (hl : lv_has ls 10 [(5, .int (q_i 0)), (0, .ref b), (1, .ref x), (2, .ref mo), (3, .ref out), (4, .ref outD)]) : W p l e room_1 s m #[Value.ref b] below meth c H locs 1100 20000 (lw_Z below #[Value.ref b] s) (F0 m 481 ls []) := by
  have hXs := C0.2.2.2.2.2.2.1
  have hbl := C0.2.2.2.2.2.2.2.1
  have hbA := q_bA hbl
  obtain ⟨x0, rx0, ex0⟩ : ∃ z : Int, q_R z ∧ xs 0 = q_i z := ⟨_, q_rng _, (q_of _).symm⟩
  have lx0 := rx0.1
  have ux0 := rx0.2
  obtain ⟨x1, rx1, ex1⟩ : ∃ z : Int, q_R z ∧ xs 1 = q_i z := ⟨_, q_rng _, (q_of _).symm⟩
  have lx1 := rx1.1
  have ux1 := rx1.2
  obtain ⟨x2, rx2, ex2⟩ : ∃ z : Int, q_R z ∧ xs 2 = q_i z := ⟨_, q_rng _, (q_of _).symm⟩
  have lx2 := rx2.1
  have ux2 := rx2.2
  obtain ⟨x3, rx3, ex3⟩ : ∃ z : Int, q_R z ∧ xs 3 = q_i z := ⟨_, q_rng _, (q_of _).symm⟩
  have lx3 := rx3.1
  have ux3 := rx3.2
  obtain ⟨x4, rx4, ex4⟩ : ∃ z : Int, q_R z ∧ xs 4 = q_i z := ⟨_, q_rng _, (q_of _).symm⟩
  have lx4 := rx4.1
  have ux4 := rx4.2
  obtain ⟨x5, rx5, ex5⟩ : ∃ z : Int, q_R z ∧ xs 5 = q_i z := ⟨_, q_rng _, (q_of _).symm⟩
  have lx5 := rx5.1
  have ux5 := rx5.2
  refine q_ald_n cx dL_law_481 rfl (lv_at hl 2 rfl) ?_
  refine q_cVi (As := []) (rest := []) cx hB (fun q h => hLA q h) hN hx kx (by decide) rfl (x_errorPosition l g hN hB.2.1 x hx kx src hsrc ksrc rdr hrdr krdr scr hscr kscr fc hfc kfc hist hhist khist rep hrep krep now hnow know dr hdr kdr sv hsv ksv tr htr ktr hf0 hf1 hf2 hf3 hf4 hf5 hf6 hf7 hf8 hf9 hf10 hf11 hf12 hf13 hr0 hr1 hr2 hr3 hr4 hr5 hr6 hr7 hr8 hr9) q_cL_142 q_dX11_errorPosition (by decide) rfl rfl hl.1 rfl (Nat.le_of_ble_eq_true rfl) dL_law_482 (fun y2 H locs f1 ry2 h3 hF hB => ?_)
  obtain ⟨rfl, qy2⟩ := h3
  subst qy2
  refine q_ald_n cx dL_law_485 rfl (lv_at hl 3 rfl) ?_
  refine q_cVi (As := []) (rest := [.int (q_i (-1))]) cx hB (fun q h => hLA q h) hN hmo kmo (by decide) rfl (p_errorPosition l g hN hB.2.1 mo hmo kmo bu hbu kbu sr hsr ksr sd hsd ksd as has kas aw haw kaw pa hpa kpa nm hnm knm snm hsnm ksnm anm hanm kanm hf14 hf15 hf16 hf17 hf18 hf19 hf20 hf21 hf22 hf23 hf24 hf25 hf26 hf27 hf28 hf29 hf30 hf31 hr10 hr11 hr12 hr13 hr14 hr15 hr16 hr17 hr18) q_cL_145 q_dX12_errorPosition (by decide) rfl rfl hl.1 rfl (Nat.le_of_ble_eq_true rfl) dL_law_486 (fun y5 H locs f4 ry5 h6 hF hB => ?_)
  obtain ⟨qy5, z7⟩ := h6
  have z8 : q_z f4 x 9 = 0 := (hF.z hx (by rw [kx]; rfl)).trans hf0
  have z9 : q_z f4 src 1 = 0 := (hF.z hsrc (by rw [ksrc]; rfl)).trans hf1
  have z10 : q_z f4 src 2 = 0 := (hF.z hsrc (by rw [ksrc]; rfl)).trans hf2
  have z11 : q_z f4 src 3 = (-1) := (hF.z hsrc (by rw [ksrc]; rfl)).trans hf3
  have z12 : q_z f4 hist 1 = 0 := (hF.z hhist (by rw [khist]; rfl)).trans hf4
  have z13 : q_z f4 hist 2 = 0 := (hF.z hhist (by rw [khist]; rfl)).trans hf5
  have z14 : q_z f4 rep 1 = 0 := (hF.z hrep (by rw [krep]; rfl)).trans hf6
  have z15 : q_z f4 now 3 = 0 := (hF.z hnow (by rw [know]; rfl)).trans hf7
  have z16 : q_z f4 now 4 = 0 := (hF.z hnow (by rw [know]; rfl)).trans hf8
  have z17 : q_z f4 now 5 = 0 := (hF.z hnow (by rw [know]; rfl)).trans hf9
  have z18 : q_z f4 now 6 = 12 := (hF.z hnow (by rw [know]; rfl)).trans hf10
  have z19 : q_z f4 now 10 = 3 := (hF.z hnow (by rw [know]; rfl)).trans hf11
  have z20 : q_z f4 now 11 = 0 := (hF.z hnow (by rw [know]; rfl)).trans hf12
  have z21 : q_z f4 now 12 = 0 := (hF.z hnow (by rw [know]; rfl)).trans hf13
  have z22 : q_r f4 x 0 = src := (hF.r hx (by rw [kx]; rfl)).trans hr0
  have z23 : q_r f4 x 1 = rdr := (hF.r hx (by rw [kx]; rfl)).trans hr1
  have z24 : q_r f4 x 2 = scr := (hF.r hx (by rw [kx]; rfl)).trans hr2
  have z25 : q_r f4 x 3 = fc := (hF.r hx (by rw [kx]; rfl)).trans hr3
  have z26 : q_r f4 x 4 = hist := (hF.r hx (by rw [kx]; rfl)).trans hr4
  have z27 : q_r f4 x 5 = rep := (hF.r hx (by rw [kx]; rfl)).trans hr5
  have z28 : q_r f4 x 6 = now := (hF.r hx (by rw [kx]; rfl)).trans hr6
  have z29 : q_r f4 x 7 = dr := (hF.r hx (by rw [kx]; rfl)).trans hr7
  have z30 : q_r f4 x 8 = sv := (hF.r hx (by rw [kx]; rfl)).trans hr8
  have z31 : q_r f4 fc 0 = tr := (hF.r hfc (by rw [kfc]; rfl)).trans hr9
  subst qy5
  refine q_iceq (tgt := 2394) cx ⟨by decide, by decide⟩ ⟨by decide, by decide⟩ dL_law_489 (by decide) (fun c32 => ?_) (fun c32 => ?_)
  · refine q_iinc (lv' := [(5, .int (q_i (0 + 6))), (0, .ref b), (1, .ref x), (2, .ref mo), (3, .ref out), (4, .ref outD)]) cx dL_law_2394 hl (k := 0) rfl (by decide) rfl (fun ls hl => ?_)
    refine lv_goto (tgt := 28) cx.1 cx.2.1 dL_law_2397 (by decide) ?_
    refine lv_iload cx.1 cx.2.1 dL_law_28 (lv_at hl 0 rfl) ?_
    refine q_ald_n cx dL_law_30 rfl (lv_at hl 1 rfl) ?_
    refine va_slen cx.1 cx.2.1 hXs hbl hbA hB.1.2.2.2 dL_law_31 ?_
    rw [show Int32.ofNat 6 = q_i 6 from by decide]
    refine q_bipush cx dL_law_32 rfl ?_
    refine q_isub cx dL_law_34 ?_
    refine q_icgt (tgt := 2400) cx ⟨by decide, by decide⟩ ⟨by decide, by decide⟩ dL_law_35 (by decide) (fun c33 => ?_) (fun c33 => ?_)
    · refine q_iconst cx dL_law_2400 ?_
      exact q_lawret C0 hB (by decide) (by decide) dL_law_2401
    · exact absurd c33 (by omega)
  · exact absurd c32 (by omega)
set_option maxHeartbeats 4000000 in
set_option maxRecDepth 100000 in
theorem law_c494 {p : Program} {l : Launch} {e : Env} {s : State} {m : MethodId} {below : List Frame} {meth : Method} {c : Code} {b : Nat} {xs : Nat → Int32} (hfl : l.stackTraces = false) (C0 : lw_At p s m meth c b 6 xs) (cx : CallFix p m c cL_law 10 s #[Value.ref b] q_al RL) {g : q_G} {K : Nat → Nat} {L : List Nat} {f : Nat → va_E} {H : Heap} {locs : List Loc} {ls : Array Slot} (hN : L.Nodup) (hLA : ∀ q, q ∈ L → s.heap.size ≤ q) (hX : q_X (fun q => q ∈ L) s) (hB : q_B g K L (fun q => s.heap.size ≤ q) [(2, 1, 2), (6, 1, 1), (7, 1, 4), (8, 1, 9), (9, 0, 2), (10, 3, 15), (11, 9, 9), (12, 0, 40), (13, 3, 15), (14, 3, 15), (15, 3, 15), (16, 3, 15), (142, 0, 599), (150, 0, 599), (151, 0, 657), (152, 0, 657), (153, 0, 657), (154, 0, 657), (155, 0, 3947), (156, 0, 9), (157, 0, 9), (158, 0, 9), (168, 0, 0), (169, 0, 0)] f f s H locs) {x : Nat} (hx : x ∈ L) (kx : K x = 11) {src : Nat} (hsrc : src ∈ L) (ksrc : K src = 8) {rdr : Nat} (hrdr : rdr ∈ L) (krdr : K rdr = 9) {scr : Nat} (hscr : scr ∈ L) (kscr : K scr = 7) {fc : Nat} (hfc : fc ∈ L) (kfc : K fc = 1) {hist : Nat} (hhist : hist ∈ L) (khist : K hist = 2) {rep : Nat} (hrep : rep ∈ L) (krep : K rep = 6) {now : Nat} (hnow : now ∈ L) (know : K now = 10) {dr : Nat} (hdr : dr ∈ L) (kdr : K dr = 13) {sv : Nat} (hsv : sv ∈ L) (ksv : K sv = 14) {tr : Nat} (htr : tr ∈ L) (ktr : K tr = 15) {mo : Nat} (hmo : mo ∈ L) (kmo : K mo = 12) {bu : Nat} (hbu : bu ∈ L) (kbu : K bu = 150) {sr : Nat} (hsr : sr ∈ L) (ksr : K sr = 151) {sd : Nat} (hsd : sd ∈ L) (ksd : K sd = 152) {as : Nat} (has : as ∈ L) (kas : K as = 153) {aw : Nat} (haw : aw ∈ L) (kaw : K aw = 154) {pa : Nat} (hpa : pa ∈ L) (kpa : K pa = 155) {nm : Nat} (hnm : nm ∈ L) (knm : K nm = 156) {snm : Nat} (hsnm : snm ∈ L) (ksnm : K snm = 157) {anm : Nat} (hanm : anm ∈ L) (kanm : K anm = 158) {out : Nat} (hout : out ∈ L) (kout : K out = 168) {outD : Nat} (houtD : outD ∈ L) (koutD : K outD = 169) (hf0 : q_z f x 9 = 0) (hf1 : q_z f src 1 = 0) (hf2 : q_z f src 2 = 0) (hf3 : q_z f src 3 = (-1)) (hf4 : q_z f hist 1 = 0) (hf5 : q_z f hist 2 = 0) (hf6 : q_z f rep 1 = 0) (hf7 : q_z f now 3 = 0) (hf8 : q_z f now 4 = 0) (hf9 : q_z f now 5 = 0) (hf10 : q_z f now 6 = 12) (hf11 : q_z f now 10 = 3) (hf12 : q_z f now 11 = 0) (hf13 : q_z f now 12 = 0) (hf14 : q_z f mo 2 = 0) (hf15 : q_z f mo 8 = 0) (hf16 : q_z f mo 9 = (-1)) (hf17 : q_z f mo 10 = 0) (hf18 : q_z f mo 11 = (-1)) (hf19 : q_z f mo 21 = 0) (hf20 : q_z f mo 22 = 0) (hf21 : q_z f mo 40 = 0) (hf22 : q_z f sr 0 = 0) (hf23 : q_z f sr 1 = 0) (hf24 : q_z f sr 2 = 12) (hf25 : q_z f sr 3 = 0) (hf26 : q_z f sr 4 = 0) (hf27 : q_z f sr 5 = 1) (hf28 : q_z f sr 6 = 2) (hf29 : q_z f sr 7 = 5) (hf30 : q_z f sr 8 = 3) (hf31 : q_z f sr 9 = 0) (hr0 : q_r f x 0 = src) (hr1 : q_r f x 1 = rdr) (hr2 : q_r f x 2 = scr) (hr3 : q_r f x 3 = fc) (hr4 : q_r f x 4 = hist) (hr5 : q_r f x 5 = rep) (hr6 : q_r f x 6 = now) (hr7 : q_r f x 7 = dr) (hr8 : q_r f x 8 = sv) (hr9 : q_r f fc 0 = tr) (hr10 : q_r f mo 1 = bu) (hr11 : q_r f mo 13 = sr) (hr12 : q_r f mo 14 = sd) (hr13 : q_r f mo 15 = as) (hr14 : q_r f mo 16 = aw) (hr15 : q_r f mo 17 = pa) (hr16 : q_r f mo 18 = nm) (hr17 : q_r f mo 19 = snm) (hr18 : q_r f mo 20 = anm) (hl : lv_has ls 10 [(5, .int (q_i 0)), (0, .ref b), (1, .ref x), (2, .ref mo), (3, .ref out), (4, .ref outD)]) : W p l e room_1 s m #[Value.ref b] below meth c H locs 1100 20000 (lw_Z below #[Value.ref b] s) (F0 m 494 ls []) := by
  have hXs := C0.2.2.2.2.2.2.1
  have hbl := C0.2.2.2.2.2.2.2.1
  have hbA := q_bA hbl
  obtain ⟨x0, rx0, ex0⟩ : ∃ z : Int, q_R z ∧ xs 0 = q_i z := ⟨_, q_rng _, (q_of _).symm⟩
  have lx0 := rx0.1
  have ux0 := rx0.2
  obtain ⟨x1, rx1, ex1⟩ : ∃ z : Int, q_R z ∧ xs 1 = q_i z := ⟨_, q_rng _, (q_of _).symm⟩
  have lx1 := rx1.1
  have ux1 := rx1.2
  obtain ⟨x2, rx2, ex2⟩ : ∃ z : Int, q_R z ∧ xs 2 = q_i z := ⟨_, q_rng _, (q_of _).symm⟩
  have lx2 := rx2.1
  have ux2 := rx2.2
  obtain ⟨x3, rx3, ex3⟩ : ∃ z : Int, q_R z ∧ xs 3 = q_i z := ⟨_, q_rng _, (q_of _).symm⟩
  have lx3 := rx3.1
  have ux3 := rx3.2
  obtain ⟨x4, rx4, ex4⟩ : ∃ z : Int, q_R z ∧ xs 4 = q_i z := ⟨_, q_rng _, (q_of _).symm⟩
  have lx4 := rx4.1
  have ux4 := rx4.2
  obtain ⟨x5, rx5, ex5⟩ : ∃ z : Int, q_R z ∧ xs 5 = q_i z := ⟨_, q_rng _, (q_of _).symm⟩
  have lx5 := rx5.1
  have ux5 := rx5.2
  refine q_ald_n cx dL_law_494 rfl (lv_at hl 2 rfl) ?_
  refine q_ald_n cx dL_law_495 rfl (lv_at hl 1 rfl) ?_
  refine lv_iload cx.1 cx.2.1 dL_law_496 (lv_at hl 0 rfl) ?_
  refine q_iconst cx dL_law_498 ?_
  refine q_iadd cx dL_law_499 ?_
  refine va_sld cx.1 cx.2.1 hXs hbl hbA hB.1.2.2.2 (q_in (by decide) (by decide) (by decide)) dL_law_500 ?_
  rw [show (q_i (0 + 1)).toNatClampNeg = 1 from by decide, ex1]
  refine q_ald_n cx dL_law_501 rfl (lv_at hl 4 rfl) ?_
  by_cases c1 : x1 ≤ (-1)
  · refine q_cWS (As := [.ref x, .int (q_i x1), .ref out]) (rest := []) cx hX hB (fun q h => hLA q h) (fun q h1 h2 => absurd h1 (Nat.not_le_of_lt h2)) hN (w_settinga l g hN hB.2.1 hfl x hx kx x1 (by omega) (by omega) out hout kout src hsrc ksrc rdr hrdr krdr scr hscr kscr fc hfc kfc hist hhist khist rep hrep krep now hnow know dr hdr kdr sv hsv ksv tr htr ktr hf0 hf1 hf2 hf3 hf4 hf5 hf6 hf7 hf8 hf9 hf10 hf11 hf12 hf13 hr0 hr1 hr2 hr3 hr4 hr5 hr6 hr7 hr8 hr9) q_cL_146 q_dL_setting (by decide) rfl rfl hl.1 rfl (Nat.le_of_ble_eq_true rfl) dL_law_502 (fun v9 H locs f2 h4 hF hB => ?_)
    obtain ⟨y3, rfl, ry3, h4⟩ := h4
    refine W.eq (g2 := F0 m 505 ls [.int (q_i y3)]) rfl ?_
    have qy3 := h4
    have z5 : q_z f2 x 9 = 0 := (hF.z hx (by rw [kx]; rfl)).trans hf0
    have z6 : q_z f2 src 1 = 0 := (hF.z hsrc (by rw [ksrc]; rfl)).trans hf1
    have z7 : q_z f2 src 2 = 0 := (hF.z hsrc (by rw [ksrc]; rfl)).trans hf2
    have z8 : q_z f2 src 3 = (-1) := (hF.z hsrc (by rw [ksrc]; rfl)).trans hf3
    have z9 : q_z f2 hist 1 = 0 := (hF.z hhist (by rw [khist]; rfl)).trans hf4
    have z10 : q_z f2 hist 2 = 0 := (hF.z hhist (by rw [khist]; rfl)).trans hf5
    have z11 : q_z f2 rep 1 = 0 := (hF.z hrep (by rw [krep]; rfl)).trans hf6
    have z12 : q_z f2 now 3 = 0 := (hF.z hnow (by rw [know]; rfl)).trans hf7
    have z13 : q_z f2 now 4 = 0 := (hF.z hnow (by rw [know]; rfl)).trans hf8
    have z14 : q_z f2 now 5 = 0 := (hF.z hnow (by rw [know]; rfl)).trans hf9
    have z15 : q_z f2 now 6 = 12 := (hF.z hnow (by rw [know]; rfl)).trans hf10
    have z16 : q_z f2 now 10 = 3 := (hF.z hnow (by rw [know]; rfl)).trans hf11
    have z17 : q_z f2 now 11 = 0 := (hF.z hnow (by rw [know]; rfl)).trans hf12
    have z18 : q_z f2 now 12 = 0 := (hF.z hnow (by rw [know]; rfl)).trans hf13
    have z19 : q_z f2 mo 2 = 0 := (hF.z hmo (by rw [kmo]; rfl)).trans hf14
    have z20 : q_z f2 mo 8 = 0 := (hF.z hmo (by rw [kmo]; rfl)).trans hf15
    have z21 : q_z f2 mo 9 = (-1) := (hF.z hmo (by rw [kmo]; rfl)).trans hf16
    have z22 : q_z f2 mo 10 = 0 := (hF.z hmo (by rw [kmo]; rfl)).trans hf17
    have z23 : q_z f2 mo 11 = (-1) := (hF.z hmo (by rw [kmo]; rfl)).trans hf18
    have z24 : q_z f2 mo 21 = 0 := (hF.z hmo (by rw [kmo]; rfl)).trans hf19
    have z25 : q_z f2 mo 22 = 0 := (hF.z hmo (by rw [kmo]; rfl)).trans hf20
    have z26 : q_z f2 mo 40 = 0 := (hF.z hmo (by rw [kmo]; rfl)).trans hf21
    have z27 : q_z f2 sr 0 = 0 := (hF.z hsr (by rw [ksr]; rfl)).trans hf22
    have z28 : q_z f2 sr 1 = 0 := (hF.z hsr (by rw [ksr]; rfl)).trans hf23
    have z29 : q_z f2 sr 2 = 12 := (hF.z hsr (by rw [ksr]; rfl)).trans hf24
    have z30 : q_z f2 sr 3 = 0 := (hF.z hsr (by rw [ksr]; rfl)).trans hf25
    have z31 : q_z f2 sr 4 = 0 := (hF.z hsr (by rw [ksr]; rfl)).trans hf26
    have z32 : q_z f2 sr 5 = 1 := (hF.z hsr (by rw [ksr]; rfl)).trans hf27
    have z33 : q_z f2 sr 6 = 2 := (hF.z hsr (by rw [ksr]; rfl)).trans hf28
    have z34 : q_z f2 sr 7 = 5 := (hF.z hsr (by rw [ksr]; rfl)).trans hf29
    have z35 : q_z f2 sr 8 = 3 := (hF.z hsr (by rw [ksr]; rfl)).trans hf30
    have z36 : q_z f2 sr 9 = 0 := (hF.z hsr (by rw [ksr]; rfl)).trans hf31
    have z37 : q_r f2 x 0 = src := (hF.r hx (by rw [kx]; rfl)).trans hr0
    have z38 : q_r f2 x 1 = rdr := (hF.r hx (by rw [kx]; rfl)).trans hr1
    have z39 : q_r f2 x 2 = scr := (hF.r hx (by rw [kx]; rfl)).trans hr2
    have z40 : q_r f2 x 3 = fc := (hF.r hx (by rw [kx]; rfl)).trans hr3
    have z41 : q_r f2 x 4 = hist := (hF.r hx (by rw [kx]; rfl)).trans hr4
    have z42 : q_r f2 x 5 = rep := (hF.r hx (by rw [kx]; rfl)).trans hr5
    have z43 : q_r f2 x 6 = now := (hF.r hx (by rw [kx]; rfl)).trans hr6
    have z44 : q_r f2 x 7 = dr := (hF.r hx (by rw [kx]; rfl)).trans hr7
    have z45 : q_r f2 x 8 = sv := (hF.r hx (by rw [kx]; rfl)).trans hr8
    have z46 : q_r f2 fc 0 = tr := (hF.r hfc (by rw [kfc]; rfl)).trans hr9
    have z47 : q_r f2 mo 1 = bu := (hF.r hmo (by rw [kmo]; rfl)).trans hr10
    have z48 : q_r f2 mo 13 = sr := (hF.r hmo (by rw [kmo]; rfl)).trans hr11
    have z49 : q_r f2 mo 14 = sd := (hF.r hmo (by rw [kmo]; rfl)).trans hr12
    have z50 : q_r f2 mo 15 = as := (hF.r hmo (by rw [kmo]; rfl)).trans hr13
    have z51 : q_r f2 mo 16 = aw := (hF.r hmo (by rw [kmo]; rfl)).trans hr14
    have z52 : q_r f2 mo 17 = pa := (hF.r hmo (by rw [kmo]; rfl)).trans hr15
    have z53 : q_r f2 mo 18 = nm := (hF.r hmo (by rw [kmo]; rfl)).trans hr16
    have z54 : q_r f2 mo 19 = snm := (hF.r hmo (by rw [kmo]; rfl)).trans hr17
    have z55 : q_r f2 mo 20 = anm := (hF.r hmo (by rw [kmo]; rfl)).trans hr18
    subst qy3
    refine lv_istore (lv' := [(6, .int (q_i 1)), (5, .int (q_i 0)), (0, .ref b), (1, .ref x), (2, .ref mo), (3, .ref out), (4, .ref outD)]) cx.1 cx.2.1 dL_law_505 hl (by decide) rfl (fun ls hl => ?_)
    refine q_ald_n cx dL_law_507 rfl (lv_at hl 4 rfl) ?_
    refine q_ald_n cx dL_law_508 rfl (lv_at hl 2 rfl) ?_
    refine lv_iload cx.1 cx.2.1 dL_law_509 (lv_at hl 1 rfl) ?_
    refine q_iconst cx dL_law_511 ?_
    refine q_iadd cx dL_law_512 ?_
    refine va_sld cx.1 cx.2.1 hXs hbl hbA hB.1.2.2.2 (q_in (by decide) (by decide) (by decide)) dL_law_513 ?_
    rw [show (q_i (0 + 1)).toNatClampNeg = 1 from by decide, ex1]
    refine q_cVi (As := [.int (q_i x1)]) (rest := []) cx hB (fun q h => hLA q h) hN hmo kmo (by decide) rfl (p_settinga l g hN hB.2.1 mo hmo kmo x1 (by omega) (by omega) bu hbu kbu sr hsr ksr sd hsd ksd as has kas aw haw kaw pa hpa kpa nm hnm knm snm hsnm ksnm anm hanm kanm z19 z20 z21 z22 z23 z24 z25 z26 z27 z28 z29 z30 z31 z32 z33 z34 z35 z36 z47 z48 z49 z50 z51 z52 z53 z54 z55) q_cL_148 q_dX12_setting (by decide) rfl rfl hl.1 rfl (Nat.le_of_ble_eq_true rfl) dL_law_514 (fun y57 H locs f56 ry57 h58 hF hB => ?_)
    obtain ⟨qy57, z59⟩ := h58
    have z60 : q_z f56 x 9 = 0 := (hF.z hx (by rw [kx]; rfl)).trans z5
    have z61 : q_z f56 src 1 = 0 := (hF.z hsrc (by rw [ksrc]; rfl)).trans z6
    have z62 : q_z f56 src 2 = 0 := (hF.z hsrc (by rw [ksrc]; rfl)).trans z7
    have z63 : q_z f56 src 3 = (-1) := (hF.z hsrc (by rw [ksrc]; rfl)).trans z8
    have z64 : q_z f56 hist 1 = 0 := (hF.z hhist (by rw [khist]; rfl)).trans z9
    have z65 : q_z f56 hist 2 = 0 := (hF.z hhist (by rw [khist]; rfl)).trans z10
    have z66 : q_z f56 rep 1 = 0 := (hF.z hrep (by rw [krep]; rfl)).trans z11
    have z67 : q_z f56 now 3 = 0 := (hF.z hnow (by rw [know]; rfl)).trans z12
    have z68 : q_z f56 now 4 = 0 := (hF.z hnow (by rw [know]; rfl)).trans z13
    have z69 : q_z f56 now 5 = 0 := (hF.z hnow (by rw [know]; rfl)).trans z14
    have z70 : q_z f56 now 6 = 12 := (hF.z hnow (by rw [know]; rfl)).trans z15
    have z71 : q_z f56 now 10 = 3 := (hF.z hnow (by rw [know]; rfl)).trans z16
    have z72 : q_z f56 now 11 = 0 := (hF.z hnow (by rw [know]; rfl)).trans z17
    have z73 : q_z f56 now 12 = 0 := (hF.z hnow (by rw [know]; rfl)).trans z18
    have z74 : q_r f56 x 0 = src := (hF.r hx (by rw [kx]; rfl)).trans z37
    have z75 : q_r f56 x 1 = rdr := (hF.r hx (by rw [kx]; rfl)).trans z38
    have z76 : q_r f56 x 2 = scr := (hF.r hx (by rw [kx]; rfl)).trans z39
    have z77 : q_r f56 x 3 = fc := (hF.r hx (by rw [kx]; rfl)).trans z40
    have z78 : q_r f56 x 4 = hist := (hF.r hx (by rw [kx]; rfl)).trans z41
    have z79 : q_r f56 x 5 = rep := (hF.r hx (by rw [kx]; rfl)).trans z42
    have z80 : q_r f56 x 6 = now := (hF.r hx (by rw [kx]; rfl)).trans z43
    have z81 : q_r f56 x 7 = dr := (hF.r hx (by rw [kx]; rfl)).trans z44
    have z82 : q_r f56 x 8 = sv := (hF.r hx (by rw [kx]; rfl)).trans z45
    have z83 : q_r f56 fc 0 = tr := (hF.r hfc (by rw [kfc]; rfl)).trans z46
    subst qy57
    refine lv_istore (lv' := [(7, .int (q_i 0)), (6, .int (q_i 1)), (5, .int (q_i 0)), (0, .ref b), (1, .ref x), (2, .ref mo), (3, .ref out), (4, .ref outD)]) cx.1 cx.2.1 dL_law_517 hl (by decide) rfl (fun ls hl => ?_)
    refine q_ald_n cx dL_law_519 rfl (lv_at hl 5 rfl) ?_
    refine q_cVi (As := []) (rest := []) cx hB (fun q h => hLA q h) hN hmo kmo (by decide) rfl (r_thrown l g hN hB.2.1 mo hmo kmo 1 (by decide) (by decide) z59) q_cL_124 q_dX12_thrown (by decide) rfl rfl hl.1 rfl (Nat.le_of_ble_eq_true rfl) dL_law_520 (fun y85 H locs f84 ry85 h86 hF hB => ?_)
    obtain ⟨rfl, qy85⟩ := h86
    subst qy85
    refine lv_iload cx.1 cx.2.1 dL_law_523 (lv_at hl 1 rfl) ?_
    refine q_iceq (tgt := 530) cx ⟨by decide, by decide⟩ ⟨by decide, by decide⟩ dL_law_525 (by decide) (fun c87 => ?_) (fun c87 => ?_)
    · refine lv_iload cx.1 cx.2.1 dL_law_530 (lv_at hl 1 rfl) ?_
      refine q_ifne (tgt := 547) cx ⟨by decide, by decide⟩ dL_law_532 (by decide) (fun c88 => ?_) (fun c88 => ?_)
      · refine lv_goto (tgt := 2394) cx.1 cx.2.1 dL_law_547 (by decide) ?_
        refine q_iinc (lv' := [(5, .int (q_i (0 + 6))), (7, .int (q_i 0)), (6, .int (q_i 1)), (0, .ref b), (1, .ref x), (2, .ref mo), (3, .ref out), (4, .ref outD)]) cx dL_law_2394 hl (k := 2) rfl (by decide) rfl (fun ls hl => ?_)
        refine lv_goto (tgt := 28) cx.1 cx.2.1 dL_law_2397 (by decide) ?_
        refine lv_iload cx.1 cx.2.1 dL_law_28 (lv_at hl 0 rfl) ?_
        refine q_ald_n cx dL_law_30 rfl (lv_at hl 3 rfl) ?_
        refine va_slen cx.1 cx.2.1 hXs hbl hbA hB.1.2.2.2 dL_law_31 ?_
        rw [show Int32.ofNat 6 = q_i 6 from by decide]
        refine q_bipush cx dL_law_32 rfl ?_
        refine q_isub cx dL_law_34 ?_
        refine q_icgt (tgt := 2400) cx ⟨by decide, by decide⟩ ⟨by decide, by decide⟩ dL_law_35 (by decide) (fun c89 => ?_) (fun c89 => ?_)
        · refine q_iconst cx dL_law_2400 ?_
          exact q_lawret C0 hB (by decide) (by decide) dL_law_2401
        · exact absurd c89 (by omega)
      · exact absurd c88 (by omega)
    · exact absurd c87 (by omega)
  · by_cases c90 : x1 ≤ 1
    · refine q_cWS (As := [.ref x, .int (q_i x1), .ref out]) (rest := []) cx hX hB (fun q h => hLA q h) (fun q h1 h2 => absurd h1 (Nat.not_le_of_lt h2)) hN (w_settingb l g hN hB.2.1 hfl x hx kx x1 (by omega) (by omega) out hout kout src hsrc ksrc rdr hrdr krdr scr hscr kscr fc hfc kfc hist hhist khist rep hrep krep now hnow know dr hdr kdr sv hsv ksv tr htr ktr hf0 hf1 hf2 hf3 hf4 hf5 hf6 hf7 hf8 hf9 hf10 hf11 hf12 hf13 hr0 hr1 hr2 hr3 hr4 hr5 hr6 hr7 hr8 hr9) q_cL_146 q_dL_setting (by decide) rfl rfl hl.1 rfl (Nat.le_of_ble_eq_true rfl) dL_law_502 (fun v9 H locs f91 h93 hF hB => ?_)
      obtain ⟨y92, rfl, ry92, h93⟩ := h93
      refine W.eq (g2 := F0 m 505 ls [.int (q_i y92)]) rfl ?_
      obtain ⟨qy92, z94⟩ := h93
      have z95 : q_z f91 mo 2 = 0 := (hF.z hmo (by rw [kmo]; rfl)).trans hf14
      have z96 : q_z f91 mo 8 = 0 := (hF.z hmo (by rw [kmo]; rfl)).trans hf15
      have z97 : q_z f91 mo 9 = (-1) := (hF.z hmo (by rw [kmo]; rfl)).trans hf16
      have z98 : q_z f91 mo 10 = 0 := (hF.z hmo (by rw [kmo]; rfl)).trans hf17
      have z99 : q_z f91 mo 11 = (-1) := (hF.z hmo (by rw [kmo]; rfl)).trans hf18
      have z100 : q_z f91 mo 21 = 0 := (hF.z hmo (by rw [kmo]; rfl)).trans hf19
      have z101 : q_z f91 mo 22 = 0 := (hF.z hmo (by rw [kmo]; rfl)).trans hf20
      have z102 : q_z f91 mo 40 = 0 := (hF.z hmo (by rw [kmo]; rfl)).trans hf21
      have z103 : q_z f91 sr 0 = 0 := (hF.z hsr (by rw [ksr]; rfl)).trans hf22
      have z104 : q_z f91 sr 1 = 0 := (hF.z hsr (by rw [ksr]; rfl)).trans hf23
      have z105 : q_z f91 sr 2 = 12 := (hF.z hsr (by rw [ksr]; rfl)).trans hf24
      have z106 : q_z f91 sr 3 = 0 := (hF.z hsr (by rw [ksr]; rfl)).trans hf25
      have z107 : q_z f91 sr 4 = 0 := (hF.z hsr (by rw [ksr]; rfl)).trans hf26
      have z108 : q_z f91 sr 5 = 1 := (hF.z hsr (by rw [ksr]; rfl)).trans hf27
      have z109 : q_z f91 sr 6 = 2 := (hF.z hsr (by rw [ksr]; rfl)).trans hf28
      have z110 : q_z f91 sr 7 = 5 := (hF.z hsr (by rw [ksr]; rfl)).trans hf29
      have z111 : q_z f91 sr 8 = 3 := (hF.z hsr (by rw [ksr]; rfl)).trans hf30
      have z112 : q_z f91 sr 9 = 0 := (hF.z hsr (by rw [ksr]; rfl)).trans hf31
      have z113 : q_r f91 x 0 = src := (hF.r hx (by rw [kx]; rfl)).trans hr0
      have z114 : q_r f91 x 1 = rdr := (hF.r hx (by rw [kx]; rfl)).trans hr1
      have z115 : q_r f91 x 2 = scr := (hF.r hx (by rw [kx]; rfl)).trans hr2
      have z116 : q_r f91 x 3 = fc := (hF.r hx (by rw [kx]; rfl)).trans hr3
      have z117 : q_r f91 x 4 = hist := (hF.r hx (by rw [kx]; rfl)).trans hr4
      have z118 : q_r f91 x 5 = rep := (hF.r hx (by rw [kx]; rfl)).trans hr5
      have z119 : q_r f91 x 6 = now := (hF.r hx (by rw [kx]; rfl)).trans hr6
      have z120 : q_r f91 x 7 = dr := (hF.r hx (by rw [kx]; rfl)).trans hr7
      have z121 : q_r f91 x 8 = sv := (hF.r hx (by rw [kx]; rfl)).trans hr8
      have z122 : q_r f91 fc 0 = tr := (hF.r hfc (by rw [kfc]; rfl)).trans hr9
      have z123 : q_r f91 mo 1 = bu := (hF.r hmo (by rw [kmo]; rfl)).trans hr10
      have z124 : q_r f91 mo 13 = sr := (hF.r hmo (by rw [kmo]; rfl)).trans hr11
      have z125 : q_r f91 mo 14 = sd := (hF.r hmo (by rw [kmo]; rfl)).trans hr12
      have z126 : q_r f91 mo 15 = as := (hF.r hmo (by rw [kmo]; rfl)).trans hr13
      have z127 : q_r f91 mo 16 = aw := (hF.r hmo (by rw [kmo]; rfl)).trans hr14
      have z128 : q_r f91 mo 17 = pa := (hF.r hmo (by rw [kmo]; rfl)).trans hr15
      have z129 : q_r f91 mo 18 = nm := (hF.r hmo (by rw [kmo]; rfl)).trans hr16
      have z130 : q_r f91 mo 19 = snm := (hF.r hmo (by rw [kmo]; rfl)).trans hr17
      have z131 : q_r f91 mo 20 = anm := (hF.r hmo (by rw [kmo]; rfl)).trans hr18
      subst qy92
      refine lv_istore (lv' := [(6, .int (q_i 0)), (5, .int (q_i 0)), (0, .ref b), (1, .ref x), (2, .ref mo), (3, .ref out), (4, .ref outD)]) cx.1 cx.2.1 dL_law_505 hl (by decide) rfl (fun ls hl => ?_)
      refine q_ald_n cx dL_law_507 rfl (lv_at hl 4 rfl) ?_
      refine q_ald_n cx dL_law_508 rfl (lv_at hl 2 rfl) ?_
      refine lv_iload cx.1 cx.2.1 dL_law_509 (lv_at hl 1 rfl) ?_
      refine q_iconst cx dL_law_511 ?_
      refine q_iadd cx dL_law_512 ?_
      refine va_sld cx.1 cx.2.1 hXs hbl hbA hB.1.2.2.2 (q_in (by decide) (by decide) (by decide)) dL_law_513 ?_
      rw [show (q_i (0 + 1)).toNatClampNeg = 1 from by decide, ex1]
      by_cases c132 : x1 ≤ 0
      · refine q_cVi (As := [.int (q_i x1)]) (rest := []) cx hB (fun q h => hLA q h) hN hmo kmo (by decide) rfl (p_setting0 l g hN hB.2.1 mo hmo kmo x1 (by omega) (by omega) bu hbu kbu sr hsr ksr sd hsd ksd as has kas aw haw kaw pa hpa kpa nm hnm knm snm hsnm ksnm anm hanm kanm z95 z96 z97 z98 z99 z100 z101 z102 z103 z104 z105 z106 z107 z108 z109 z110 z111 z112 z123 z124 z125 z126 z127 z128 z129 z130 z131) q_cL_148 q_dX12_setting (by decide) rfl rfl hl.1 rfl (Nat.le_of_ble_eq_true rfl) dL_law_514 (fun y134 H locs f133 ry134 h135 hF hB => ?_)
        obtain ⟨qy134, z136⟩ := h135
        have z137 : q_j f133 out 0 = (q_l 0) := (hF.j hout (by rw [kout]; rfl)).trans z94
        have z138 : q_r f133 x 0 = src := (hF.r hx (by rw [kx]; rfl)).trans z113
        have z139 : q_r f133 x 1 = rdr := (hF.r hx (by rw [kx]; rfl)).trans z114
        have z140 : q_r f133 x 2 = scr := (hF.r hx (by rw [kx]; rfl)).trans z115
        have z141 : q_r f133 x 3 = fc := (hF.r hx (by rw [kx]; rfl)).trans z116
        have z142 : q_r f133 x 4 = hist := (hF.r hx (by rw [kx]; rfl)).trans z117
        have z143 : q_r f133 x 5 = rep := (hF.r hx (by rw [kx]; rfl)).trans z118
        have z144 : q_r f133 x 6 = now := (hF.r hx (by rw [kx]; rfl)).trans z119
        have z145 : q_r f133 x 7 = dr := (hF.r hx (by rw [kx]; rfl)).trans z120
        have z146 : q_r f133 x 8 = sv := (hF.r hx (by rw [kx]; rfl)).trans z121
        have z147 : q_r f133 fc 0 = tr := (hF.r hfc (by rw [kfc]; rfl)).trans z122
        subst qy134
        refine lv_istore (lv' := [(7, .int (q_i 0)), (6, .int (q_i 0)), (5, .int (q_i 0)), (0, .ref b), (1, .ref x), (2, .ref mo), (3, .ref out), (4, .ref outD)]) cx.1 cx.2.1 dL_law_517 hl (by decide) rfl (fun ls hl => ?_)
        refine q_ald_n cx dL_law_519 rfl (lv_at hl 5 rfl) ?_
        refine q_cVi (As := []) (rest := []) cx hB (fun q h => hLA q h) hN hmo kmo (by decide) rfl (r_thrown l g hN hB.2.1 mo hmo kmo 0 (by decide) (by decide) z136) q_cL_124 q_dX12_thrown (by decide) rfl rfl hl.1 rfl (Nat.le_of_ble_eq_true rfl) dL_law_520 (fun y149 H locs f148 ry149 h150 hF hB => ?_)
        obtain ⟨rfl, qy149⟩ := h150
        subst qy149
        refine lv_iload cx.1 cx.2.1 dL_law_523 (lv_at hl 1 rfl) ?_
        refine q_iceq (tgt := 530) cx ⟨by decide, by decide⟩ ⟨by decide, by decide⟩ dL_law_525 (by decide) (fun c151 => ?_) (fun c151 => ?_)
        · refine lv_iload cx.1 cx.2.1 dL_law_530 (lv_at hl 1 rfl) ?_
          refine q_ifne (tgt := 547) cx ⟨by decide, by decide⟩ dL_law_532 (by decide) (fun c152 => ?_) (fun c152 => ?_)
          · exact absurd c152 (by omega)
          · refine q_ald_n cx dL_law_535 rfl (lv_at hl 6 rfl) ?_
            refine q_iconst cx dL_law_536 ?_
            refine q_lald (n := 1) cx hB hout kout (by decide) rfl rfl (by decide) (by decide) (by decide) rfl z137 dL_law_537 ?_
            refine lv_iload cx.1 cx.2.1 dL_law_538 (lv_at hl 0 rfl) ?_
            refine q_i2l cx ⟨by decide, by decide⟩ dL_law_540 ?_
            refine q_lcmp cx dL_law_541 (fun y153 ly153 uy153 ey153 gy153 hy153 => ?_)
            rw [q_lInt ⟨by decide, by decide⟩] at ey153 hy153
            refine q_ifeq (tgt := 547) cx ⟨by omega, by omega⟩ dL_law_542 (by decide) (fun c154 => ?_) (fun c154 => ?_)
            · refine lv_goto (tgt := 2394) cx.1 cx.2.1 dL_law_547 (by decide) ?_
              refine q_iinc (lv' := [(5, .int (q_i (0 + 6))), (7, .int (q_i 0)), (6, .int (q_i 0)), (0, .ref b), (1, .ref x), (2, .ref mo), (3, .ref out), (4, .ref outD)]) cx dL_law_2394 hl (k := 2) rfl (by decide) rfl (fun ls hl => ?_)
              refine lv_goto (tgt := 28) cx.1 cx.2.1 dL_law_2397 (by decide) ?_
              refine lv_iload cx.1 cx.2.1 dL_law_28 (lv_at hl 0 rfl) ?_
              refine q_ald_n cx dL_law_30 rfl (lv_at hl 3 rfl) ?_
              refine va_slen cx.1 cx.2.1 hXs hbl hbA hB.1.2.2.2 dL_law_31 ?_
              rw [show Int32.ofNat 6 = q_i 6 from by decide]
              refine q_bipush cx dL_law_32 rfl ?_
              refine q_isub cx dL_law_34 ?_
              refine q_icgt (tgt := 2400) cx ⟨by decide, by decide⟩ ⟨by decide, by decide⟩ dL_law_35 (by decide) (fun c155 => ?_) (fun c155 => ?_)
              · refine q_iconst cx dL_law_2400 ?_
                exact q_lawret C0 hB (by decide) (by decide) dL_law_2401
              · exact absurd c155 (by omega)
            · exact absurd c154 (by omega)
        · exact absurd c151 (by omega)
      · refine q_cVi (As := [.int (q_i x1)]) (rest := []) cx hB (fun q h => hLA q h) hN hmo kmo (by decide) rfl (p_setting1 l g hN hB.2.1 mo hmo kmo x1 (by omega) (by omega) bu hbu kbu sr hsr ksr sd hsd ksd as has kas aw haw kaw pa hpa kpa nm hnm knm snm hsnm ksnm anm hanm kanm z95 z96 z97 z98 z99 z100 z101 z102 z103 z104 z105 z106 z107 z108 z109 z110 z111 z112 z123 z124 z125 z126 z127 z128 z129 z130 z131) q_cL_148 q_dX12_setting (by decide) rfl rfl hl.1 rfl (Nat.le_of_ble_eq_true rfl) dL_law_514 (fun y157 H locs f156 ry157 h158 hF hB => ?_)
        obtain ⟨qy157, z159⟩ := h158
        have z160 : q_j f156 out 0 = (q_l 0) := (hF.j hout (by rw [kout]; rfl)).trans z94
        have z161 : q_r f156 x 0 = src := (hF.r hx (by rw [kx]; rfl)).trans z113
        have z162 : q_r f156 x 1 = rdr := (hF.r hx (by rw [kx]; rfl)).trans z114
        have z163 : q_r f156 x 2 = scr := (hF.r hx (by rw [kx]; rfl)).trans z115
        have z164 : q_r f156 x 3 = fc := (hF.r hx (by rw [kx]; rfl)).trans z116
        have z165 : q_r f156 x 4 = hist := (hF.r hx (by rw [kx]; rfl)).trans z117
        have z166 : q_r f156 x 5 = rep := (hF.r hx (by rw [kx]; rfl)).trans z118
        have z167 : q_r f156 x 6 = now := (hF.r hx (by rw [kx]; rfl)).trans z119
        have z168 : q_r f156 x 7 = dr := (hF.r hx (by rw [kx]; rfl)).trans z120
        have z169 : q_r f156 x 8 = sv := (hF.r hx (by rw [kx]; rfl)).trans z121
        have z170 : q_r f156 fc 0 = tr := (hF.r hfc (by rw [kfc]; rfl)).trans z122
        subst qy157
        refine lv_istore (lv' := [(7, .int (q_i 0)), (6, .int (q_i 0)), (5, .int (q_i 0)), (0, .ref b), (1, .ref x), (2, .ref mo), (3, .ref out), (4, .ref outD)]) cx.1 cx.2.1 dL_law_517 hl (by decide) rfl (fun ls hl => ?_)
        refine q_ald_n cx dL_law_519 rfl (lv_at hl 5 rfl) ?_
        refine q_cVi (As := []) (rest := []) cx hB (fun q h => hLA q h) hN hmo kmo (by decide) rfl (r_thrown l g hN hB.2.1 mo hmo kmo 0 (by decide) (by decide) z159) q_cL_124 q_dX12_thrown (by decide) rfl rfl hl.1 rfl (Nat.le_of_ble_eq_true rfl) dL_law_520 (fun y172 H locs f171 ry172 h173 hF hB => ?_)
        obtain ⟨rfl, qy172⟩ := h173
        subst qy172
        refine lv_iload cx.1 cx.2.1 dL_law_523 (lv_at hl 1 rfl) ?_
        refine q_iceq (tgt := 530) cx ⟨by decide, by decide⟩ ⟨by decide, by decide⟩ dL_law_525 (by decide) (fun c174 => ?_) (fun c174 => ?_)
        · refine lv_iload cx.1 cx.2.1 dL_law_530 (lv_at hl 1 rfl) ?_
          refine q_ifne (tgt := 547) cx ⟨by decide, by decide⟩ dL_law_532 (by decide) (fun c175 => ?_) (fun c175 => ?_)
          · exact absurd c175 (by omega)
          · refine q_ald_n cx dL_law_535 rfl (lv_at hl 6 rfl) ?_
            refine q_iconst cx dL_law_536 ?_
            refine q_lald (n := 1) cx hB hout kout (by decide) rfl rfl (by decide) (by decide) (by decide) rfl z160 dL_law_537 ?_
            refine lv_iload cx.1 cx.2.1 dL_law_538 (lv_at hl 0 rfl) ?_
            refine q_i2l cx ⟨by decide, by decide⟩ dL_law_540 ?_
            refine q_lcmp cx dL_law_541 (fun y176 ly176 uy176 ey176 gy176 hy176 => ?_)
            rw [q_lInt ⟨by decide, by decide⟩] at ey176 hy176
            refine q_ifeq (tgt := 547) cx ⟨by omega, by omega⟩ dL_law_542 (by decide) (fun c177 => ?_) (fun c177 => ?_)
            · refine lv_goto (tgt := 2394) cx.1 cx.2.1 dL_law_547 (by decide) ?_
              refine q_iinc (lv' := [(5, .int (q_i (0 + 6))), (7, .int (q_i 0)), (6, .int (q_i 0)), (0, .ref b), (1, .ref x), (2, .ref mo), (3, .ref out), (4, .ref outD)]) cx dL_law_2394 hl (k := 2) rfl (by decide) rfl (fun ls hl => ?_)
              refine lv_goto (tgt := 28) cx.1 cx.2.1 dL_law_2397 (by decide) ?_
              refine lv_iload cx.1 cx.2.1 dL_law_28 (lv_at hl 0 rfl) ?_
              refine q_ald_n cx dL_law_30 rfl (lv_at hl 3 rfl) ?_
              refine va_slen cx.1 cx.2.1 hXs hbl hbA hB.1.2.2.2 dL_law_31 ?_
              rw [show Int32.ofNat 6 = q_i 6 from by decide]
              refine q_bipush cx dL_law_32 rfl ?_
              refine q_isub cx dL_law_34 ?_
              refine q_icgt (tgt := 2400) cx ⟨by decide, by decide⟩ ⟨by decide, by decide⟩ dL_law_35 (by decide) (fun c178 => ?_) (fun c178 => ?_)
              · refine q_iconst cx dL_law_2400 ?_
                exact q_lawret C0 hB (by decide) (by decide) dL_law_2401
              · exact absurd c178 (by omega)
            · exact absurd c177 (by omega)
        · exact absurd c174 (by omega)
    · by_cases c179 : x1 ≤ 2
      · refine q_cWS (As := [.ref x, .int (q_i x1), .ref out]) (rest := []) cx hX hB (fun q h => hLA q h) (fun q h1 h2 => absurd h1 (Nat.not_le_of_lt h2)) hN (w_settingc l g hN hB.2.1 hfl x hx kx x1 (by omega) (by omega) out hout kout src hsrc ksrc rdr hrdr krdr scr hscr kscr fc hfc kfc hist hhist khist rep hrep krep now hnow know dr hdr kdr sv hsv ksv tr htr ktr hf0 hf1 hf2 hf3 hf4 hf5 hf6 hf7 hf8 hf9 hf10 hf11 hf12 hf13 hr0 hr1 hr2 hr3 hr4 hr5 hr6 hr7 hr8 hr9) q_cL_146 q_dL_setting (by decide) rfl rfl hl.1 rfl (Nat.le_of_ble_eq_true rfl) dL_law_502 (fun v9 H locs f180 h182 hF hB => ?_)
        obtain ⟨y181, rfl, ry181, h182⟩ := h182
        refine W.eq (g2 := F0 m 505 ls [.int (q_i y181)]) rfl ?_
        obtain ⟨qy181, z183⟩ := h182
        have z184 : q_z f180 mo 2 = 0 := (hF.z hmo (by rw [kmo]; rfl)).trans hf14
        have z185 : q_z f180 mo 8 = 0 := (hF.z hmo (by rw [kmo]; rfl)).trans hf15
        have z186 : q_z f180 mo 9 = (-1) := (hF.z hmo (by rw [kmo]; rfl)).trans hf16
        have z187 : q_z f180 mo 10 = 0 := (hF.z hmo (by rw [kmo]; rfl)).trans hf17
        have z188 : q_z f180 mo 11 = (-1) := (hF.z hmo (by rw [kmo]; rfl)).trans hf18
        have z189 : q_z f180 mo 21 = 0 := (hF.z hmo (by rw [kmo]; rfl)).trans hf19
        have z190 : q_z f180 mo 22 = 0 := (hF.z hmo (by rw [kmo]; rfl)).trans hf20
        have z191 : q_z f180 mo 40 = 0 := (hF.z hmo (by rw [kmo]; rfl)).trans hf21
        have z192 : q_z f180 sr 0 = 0 := (hF.z hsr (by rw [ksr]; rfl)).trans hf22
        have z193 : q_z f180 sr 1 = 0 := (hF.z hsr (by rw [ksr]; rfl)).trans hf23
        have z194 : q_z f180 sr 2 = 12 := (hF.z hsr (by rw [ksr]; rfl)).trans hf24
        have z195 : q_z f180 sr 3 = 0 := (hF.z hsr (by rw [ksr]; rfl)).trans hf25
        have z196 : q_z f180 sr 4 = 0 := (hF.z hsr (by rw [ksr]; rfl)).trans hf26
        have z197 : q_z f180 sr 5 = 1 := (hF.z hsr (by rw [ksr]; rfl)).trans hf27
        have z198 : q_z f180 sr 6 = 2 := (hF.z hsr (by rw [ksr]; rfl)).trans hf28
        have z199 : q_z f180 sr 7 = 5 := (hF.z hsr (by rw [ksr]; rfl)).trans hf29
        have z200 : q_z f180 sr 8 = 3 := (hF.z hsr (by rw [ksr]; rfl)).trans hf30
        have z201 : q_z f180 sr 9 = 0 := (hF.z hsr (by rw [ksr]; rfl)).trans hf31
        have z202 : q_r f180 x 0 = src := (hF.r hx (by rw [kx]; rfl)).trans hr0
        have z203 : q_r f180 x 1 = rdr := (hF.r hx (by rw [kx]; rfl)).trans hr1
        have z204 : q_r f180 x 2 = scr := (hF.r hx (by rw [kx]; rfl)).trans hr2
        have z205 : q_r f180 x 3 = fc := (hF.r hx (by rw [kx]; rfl)).trans hr3
        have z206 : q_r f180 x 4 = hist := (hF.r hx (by rw [kx]; rfl)).trans hr4
        have z207 : q_r f180 x 5 = rep := (hF.r hx (by rw [kx]; rfl)).trans hr5
        have z208 : q_r f180 x 6 = now := (hF.r hx (by rw [kx]; rfl)).trans hr6
        have z209 : q_r f180 x 7 = dr := (hF.r hx (by rw [kx]; rfl)).trans hr7
        have z210 : q_r f180 x 8 = sv := (hF.r hx (by rw [kx]; rfl)).trans hr8
        have z211 : q_r f180 fc 0 = tr := (hF.r hfc (by rw [kfc]; rfl)).trans hr9
        have z212 : q_r f180 mo 1 = bu := (hF.r hmo (by rw [kmo]; rfl)).trans hr10
        have z213 : q_r f180 mo 13 = sr := (hF.r hmo (by rw [kmo]; rfl)).trans hr11
        have z214 : q_r f180 mo 14 = sd := (hF.r hmo (by rw [kmo]; rfl)).trans hr12
        have z215 : q_r f180 mo 15 = as := (hF.r hmo (by rw [kmo]; rfl)).trans hr13
        have z216 : q_r f180 mo 16 = aw := (hF.r hmo (by rw [kmo]; rfl)).trans hr14
        have z217 : q_r f180 mo 17 = pa := (hF.r hmo (by rw [kmo]; rfl)).trans hr15
        have z218 : q_r f180 mo 18 = nm := (hF.r hmo (by rw [kmo]; rfl)).trans hr16
        have z219 : q_r f180 mo 19 = snm := (hF.r hmo (by rw [kmo]; rfl)).trans hr17
        have z220 : q_r f180 mo 20 = anm := (hF.r hmo (by rw [kmo]; rfl)).trans hr18
        subst qy181
        refine lv_istore (lv' := [(6, .int (q_i 0)), (5, .int (q_i 0)), (0, .ref b), (1, .ref x), (2, .ref mo), (3, .ref out), (4, .ref outD)]) cx.1 cx.2.1 dL_law_505 hl (by decide) rfl (fun ls hl => ?_)
        refine q_ald_n cx dL_law_507 rfl (lv_at hl 4 rfl) ?_
        refine q_ald_n cx dL_law_508 rfl (lv_at hl 2 rfl) ?_
        refine lv_iload cx.1 cx.2.1 dL_law_509 (lv_at hl 1 rfl) ?_
        refine q_iconst cx dL_law_511 ?_
        refine q_iadd cx dL_law_512 ?_
        refine va_sld cx.1 cx.2.1 hXs hbl hbA hB.1.2.2.2 (q_in (by decide) (by decide) (by decide)) dL_law_513 ?_
        rw [show (q_i (0 + 1)).toNatClampNeg = 1 from by decide, ex1]
        refine q_cVi (As := [.int (q_i x1)]) (rest := []) cx hB (fun q h => hLA q h) hN hmo kmo (by decide) rfl (p_setting2 l g hN hB.2.1 mo hmo kmo x1 (by omega) (by omega) bu hbu kbu sr hsr ksr sd hsd ksd as has kas aw haw kaw pa hpa kpa nm hnm knm snm hsnm ksnm anm hanm kanm z184 z185 z186 z187 z188 z189 z190 z191 z192 z193 z194 z195 z196 z197 z198 z199 z200 z201 z212 z213 z214 z215 z216 z217 z218 z219 z220) q_cL_148 q_dX12_setting (by decide) rfl rfl hl.1 rfl (Nat.le_of_ble_eq_true rfl) dL_law_514 (fun y222 H locs f221 ry222 h223 hF hB => ?_)
        obtain ⟨qy222, z224⟩ := h223
        have z225 : q_j f221 out 0 = (q_l 12) := (hF.j hout (by rw [kout]; rfl)).trans z183
        have z226 : q_r f221 x 0 = src := (hF.r hx (by rw [kx]; rfl)).trans z202
        have z227 : q_r f221 x 1 = rdr := (hF.r hx (by rw [kx]; rfl)).trans z203
        have z228 : q_r f221 x 2 = scr := (hF.r hx (by rw [kx]; rfl)).trans z204
        have z229 : q_r f221 x 3 = fc := (hF.r hx (by rw [kx]; rfl)).trans z205
        have z230 : q_r f221 x 4 = hist := (hF.r hx (by rw [kx]; rfl)).trans z206
        have z231 : q_r f221 x 5 = rep := (hF.r hx (by rw [kx]; rfl)).trans z207
        have z232 : q_r f221 x 6 = now := (hF.r hx (by rw [kx]; rfl)).trans z208
        have z233 : q_r f221 x 7 = dr := (hF.r hx (by rw [kx]; rfl)).trans z209
        have z234 : q_r f221 x 8 = sv := (hF.r hx (by rw [kx]; rfl)).trans z210
        have z235 : q_r f221 fc 0 = tr := (hF.r hfc (by rw [kfc]; rfl)).trans z211
        subst qy222
        refine lv_istore (lv' := [(7, .int (q_i 12)), (6, .int (q_i 0)), (5, .int (q_i 0)), (0, .ref b), (1, .ref x), (2, .ref mo), (3, .ref out), (4, .ref outD)]) cx.1 cx.2.1 dL_law_517 hl (by decide) rfl (fun ls hl => ?_)
        refine q_ald_n cx dL_law_519 rfl (lv_at hl 5 rfl) ?_
        refine q_cVi (As := []) (rest := []) cx hB (fun q h => hLA q h) hN hmo kmo (by decide) rfl (r_thrown l g hN hB.2.1 mo hmo kmo 0 (by decide) (by decide) z224) q_cL_124 q_dX12_thrown (by decide) rfl rfl hl.1 rfl (Nat.le_of_ble_eq_true rfl) dL_law_520 (fun y237 H locs f236 ry237 h238 hF hB => ?_)
        obtain ⟨rfl, qy237⟩ := h238
        subst qy237
        refine lv_iload cx.1 cx.2.1 dL_law_523 (lv_at hl 1 rfl) ?_
        refine q_iceq (tgt := 530) cx ⟨by decide, by decide⟩ ⟨by decide, by decide⟩ dL_law_525 (by decide) (fun c239 => ?_) (fun c239 => ?_)
        · refine lv_iload cx.1 cx.2.1 dL_law_530 (lv_at hl 1 rfl) ?_
          refine q_ifne (tgt := 547) cx ⟨by decide, by decide⟩ dL_law_532 (by decide) (fun c240 => ?_) (fun c240 => ?_)
          · exact absurd c240 (by omega)
          · refine q_ald_n cx dL_law_535 rfl (lv_at hl 6 rfl) ?_
            refine q_iconst cx dL_law_536 ?_
            refine q_lald (n := 1) cx hB hout kout (by decide) rfl rfl (by decide) (by decide) (by decide) rfl z225 dL_law_537 ?_
            refine lv_iload cx.1 cx.2.1 dL_law_538 (lv_at hl 0 rfl) ?_
            refine q_i2l cx ⟨by decide, by decide⟩ dL_law_540 ?_
            refine q_lcmp cx dL_law_541 (fun y241 ly241 uy241 ey241 gy241 hy241 => ?_)
            rw [q_lInt ⟨by decide, by decide⟩] at ey241 hy241
            refine q_ifeq (tgt := 547) cx ⟨by omega, by omega⟩ dL_law_542 (by decide) (fun c242 => ?_) (fun c242 => ?_)
            · refine lv_goto (tgt := 2394) cx.1 cx.2.1 dL_law_547 (by decide) ?_
              refine q_iinc (lv' := [(5, .int (q_i (0 + 6))), (7, .int (q_i 12)), (6, .int (q_i 0)), (0, .ref b), (1, .ref x), (2, .ref mo), (3, .ref out), (4, .ref outD)]) cx dL_law_2394 hl (k := 2) rfl (by decide) rfl (fun ls hl => ?_)
              refine lv_goto (tgt := 28) cx.1 cx.2.1 dL_law_2397 (by decide) ?_
              refine lv_iload cx.1 cx.2.1 dL_law_28 (lv_at hl 0 rfl) ?_
              refine q_ald_n cx dL_law_30 rfl (lv_at hl 3 rfl) ?_
              refine va_slen cx.1 cx.2.1 hXs hbl hbA hB.1.2.2.2 dL_law_31 ?_
              rw [show Int32.ofNat 6 = q_i 6 from by decide]
              refine q_bipush cx dL_law_32 rfl ?_
              refine q_isub cx dL_law_34 ?_
              refine q_icgt (tgt := 2400) cx ⟨by decide, by decide⟩ ⟨by decide, by decide⟩ dL_law_35 (by decide) (fun c243 => ?_) (fun c243 => ?_)
              · refine q_iconst cx dL_law_2400 ?_
                exact q_lawret C0 hB (by decide) (by decide) dL_law_2401
              · exact absurd c243 (by omega)
            · exact absurd c242 (by omega)
        · exact absurd c239 (by omega)
      · by_cases c244 : x1 ≤ 9
        · refine q_cWS (As := [.ref x, .int (q_i x1), .ref out]) (rest := []) cx hX hB (fun q h => hLA q h) (fun q h1 h2 => absurd h1 (Nat.not_le_of_lt h2)) hN (w_settingd l g hN hB.2.1 hfl x hx kx x1 (by omega) (by omega) out hout kout src hsrc ksrc rdr hrdr krdr scr hscr kscr fc hfc kfc hist hhist khist rep hrep krep now hnow know dr hdr kdr sv hsv ksv tr htr ktr hf0 hf1 hf2 hf3 hf4 hf5 hf6 hf7 hf8 hf9 hf10 hf11 hf12 hf13 hr0 hr1 hr2 hr3 hr4 hr5 hr6 hr7 hr8 hr9) q_cL_146 q_dL_setting (by decide) rfl rfl hl.1 rfl (Nat.le_of_ble_eq_true rfl) dL_law_502 (fun v9 H locs f245 h247 hF hB => ?_)
          obtain ⟨y246, rfl, ry246, h247⟩ := h247
          refine W.eq (g2 := F0 m 505 ls [.int (q_i y246)]) rfl ?_
          obtain ⟨qy246, z248⟩ := h247
          have z249 : q_z f245 mo 2 = 0 := (hF.z hmo (by rw [kmo]; rfl)).trans hf14
          have z250 : q_z f245 mo 8 = 0 := (hF.z hmo (by rw [kmo]; rfl)).trans hf15
          have z251 : q_z f245 mo 9 = (-1) := (hF.z hmo (by rw [kmo]; rfl)).trans hf16
          have z252 : q_z f245 mo 10 = 0 := (hF.z hmo (by rw [kmo]; rfl)).trans hf17
          have z253 : q_z f245 mo 11 = (-1) := (hF.z hmo (by rw [kmo]; rfl)).trans hf18
          have z254 : q_z f245 mo 21 = 0 := (hF.z hmo (by rw [kmo]; rfl)).trans hf19
          have z255 : q_z f245 mo 22 = 0 := (hF.z hmo (by rw [kmo]; rfl)).trans hf20
          have z256 : q_z f245 mo 40 = 0 := (hF.z hmo (by rw [kmo]; rfl)).trans hf21
          have z257 : q_z f245 sr 0 = 0 := (hF.z hsr (by rw [ksr]; rfl)).trans hf22
          have z258 : q_z f245 sr 1 = 0 := (hF.z hsr (by rw [ksr]; rfl)).trans hf23
          have z259 : q_z f245 sr 2 = 12 := (hF.z hsr (by rw [ksr]; rfl)).trans hf24
          have z260 : q_z f245 sr 3 = 0 := (hF.z hsr (by rw [ksr]; rfl)).trans hf25
          have z261 : q_z f245 sr 4 = 0 := (hF.z hsr (by rw [ksr]; rfl)).trans hf26
          have z262 : q_z f245 sr 5 = 1 := (hF.z hsr (by rw [ksr]; rfl)).trans hf27
          have z263 : q_z f245 sr 6 = 2 := (hF.z hsr (by rw [ksr]; rfl)).trans hf28
          have z264 : q_z f245 sr 7 = 5 := (hF.z hsr (by rw [ksr]; rfl)).trans hf29
          have z265 : q_z f245 sr 8 = 3 := (hF.z hsr (by rw [ksr]; rfl)).trans hf30
          have z266 : q_z f245 sr 9 = 0 := (hF.z hsr (by rw [ksr]; rfl)).trans hf31
          have z267 : q_r f245 x 0 = src := (hF.r hx (by rw [kx]; rfl)).trans hr0
          have z268 : q_r f245 x 1 = rdr := (hF.r hx (by rw [kx]; rfl)).trans hr1
          have z269 : q_r f245 x 2 = scr := (hF.r hx (by rw [kx]; rfl)).trans hr2
          have z270 : q_r f245 x 3 = fc := (hF.r hx (by rw [kx]; rfl)).trans hr3
          have z271 : q_r f245 x 4 = hist := (hF.r hx (by rw [kx]; rfl)).trans hr4
          have z272 : q_r f245 x 5 = rep := (hF.r hx (by rw [kx]; rfl)).trans hr5
          have z273 : q_r f245 x 6 = now := (hF.r hx (by rw [kx]; rfl)).trans hr6
          have z274 : q_r f245 x 7 = dr := (hF.r hx (by rw [kx]; rfl)).trans hr7
          have z275 : q_r f245 x 8 = sv := (hF.r hx (by rw [kx]; rfl)).trans hr8
          have z276 : q_r f245 fc 0 = tr := (hF.r hfc (by rw [kfc]; rfl)).trans hr9
          have z277 : q_r f245 mo 1 = bu := (hF.r hmo (by rw [kmo]; rfl)).trans hr10
          have z278 : q_r f245 mo 13 = sr := (hF.r hmo (by rw [kmo]; rfl)).trans hr11
          have z279 : q_r f245 mo 14 = sd := (hF.r hmo (by rw [kmo]; rfl)).trans hr12
          have z280 : q_r f245 mo 15 = as := (hF.r hmo (by rw [kmo]; rfl)).trans hr13
          have z281 : q_r f245 mo 16 = aw := (hF.r hmo (by rw [kmo]; rfl)).trans hr14
          have z282 : q_r f245 mo 17 = pa := (hF.r hmo (by rw [kmo]; rfl)).trans hr15
          have z283 : q_r f245 mo 18 = nm := (hF.r hmo (by rw [kmo]; rfl)).trans hr16
          have z284 : q_r f245 mo 19 = snm := (hF.r hmo (by rw [kmo]; rfl)).trans hr17
          have z285 : q_r f245 mo 20 = anm := (hF.r hmo (by rw [kmo]; rfl)).trans hr18
          subst qy246
          refine lv_istore (lv' := [(6, .int (q_i 0)), (5, .int (q_i 0)), (0, .ref b), (1, .ref x), (2, .ref mo), (3, .ref out), (4, .ref outD)]) cx.1 cx.2.1 dL_law_505 hl (by decide) rfl (fun ls hl => ?_)
          refine q_ald_n cx dL_law_507 rfl (lv_at hl 4 rfl) ?_
          refine q_ald_n cx dL_law_508 rfl (lv_at hl 2 rfl) ?_
          refine lv_iload cx.1 cx.2.1 dL_law_509 (lv_at hl 1 rfl) ?_
          refine q_iconst cx dL_law_511 ?_
          refine q_iadd cx dL_law_512 ?_
          refine va_sld cx.1 cx.2.1 hXs hbl hbA hB.1.2.2.2 (q_in (by decide) (by decide) (by decide)) dL_law_513 ?_
          rw [show (q_i (0 + 1)).toNatClampNeg = 1 from by decide, ex1]
          by_cases c286 : x1 ≤ 3
          · refine q_cVi (As := [.int (q_i x1)]) (rest := []) cx hB (fun q h => hLA q h) hN hmo kmo (by decide) rfl (p_setting3 l g hN hB.2.1 mo hmo kmo x1 (by omega) (by omega) bu hbu kbu sr hsr ksr sd hsd ksd as has kas aw haw kaw pa hpa kpa nm hnm knm snm hsnm ksnm anm hanm kanm z249 z250 z251 z252 z253 z254 z255 z256 z257 z258 z259 z260 z261 z262 z263 z264 z265 z266 z277 z278 z279 z280 z281 z282 z283 z284 z285) q_cL_148 q_dX12_setting (by decide) rfl rfl hl.1 rfl (Nat.le_of_ble_eq_true rfl) dL_law_514 (fun y288 H locs f287 ry288 h289 hF hB => ?_)
            obtain ⟨qy288, z290⟩ := h289
            have z291 : q_j f287 out 0 = (q_l 0) := (hF.j hout (by rw [kout]; rfl)).trans z248
            have z292 : q_r f287 x 0 = src := (hF.r hx (by rw [kx]; rfl)).trans z267
            have z293 : q_r f287 x 1 = rdr := (hF.r hx (by rw [kx]; rfl)).trans z268
            have z294 : q_r f287 x 2 = scr := (hF.r hx (by rw [kx]; rfl)).trans z269
            have z295 : q_r f287 x 3 = fc := (hF.r hx (by rw [kx]; rfl)).trans z270
            have z296 : q_r f287 x 4 = hist := (hF.r hx (by rw [kx]; rfl)).trans z271
            have z297 : q_r f287 x 5 = rep := (hF.r hx (by rw [kx]; rfl)).trans z272
            have z298 : q_r f287 x 6 = now := (hF.r hx (by rw [kx]; rfl)).trans z273
            have z299 : q_r f287 x 7 = dr := (hF.r hx (by rw [kx]; rfl)).trans z274
            have z300 : q_r f287 x 8 = sv := (hF.r hx (by rw [kx]; rfl)).trans z275
            have z301 : q_r f287 fc 0 = tr := (hF.r hfc (by rw [kfc]; rfl)).trans z276
            subst qy288
            refine lv_istore (lv' := [(7, .int (q_i 0)), (6, .int (q_i 0)), (5, .int (q_i 0)), (0, .ref b), (1, .ref x), (2, .ref mo), (3, .ref out), (4, .ref outD)]) cx.1 cx.2.1 dL_law_517 hl (by decide) rfl (fun ls hl => ?_)
            refine q_ald_n cx dL_law_519 rfl (lv_at hl 5 rfl) ?_
            refine q_cVi (As := []) (rest := []) cx hB (fun q h => hLA q h) hN hmo kmo (by decide) rfl (r_thrown l g hN hB.2.1 mo hmo kmo 0 (by decide) (by decide) z290) q_cL_124 q_dX12_thrown (by decide) rfl rfl hl.1 rfl (Nat.le_of_ble_eq_true rfl) dL_law_520 (fun y303 H locs f302 ry303 h304 hF hB => ?_)
            obtain ⟨rfl, qy303⟩ := h304
            subst qy303
            refine lv_iload cx.1 cx.2.1 dL_law_523 (lv_at hl 1 rfl) ?_
            refine q_iceq (tgt := 530) cx ⟨by decide, by decide⟩ ⟨by decide, by decide⟩ dL_law_525 (by decide) (fun c305 => ?_) (fun c305 => ?_)
            · refine lv_iload cx.1 cx.2.1 dL_law_530 (lv_at hl 1 rfl) ?_
              refine q_ifne (tgt := 547) cx ⟨by decide, by decide⟩ dL_law_532 (by decide) (fun c306 => ?_) (fun c306 => ?_)
              · exact absurd c306 (by omega)
              · refine q_ald_n cx dL_law_535 rfl (lv_at hl 6 rfl) ?_
                refine q_iconst cx dL_law_536 ?_
                refine q_lald (n := 1) cx hB hout kout (by decide) rfl rfl (by decide) (by decide) (by decide) rfl z291 dL_law_537 ?_
                refine lv_iload cx.1 cx.2.1 dL_law_538 (lv_at hl 0 rfl) ?_
                refine q_i2l cx ⟨by decide, by decide⟩ dL_law_540 ?_
                refine q_lcmp cx dL_law_541 (fun y307 ly307 uy307 ey307 gy307 hy307 => ?_)
                rw [q_lInt ⟨by decide, by decide⟩] at ey307 hy307
                refine q_ifeq (tgt := 547) cx ⟨by omega, by omega⟩ dL_law_542 (by decide) (fun c308 => ?_) (fun c308 => ?_)
                · refine lv_goto (tgt := 2394) cx.1 cx.2.1 dL_law_547 (by decide) ?_
                  refine q_iinc (lv' := [(5, .int (q_i (0 + 6))), (7, .int (q_i 0)), (6, .int (q_i 0)), (0, .ref b), (1, .ref x), (2, .ref mo), (3, .ref out), (4, .ref outD)]) cx dL_law_2394 hl (k := 2) rfl (by decide) rfl (fun ls hl => ?_)
                  refine lv_goto (tgt := 28) cx.1 cx.2.1 dL_law_2397 (by decide) ?_
                  refine lv_iload cx.1 cx.2.1 dL_law_28 (lv_at hl 0 rfl) ?_
                  refine q_ald_n cx dL_law_30 rfl (lv_at hl 3 rfl) ?_
                  refine va_slen cx.1 cx.2.1 hXs hbl hbA hB.1.2.2.2 dL_law_31 ?_
                  rw [show Int32.ofNat 6 = q_i 6 from by decide]
                  refine q_bipush cx dL_law_32 rfl ?_
                  refine q_isub cx dL_law_34 ?_
                  refine q_icgt (tgt := 2400) cx ⟨by decide, by decide⟩ ⟨by decide, by decide⟩ dL_law_35 (by decide) (fun c309 => ?_) (fun c309 => ?_)
                  · refine q_iconst cx dL_law_2400 ?_
                    exact q_lawret C0 hB (by decide) (by decide) dL_law_2401
                  · exact absurd c309 (by omega)
                · exact absurd c308 (by omega)
            · exact absurd c305 (by omega)
          · by_cases c310 : x1 ≤ 4
            · refine q_cVi (As := [.int (q_i x1)]) (rest := []) cx hB (fun q h => hLA q h) hN hmo kmo (by decide) rfl (p_setting4 l g hN hB.2.1 mo hmo kmo x1 (by omega) (by omega) bu hbu kbu sr hsr ksr sd hsd ksd as has kas aw haw kaw pa hpa kpa nm hnm knm snm hsnm ksnm anm hanm kanm z249 z250 z251 z252 z253 z254 z255 z256 z257 z258 z259 z260 z261 z262 z263 z264 z265 z266 z277 z278 z279 z280 z281 z282 z283 z284 z285) q_cL_148 q_dX12_setting (by decide) rfl rfl hl.1 rfl (Nat.le_of_ble_eq_true rfl) dL_law_514 (fun y312 H locs f311 ry312 h313 hF hB => ?_)
              obtain ⟨qy312, z314⟩ := h313
              have z315 : q_j f311 out 0 = (q_l 0) := (hF.j hout (by rw [kout]; rfl)).trans z248
              have z316 : q_r f311 x 0 = src := (hF.r hx (by rw [kx]; rfl)).trans z267
              have z317 : q_r f311 x 1 = rdr := (hF.r hx (by rw [kx]; rfl)).trans z268
              have z318 : q_r f311 x 2 = scr := (hF.r hx (by rw [kx]; rfl)).trans z269
              have z319 : q_r f311 x 3 = fc := (hF.r hx (by rw [kx]; rfl)).trans z270
              have z320 : q_r f311 x 4 = hist := (hF.r hx (by rw [kx]; rfl)).trans z271
              have z321 : q_r f311 x 5 = rep := (hF.r hx (by rw [kx]; rfl)).trans z272
              have z322 : q_r f311 x 6 = now := (hF.r hx (by rw [kx]; rfl)).trans z273
              have z323 : q_r f311 x 7 = dr := (hF.r hx (by rw [kx]; rfl)).trans z274
              have z324 : q_r f311 x 8 = sv := (hF.r hx (by rw [kx]; rfl)).trans z275
              have z325 : q_r f311 fc 0 = tr := (hF.r hfc (by rw [kfc]; rfl)).trans z276
              subst qy312
              refine lv_istore (lv' := [(7, .int (q_i 0)), (6, .int (q_i 0)), (5, .int (q_i 0)), (0, .ref b), (1, .ref x), (2, .ref mo), (3, .ref out), (4, .ref outD)]) cx.1 cx.2.1 dL_law_517 hl (by decide) rfl (fun ls hl => ?_)
              refine q_ald_n cx dL_law_519 rfl (lv_at hl 5 rfl) ?_
              refine q_cVi (As := []) (rest := []) cx hB (fun q h => hLA q h) hN hmo kmo (by decide) rfl (r_thrown l g hN hB.2.1 mo hmo kmo 0 (by decide) (by decide) z314) q_cL_124 q_dX12_thrown (by decide) rfl rfl hl.1 rfl (Nat.le_of_ble_eq_true rfl) dL_law_520 (fun y327 H locs f326 ry327 h328 hF hB => ?_)
              obtain ⟨rfl, qy327⟩ := h328
              subst qy327
              refine lv_iload cx.1 cx.2.1 dL_law_523 (lv_at hl 1 rfl) ?_
              refine q_iceq (tgt := 530) cx ⟨by decide, by decide⟩ ⟨by decide, by decide⟩ dL_law_525 (by decide) (fun c329 => ?_) (fun c329 => ?_)
              · refine lv_iload cx.1 cx.2.1 dL_law_530 (lv_at hl 1 rfl) ?_
                refine q_ifne (tgt := 547) cx ⟨by decide, by decide⟩ dL_law_532 (by decide) (fun c330 => ?_) (fun c330 => ?_)
                · exact absurd c330 (by omega)
                · refine q_ald_n cx dL_law_535 rfl (lv_at hl 6 rfl) ?_
                  refine q_iconst cx dL_law_536 ?_
                  refine q_lald (n := 1) cx hB hout kout (by decide) rfl rfl (by decide) (by decide) (by decide) rfl z315 dL_law_537 ?_
                  refine lv_iload cx.1 cx.2.1 dL_law_538 (lv_at hl 0 rfl) ?_
                  refine q_i2l cx ⟨by decide, by decide⟩ dL_law_540 ?_
                  refine q_lcmp cx dL_law_541 (fun y331 ly331 uy331 ey331 gy331 hy331 => ?_)
                  rw [q_lInt ⟨by decide, by decide⟩] at ey331 hy331
                  refine q_ifeq (tgt := 547) cx ⟨by omega, by omega⟩ dL_law_542 (by decide) (fun c332 => ?_) (fun c332 => ?_)
                  · refine lv_goto (tgt := 2394) cx.1 cx.2.1 dL_law_547 (by decide) ?_
                    refine q_iinc (lv' := [(5, .int (q_i (0 + 6))), (7, .int (q_i 0)), (6, .int (q_i 0)), (0, .ref b), (1, .ref x), (2, .ref mo), (3, .ref out), (4, .ref outD)]) cx dL_law_2394 hl (k := 2) rfl (by decide) rfl (fun ls hl => ?_)
                    refine lv_goto (tgt := 28) cx.1 cx.2.1 dL_law_2397 (by decide) ?_
                    refine lv_iload cx.1 cx.2.1 dL_law_28 (lv_at hl 0 rfl) ?_
                    refine q_ald_n cx dL_law_30 rfl (lv_at hl 3 rfl) ?_
                    refine va_slen cx.1 cx.2.1 hXs hbl hbA hB.1.2.2.2 dL_law_31 ?_
                    rw [show Int32.ofNat 6 = q_i 6 from by decide]
                    refine q_bipush cx dL_law_32 rfl ?_
                    refine q_isub cx dL_law_34 ?_
                    refine q_icgt (tgt := 2400) cx ⟨by decide, by decide⟩ ⟨by decide, by decide⟩ dL_law_35 (by decide) (fun c333 => ?_) (fun c333 => ?_)
                    · refine q_iconst cx dL_law_2400 ?_
                      exact q_lawret C0 hB (by decide) (by decide) dL_law_2401
                    · exact absurd c333 (by omega)
                  · exact absurd c332 (by omega)
              · exact absurd c329 (by omega)
            · by_cases c334 : x1 ≤ 5
              · refine q_cVi (As := [.int (q_i x1)]) (rest := []) cx hB (fun q h => hLA q h) hN hmo kmo (by decide) rfl (p_setting5 l g hN hB.2.1 mo hmo kmo x1 (by omega) (by omega) bu hbu kbu sr hsr ksr sd hsd ksd as has kas aw haw kaw pa hpa kpa nm hnm knm snm hsnm ksnm anm hanm kanm z249 z250 z251 z252 z253 z254 z255 z256 z257 z258 z259 z260 z261 z262 z263 z264 z265 z266 z277 z278 z279 z280 z281 z282 z283 z284 z285) q_cL_148 q_dX12_setting (by decide) rfl rfl hl.1 rfl (Nat.le_of_ble_eq_true rfl) dL_law_514 (fun y336 H locs f335 ry336 h337 hF hB => ?_)
                obtain ⟨qy336, z338⟩ := h337
                have z339 : q_j f335 out 0 = (q_l 0) := (hF.j hout (by rw [kout]; rfl)).trans z248
                have z340 : q_r f335 x 0 = src := (hF.r hx (by rw [kx]; rfl)).trans z267
                have z341 : q_r f335 x 1 = rdr := (hF.r hx (by rw [kx]; rfl)).trans z268
                have z342 : q_r f335 x 2 = scr := (hF.r hx (by rw [kx]; rfl)).trans z269
                have z343 : q_r f335 x 3 = fc := (hF.r hx (by rw [kx]; rfl)).trans z270
                have z344 : q_r f335 x 4 = hist := (hF.r hx (by rw [kx]; rfl)).trans z271
                have z345 : q_r f335 x 5 = rep := (hF.r hx (by rw [kx]; rfl)).trans z272
                have z346 : q_r f335 x 6 = now := (hF.r hx (by rw [kx]; rfl)).trans z273
                have z347 : q_r f335 x 7 = dr := (hF.r hx (by rw [kx]; rfl)).trans z274
                have z348 : q_r f335 x 8 = sv := (hF.r hx (by rw [kx]; rfl)).trans z275
                have z349 : q_r f335 fc 0 = tr := (hF.r hfc (by rw [kfc]; rfl)).trans z276
                subst qy336
                refine lv_istore (lv' := [(7, .int (q_i 0)), (6, .int (q_i 0)), (5, .int (q_i 0)), (0, .ref b), (1, .ref x), (2, .ref mo), (3, .ref out), (4, .ref outD)]) cx.1 cx.2.1 dL_law_517 hl (by decide) rfl (fun ls hl => ?_)
                refine q_ald_n cx dL_law_519 rfl (lv_at hl 5 rfl) ?_
                refine q_cVi (As := []) (rest := []) cx hB (fun q h => hLA q h) hN hmo kmo (by decide) rfl (r_thrown l g hN hB.2.1 mo hmo kmo 0 (by decide) (by decide) z338) q_cL_124 q_dX12_thrown (by decide) rfl rfl hl.1 rfl (Nat.le_of_ble_eq_true rfl) dL_law_520 (fun y351 H locs f350 ry351 h352 hF hB => ?_)
                obtain ⟨rfl, qy351⟩ := h352
                subst qy351
                refine lv_iload cx.1 cx.2.1 dL_law_523 (lv_at hl 1 rfl) ?_
                refine q_iceq (tgt := 530) cx ⟨by decide, by decide⟩ ⟨by decide, by decide⟩ dL_law_525 (by decide) (fun c353 => ?_) (fun c353 => ?_)
                · refine lv_iload cx.1 cx.2.1 dL_law_530 (lv_at hl 1 rfl) ?_
                  refine q_ifne (tgt := 547) cx ⟨by decide, by decide⟩ dL_law_532 (by decide) (fun c354 => ?_) (fun c354 => ?_)
                  · exact absurd c354 (by omega)
                  · refine q_ald_n cx dL_law_535 rfl (lv_at hl 6 rfl) ?_
                    refine q_iconst cx dL_law_536 ?_
                    refine q_lald (n := 1) cx hB hout kout (by decide) rfl rfl (by decide) (by decide) (by decide) rfl z339 dL_law_537 ?_
                    refine lv_iload cx.1 cx.2.1 dL_law_538 (lv_at hl 0 rfl) ?_
                    refine q_i2l cx ⟨by decide, by decide⟩ dL_law_540 ?_
                    refine q_lcmp cx dL_law_541 (fun y355 ly355 uy355 ey355 gy355 hy355 => ?_)
                    rw [q_lInt ⟨by decide, by decide⟩] at ey355 hy355
                    refine q_ifeq (tgt := 547) cx ⟨by omega, by omega⟩ dL_law_542 (by decide) (fun c356 => ?_) (fun c356 => ?_)
                    · refine lv_goto (tgt := 2394) cx.1 cx.2.1 dL_law_547 (by decide) ?_
                      refine q_iinc (lv' := [(5, .int (q_i (0 + 6))), (7, .int (q_i 0)), (6, .int (q_i 0)), (0, .ref b), (1, .ref x), (2, .ref mo), (3, .ref out), (4, .ref outD)]) cx dL_law_2394 hl (k := 2) rfl (by decide) rfl (fun ls hl => ?_)
                      refine lv_goto (tgt := 28) cx.1 cx.2.1 dL_law_2397 (by decide) ?_
                      refine lv_iload cx.1 cx.2.1 dL_law_28 (lv_at hl 0 rfl) ?_
                      refine q_ald_n cx dL_law_30 rfl (lv_at hl 3 rfl) ?_
                      refine va_slen cx.1 cx.2.1 hXs hbl hbA hB.1.2.2.2 dL_law_31 ?_
                      rw [show Int32.ofNat 6 = q_i 6 from by decide]
                      refine q_bipush cx dL_law_32 rfl ?_
                      refine q_isub cx dL_law_34 ?_
                      refine q_icgt (tgt := 2400) cx ⟨by decide, by decide⟩ ⟨by decide, by decide⟩ dL_law_35 (by decide) (fun c357 => ?_) (fun c357 => ?_)
                      · refine q_iconst cx dL_law_2400 ?_
                        exact q_lawret C0 hB (by decide) (by decide) dL_law_2401
                      · exact absurd c357 (by omega)
                    · exact absurd c356 (by omega)
                · exact absurd c353 (by omega)
              · by_cases c358 : x1 ≤ 6
                · refine q_cVi (As := [.int (q_i x1)]) (rest := []) cx hB (fun q h => hLA q h) hN hmo kmo (by decide) rfl (p_setting6 l g hN hB.2.1 mo hmo kmo x1 (by omega) (by omega) bu hbu kbu sr hsr ksr sd hsd ksd as has kas aw haw kaw pa hpa kpa nm hnm knm snm hsnm ksnm anm hanm kanm z249 z250 z251 z252 z253 z254 z255 z256 z257 z258 z259 z260 z261 z262 z263 z264 z265 z266 z277 z278 z279 z280 z281 z282 z283 z284 z285) q_cL_148 q_dX12_setting (by decide) rfl rfl hl.1 rfl (Nat.le_of_ble_eq_true rfl) dL_law_514 (fun y360 H locs f359 ry360 h361 hF hB => ?_)
                  obtain ⟨qy360, z362⟩ := h361
                  have z363 : q_j f359 out 0 = (q_l 0) := (hF.j hout (by rw [kout]; rfl)).trans z248
                  have z364 : q_r f359 x 0 = src := (hF.r hx (by rw [kx]; rfl)).trans z267
                  have z365 : q_r f359 x 1 = rdr := (hF.r hx (by rw [kx]; rfl)).trans z268
                  have z366 : q_r f359 x 2 = scr := (hF.r hx (by rw [kx]; rfl)).trans z269
                  have z367 : q_r f359 x 3 = fc := (hF.r hx (by rw [kx]; rfl)).trans z270
                  have z368 : q_r f359 x 4 = hist := (hF.r hx (by rw [kx]; rfl)).trans z271
                  have z369 : q_r f359 x 5 = rep := (hF.r hx (by rw [kx]; rfl)).trans z272
                  have z370 : q_r f359 x 6 = now := (hF.r hx (by rw [kx]; rfl)).trans z273
                  have z371 : q_r f359 x 7 = dr := (hF.r hx (by rw [kx]; rfl)).trans z274
                  have z372 : q_r f359 x 8 = sv := (hF.r hx (by rw [kx]; rfl)).trans z275
                  have z373 : q_r f359 fc 0 = tr := (hF.r hfc (by rw [kfc]; rfl)).trans z276
                  subst qy360
                  refine lv_istore (lv' := [(7, .int (q_i 0)), (6, .int (q_i 0)), (5, .int (q_i 0)), (0, .ref b), (1, .ref x), (2, .ref mo), (3, .ref out), (4, .ref outD)]) cx.1 cx.2.1 dL_law_517 hl (by decide) rfl (fun ls hl => ?_)
                  refine q_ald_n cx dL_law_519 rfl (lv_at hl 5 rfl) ?_
                  refine q_cVi (As := []) (rest := []) cx hB (fun q h => hLA q h) hN hmo kmo (by decide) rfl (r_thrown l g hN hB.2.1 mo hmo kmo 0 (by decide) (by decide) z362) q_cL_124 q_dX12_thrown (by decide) rfl rfl hl.1 rfl (Nat.le_of_ble_eq_true rfl) dL_law_520 (fun y375 H locs f374 ry375 h376 hF hB => ?_)
                  obtain ⟨rfl, qy375⟩ := h376
                  subst qy375
                  refine lv_iload cx.1 cx.2.1 dL_law_523 (lv_at hl 1 rfl) ?_
                  refine q_iceq (tgt := 530) cx ⟨by decide, by decide⟩ ⟨by decide, by decide⟩ dL_law_525 (by decide) (fun c377 => ?_) (fun c377 => ?_)
                  · refine lv_iload cx.1 cx.2.1 dL_law_530 (lv_at hl 1 rfl) ?_
                    refine q_ifne (tgt := 547) cx ⟨by decide, by decide⟩ dL_law_532 (by decide) (fun c378 => ?_) (fun c378 => ?_)
                    · exact absurd c378 (by omega)
                    · refine q_ald_n cx dL_law_535 rfl (lv_at hl 6 rfl) ?_
                      refine q_iconst cx dL_law_536 ?_
                      refine q_lald (n := 1) cx hB hout kout (by decide) rfl rfl (by decide) (by decide) (by decide) rfl z363 dL_law_537 ?_
                      refine lv_iload cx.1 cx.2.1 dL_law_538 (lv_at hl 0 rfl) ?_
                      refine q_i2l cx ⟨by decide, by decide⟩ dL_law_540 ?_
                      refine q_lcmp cx dL_law_541 (fun y379 ly379 uy379 ey379 gy379 hy379 => ?_)
                      rw [q_lInt ⟨by decide, by decide⟩] at ey379 hy379
                      refine q_ifeq (tgt := 547) cx ⟨by omega, by omega⟩ dL_law_542 (by decide) (fun c380 => ?_) (fun c380 => ?_)
                      · refine lv_goto (tgt := 2394) cx.1 cx.2.1 dL_law_547 (by decide) ?_
                        refine q_iinc (lv' := [(5, .int (q_i (0 + 6))), (7, .int (q_i 0)), (6, .int (q_i 0)), (0, .ref b), (1, .ref x), (2, .ref mo), (3, .ref out), (4, .ref outD)]) cx dL_law_2394 hl (k := 2) rfl (by decide) rfl (fun ls hl => ?_)
                        refine lv_goto (tgt := 28) cx.1 cx.2.1 dL_law_2397 (by decide) ?_
                        refine lv_iload cx.1 cx.2.1 dL_law_28 (lv_at hl 0 rfl) ?_
                        refine q_ald_n cx dL_law_30 rfl (lv_at hl 3 rfl) ?_
                        refine va_slen cx.1 cx.2.1 hXs hbl hbA hB.1.2.2.2 dL_law_31 ?_
                        rw [show Int32.ofNat 6 = q_i 6 from by decide]
                        refine q_bipush cx dL_law_32 rfl ?_
                        refine q_isub cx dL_law_34 ?_
                        refine q_icgt (tgt := 2400) cx ⟨by decide, by decide⟩ ⟨by decide, by decide⟩ dL_law_35 (by decide) (fun c381 => ?_) (fun c381 => ?_)
                        · refine q_iconst cx dL_law_2400 ?_
                          exact q_lawret C0 hB (by decide) (by decide) dL_law_2401
                        · exact absurd c381 (by omega)
                      · exact absurd c380 (by omega)
                  · exact absurd c377 (by omega)
                · by_cases c382 : x1 ≤ 7
                  · refine q_cVi (As := [.int (q_i x1)]) (rest := []) cx hB (fun q h => hLA q h) hN hmo kmo (by decide) rfl (p_setting7 l g hN hB.2.1 mo hmo kmo x1 (by omega) (by omega) bu hbu kbu sr hsr ksr sd hsd ksd as has kas aw haw kaw pa hpa kpa nm hnm knm snm hsnm ksnm anm hanm kanm z249 z250 z251 z252 z253 z254 z255 z256 z257 z258 z259 z260 z261 z262 z263 z264 z265 z266 z277 z278 z279 z280 z281 z282 z283 z284 z285) q_cL_148 q_dX12_setting (by decide) rfl rfl hl.1 rfl (Nat.le_of_ble_eq_true rfl) dL_law_514 (fun y384 H locs f383 ry384 h385 hF hB => ?_)
                    obtain ⟨qy384, z386⟩ := h385
                    have z387 : q_j f383 out 0 = (q_l 0) := (hF.j hout (by rw [kout]; rfl)).trans z248
                    have z388 : q_r f383 x 0 = src := (hF.r hx (by rw [kx]; rfl)).trans z267
                    have z389 : q_r f383 x 1 = rdr := (hF.r hx (by rw [kx]; rfl)).trans z268
                    have z390 : q_r f383 x 2 = scr := (hF.r hx (by rw [kx]; rfl)).trans z269
                    have z391 : q_r f383 x 3 = fc := (hF.r hx (by rw [kx]; rfl)).trans z270
                    have z392 : q_r f383 x 4 = hist := (hF.r hx (by rw [kx]; rfl)).trans z271
                    have z393 : q_r f383 x 5 = rep := (hF.r hx (by rw [kx]; rfl)).trans z272
                    have z394 : q_r f383 x 6 = now := (hF.r hx (by rw [kx]; rfl)).trans z273
                    have z395 : q_r f383 x 7 = dr := (hF.r hx (by rw [kx]; rfl)).trans z274
                    have z396 : q_r f383 x 8 = sv := (hF.r hx (by rw [kx]; rfl)).trans z275
                    have z397 : q_r f383 fc 0 = tr := (hF.r hfc (by rw [kfc]; rfl)).trans z276
                    subst qy384
                    refine lv_istore (lv' := [(7, .int (q_i 0)), (6, .int (q_i 0)), (5, .int (q_i 0)), (0, .ref b), (1, .ref x), (2, .ref mo), (3, .ref out), (4, .ref outD)]) cx.1 cx.2.1 dL_law_517 hl (by decide) rfl (fun ls hl => ?_)
                    refine q_ald_n cx dL_law_519 rfl (lv_at hl 5 rfl) ?_
                    refine q_cVi (As := []) (rest := []) cx hB (fun q h => hLA q h) hN hmo kmo (by decide) rfl (r_thrown l g hN hB.2.1 mo hmo kmo 0 (by decide) (by decide) z386) q_cL_124 q_dX12_thrown (by decide) rfl rfl hl.1 rfl (Nat.le_of_ble_eq_true rfl) dL_law_520 (fun y399 H locs f398 ry399 h400 hF hB => ?_)
                    obtain ⟨rfl, qy399⟩ := h400
                    subst qy399
                    refine lv_iload cx.1 cx.2.1 dL_law_523 (lv_at hl 1 rfl) ?_
                    refine q_iceq (tgt := 530) cx ⟨by decide, by decide⟩ ⟨by decide, by decide⟩ dL_law_525 (by decide) (fun c401 => ?_) (fun c401 => ?_)
                    · refine lv_iload cx.1 cx.2.1 dL_law_530 (lv_at hl 1 rfl) ?_
                      refine q_ifne (tgt := 547) cx ⟨by decide, by decide⟩ dL_law_532 (by decide) (fun c402 => ?_) (fun c402 => ?_)
                      · exact absurd c402 (by omega)
                      · refine q_ald_n cx dL_law_535 rfl (lv_at hl 6 rfl) ?_
                        refine q_iconst cx dL_law_536 ?_
                        refine q_lald (n := 1) cx hB hout kout (by decide) rfl rfl (by decide) (by decide) (by decide) rfl z387 dL_law_537 ?_
                        refine lv_iload cx.1 cx.2.1 dL_law_538 (lv_at hl 0 rfl) ?_
                        refine q_i2l cx ⟨by decide, by decide⟩ dL_law_540 ?_
                        refine q_lcmp cx dL_law_541 (fun y403 ly403 uy403 ey403 gy403 hy403 => ?_)
                        rw [q_lInt ⟨by decide, by decide⟩] at ey403 hy403
                        refine q_ifeq (tgt := 547) cx ⟨by omega, by omega⟩ dL_law_542 (by decide) (fun c404 => ?_) (fun c404 => ?_)
                        · refine lv_goto (tgt := 2394) cx.1 cx.2.1 dL_law_547 (by decide) ?_
                          refine q_iinc (lv' := [(5, .int (q_i (0 + 6))), (7, .int (q_i 0)), (6, .int (q_i 0)), (0, .ref b), (1, .ref x), (2, .ref mo), (3, .ref out), (4, .ref outD)]) cx dL_law_2394 hl (k := 2) rfl (by decide) rfl (fun ls hl => ?_)
                          refine lv_goto (tgt := 28) cx.1 cx.2.1 dL_law_2397 (by decide) ?_
                          refine lv_iload cx.1 cx.2.1 dL_law_28 (lv_at hl 0 rfl) ?_
                          refine q_ald_n cx dL_law_30 rfl (lv_at hl 3 rfl) ?_
                          refine va_slen cx.1 cx.2.1 hXs hbl hbA hB.1.2.2.2 dL_law_31 ?_
                          rw [show Int32.ofNat 6 = q_i 6 from by decide]
                          refine q_bipush cx dL_law_32 rfl ?_
                          refine q_isub cx dL_law_34 ?_
                          refine q_icgt (tgt := 2400) cx ⟨by decide, by decide⟩ ⟨by decide, by decide⟩ dL_law_35 (by decide) (fun c405 => ?_) (fun c405 => ?_)
                          · refine q_iconst cx dL_law_2400 ?_
                            exact q_lawret C0 hB (by decide) (by decide) dL_law_2401
                          · exact absurd c405 (by omega)
                        · exact absurd c404 (by omega)
                    · exact absurd c401 (by omega)
                  · by_cases c406 : x1 ≤ 8
                    · refine q_cVi (As := [.int (q_i x1)]) (rest := []) cx hB (fun q h => hLA q h) hN hmo kmo (by decide) rfl (p_setting8 l g hN hB.2.1 mo hmo kmo x1 (by omega) (by omega) bu hbu kbu sr hsr ksr sd hsd ksd as has kas aw haw kaw pa hpa kpa nm hnm knm snm hsnm ksnm anm hanm kanm z249 z250 z251 z252 z253 z254 z255 z256 z257 z258 z259 z260 z261 z262 z263 z264 z265 z266 z277 z278 z279 z280 z281 z282 z283 z284 z285) q_cL_148 q_dX12_setting (by decide) rfl rfl hl.1 rfl (Nat.le_of_ble_eq_true rfl) dL_law_514 (fun y408 H locs f407 ry408 h409 hF hB => ?_)
                      obtain ⟨qy408, z410⟩ := h409
                      have z411 : q_j f407 out 0 = (q_l 0) := (hF.j hout (by rw [kout]; rfl)).trans z248
                      have z412 : q_r f407 x 0 = src := (hF.r hx (by rw [kx]; rfl)).trans z267
                      have z413 : q_r f407 x 1 = rdr := (hF.r hx (by rw [kx]; rfl)).trans z268
                      have z414 : q_r f407 x 2 = scr := (hF.r hx (by rw [kx]; rfl)).trans z269
                      have z415 : q_r f407 x 3 = fc := (hF.r hx (by rw [kx]; rfl)).trans z270
                      have z416 : q_r f407 x 4 = hist := (hF.r hx (by rw [kx]; rfl)).trans z271
                      have z417 : q_r f407 x 5 = rep := (hF.r hx (by rw [kx]; rfl)).trans z272
                      have z418 : q_r f407 x 6 = now := (hF.r hx (by rw [kx]; rfl)).trans z273
                      have z419 : q_r f407 x 7 = dr := (hF.r hx (by rw [kx]; rfl)).trans z274
                      have z420 : q_r f407 x 8 = sv := (hF.r hx (by rw [kx]; rfl)).trans z275
                      have z421 : q_r f407 fc 0 = tr := (hF.r hfc (by rw [kfc]; rfl)).trans z276
                      subst qy408
                      refine lv_istore (lv' := [(7, .int (q_i 0)), (6, .int (q_i 0)), (5, .int (q_i 0)), (0, .ref b), (1, .ref x), (2, .ref mo), (3, .ref out), (4, .ref outD)]) cx.1 cx.2.1 dL_law_517 hl (by decide) rfl (fun ls hl => ?_)
                      refine q_ald_n cx dL_law_519 rfl (lv_at hl 5 rfl) ?_
                      refine q_cVi (As := []) (rest := []) cx hB (fun q h => hLA q h) hN hmo kmo (by decide) rfl (r_thrown l g hN hB.2.1 mo hmo kmo 0 (by decide) (by decide) z410) q_cL_124 q_dX12_thrown (by decide) rfl rfl hl.1 rfl (Nat.le_of_ble_eq_true rfl) dL_law_520 (fun y423 H locs f422 ry423 h424 hF hB => ?_)
                      obtain ⟨rfl, qy423⟩ := h424
                      subst qy423
                      refine lv_iload cx.1 cx.2.1 dL_law_523 (lv_at hl 1 rfl) ?_
                      refine q_iceq (tgt := 530) cx ⟨by decide, by decide⟩ ⟨by decide, by decide⟩ dL_law_525 (by decide) (fun c425 => ?_) (fun c425 => ?_)
                      · refine lv_iload cx.1 cx.2.1 dL_law_530 (lv_at hl 1 rfl) ?_
                        refine q_ifne (tgt := 547) cx ⟨by decide, by decide⟩ dL_law_532 (by decide) (fun c426 => ?_) (fun c426 => ?_)
                        · exact absurd c426 (by omega)
                        · refine q_ald_n cx dL_law_535 rfl (lv_at hl 6 rfl) ?_
                          refine q_iconst cx dL_law_536 ?_
                          refine q_lald (n := 1) cx hB hout kout (by decide) rfl rfl (by decide) (by decide) (by decide) rfl z411 dL_law_537 ?_
                          refine lv_iload cx.1 cx.2.1 dL_law_538 (lv_at hl 0 rfl) ?_
                          refine q_i2l cx ⟨by decide, by decide⟩ dL_law_540 ?_
                          refine q_lcmp cx dL_law_541 (fun y427 ly427 uy427 ey427 gy427 hy427 => ?_)
                          rw [q_lInt ⟨by decide, by decide⟩] at ey427 hy427
                          refine q_ifeq (tgt := 547) cx ⟨by omega, by omega⟩ dL_law_542 (by decide) (fun c428 => ?_) (fun c428 => ?_)
                          · refine lv_goto (tgt := 2394) cx.1 cx.2.1 dL_law_547 (by decide) ?_
                            refine q_iinc (lv' := [(5, .int (q_i (0 + 6))), (7, .int (q_i 0)), (6, .int (q_i 0)), (0, .ref b), (1, .ref x), (2, .ref mo), (3, .ref out), (4, .ref outD)]) cx dL_law_2394 hl (k := 2) rfl (by decide) rfl (fun ls hl => ?_)
                            refine lv_goto (tgt := 28) cx.1 cx.2.1 dL_law_2397 (by decide) ?_
                            refine lv_iload cx.1 cx.2.1 dL_law_28 (lv_at hl 0 rfl) ?_
                            refine q_ald_n cx dL_law_30 rfl (lv_at hl 3 rfl) ?_
                            refine va_slen cx.1 cx.2.1 hXs hbl hbA hB.1.2.2.2 dL_law_31 ?_
                            rw [show Int32.ofNat 6 = q_i 6 from by decide]
                            refine q_bipush cx dL_law_32 rfl ?_
                            refine q_isub cx dL_law_34 ?_
                            refine q_icgt (tgt := 2400) cx ⟨by decide, by decide⟩ ⟨by decide, by decide⟩ dL_law_35 (by decide) (fun c429 => ?_) (fun c429 => ?_)
                            · refine q_iconst cx dL_law_2400 ?_
                              exact q_lawret C0 hB (by decide) (by decide) dL_law_2401
                            · exact absurd c429 (by omega)
                          · exact absurd c428 (by omega)
                      · exact absurd c425 (by omega)
                    · refine q_cVi (As := [.int (q_i x1)]) (rest := []) cx hB (fun q h => hLA q h) hN hmo kmo (by decide) rfl (p_setting9 l g hN hB.2.1 mo hmo kmo x1 (by omega) (by omega) bu hbu kbu sr hsr ksr sd hsd ksd as has kas aw haw kaw pa hpa kpa nm hnm knm snm hsnm ksnm anm hanm kanm z249 z250 z251 z252 z253 z254 z255 z256 z257 z258 z259 z260 z261 z262 z263 z264 z265 z266 z277 z278 z279 z280 z281 z282 z283 z284 z285) q_cL_148 q_dX12_setting (by decide) rfl rfl hl.1 rfl (Nat.le_of_ble_eq_true rfl) dL_law_514 (fun y431 H locs f430 ry431 h432 hF hB => ?_)
                      obtain ⟨qy431, z433⟩ := h432
                      have z434 : q_j f430 out 0 = (q_l 0) := (hF.j hout (by rw [kout]; rfl)).trans z248
                      have z435 : q_r f430 x 0 = src := (hF.r hx (by rw [kx]; rfl)).trans z267
                      have z436 : q_r f430 x 1 = rdr := (hF.r hx (by rw [kx]; rfl)).trans z268
                      have z437 : q_r f430 x 2 = scr := (hF.r hx (by rw [kx]; rfl)).trans z269
                      have z438 : q_r f430 x 3 = fc := (hF.r hx (by rw [kx]; rfl)).trans z270
                      have z439 : q_r f430 x 4 = hist := (hF.r hx (by rw [kx]; rfl)).trans z271
                      have z440 : q_r f430 x 5 = rep := (hF.r hx (by rw [kx]; rfl)).trans z272
                      have z441 : q_r f430 x 6 = now := (hF.r hx (by rw [kx]; rfl)).trans z273
                      have z442 : q_r f430 x 7 = dr := (hF.r hx (by rw [kx]; rfl)).trans z274
                      have z443 : q_r f430 x 8 = sv := (hF.r hx (by rw [kx]; rfl)).trans z275
                      have z444 : q_r f430 fc 0 = tr := (hF.r hfc (by rw [kfc]; rfl)).trans z276
                      subst qy431
                      refine lv_istore (lv' := [(7, .int (q_i 0)), (6, .int (q_i 0)), (5, .int (q_i 0)), (0, .ref b), (1, .ref x), (2, .ref mo), (3, .ref out), (4, .ref outD)]) cx.1 cx.2.1 dL_law_517 hl (by decide) rfl (fun ls hl => ?_)
                      refine q_ald_n cx dL_law_519 rfl (lv_at hl 5 rfl) ?_
                      refine q_cVi (As := []) (rest := []) cx hB (fun q h => hLA q h) hN hmo kmo (by decide) rfl (r_thrown l g hN hB.2.1 mo hmo kmo 0 (by decide) (by decide) z433) q_cL_124 q_dX12_thrown (by decide) rfl rfl hl.1 rfl (Nat.le_of_ble_eq_true rfl) dL_law_520 (fun y446 H locs f445 ry446 h447 hF hB => ?_)
                      obtain ⟨rfl, qy446⟩ := h447
                      subst qy446
                      refine lv_iload cx.1 cx.2.1 dL_law_523 (lv_at hl 1 rfl) ?_
                      refine q_iceq (tgt := 530) cx ⟨by decide, by decide⟩ ⟨by decide, by decide⟩ dL_law_525 (by decide) (fun c448 => ?_) (fun c448 => ?_)
                      · refine lv_iload cx.1 cx.2.1 dL_law_530 (lv_at hl 1 rfl) ?_
                        refine q_ifne (tgt := 547) cx ⟨by decide, by decide⟩ dL_law_532 (by decide) (fun c449 => ?_) (fun c449 => ?_)
                        · exact absurd c449 (by omega)
                        · refine q_ald_n cx dL_law_535 rfl (lv_at hl 6 rfl) ?_
                          refine q_iconst cx dL_law_536 ?_
                          refine q_lald (n := 1) cx hB hout kout (by decide) rfl rfl (by decide) (by decide) (by decide) rfl z434 dL_law_537 ?_
                          refine lv_iload cx.1 cx.2.1 dL_law_538 (lv_at hl 0 rfl) ?_
                          refine q_i2l cx ⟨by decide, by decide⟩ dL_law_540 ?_
                          refine q_lcmp cx dL_law_541 (fun y450 ly450 uy450 ey450 gy450 hy450 => ?_)
                          rw [q_lInt ⟨by decide, by decide⟩] at ey450 hy450
                          refine q_ifeq (tgt := 547) cx ⟨by omega, by omega⟩ dL_law_542 (by decide) (fun c451 => ?_) (fun c451 => ?_)
                          · refine lv_goto (tgt := 2394) cx.1 cx.2.1 dL_law_547 (by decide) ?_
                            refine q_iinc (lv' := [(5, .int (q_i (0 + 6))), (7, .int (q_i 0)), (6, .int (q_i 0)), (0, .ref b), (1, .ref x), (2, .ref mo), (3, .ref out), (4, .ref outD)]) cx dL_law_2394 hl (k := 2) rfl (by decide) rfl (fun ls hl => ?_)
                            refine lv_goto (tgt := 28) cx.1 cx.2.1 dL_law_2397 (by decide) ?_
                            refine lv_iload cx.1 cx.2.1 dL_law_28 (lv_at hl 0 rfl) ?_
                            refine q_ald_n cx dL_law_30 rfl (lv_at hl 3 rfl) ?_
                            refine va_slen cx.1 cx.2.1 hXs hbl hbA hB.1.2.2.2 dL_law_31 ?_
                            rw [show Int32.ofNat 6 = q_i 6 from by decide]
                            refine q_bipush cx dL_law_32 rfl ?_
                            refine q_isub cx dL_law_34 ?_
                            refine q_icgt (tgt := 2400) cx ⟨by decide, by decide⟩ ⟨by decide, by decide⟩ dL_law_35 (by decide) (fun c452 => ?_) (fun c452 => ?_)
                            · refine q_iconst cx dL_law_2400 ?_
                              exact q_lawret C0 hB (by decide) (by decide) dL_law_2401
                            · exact absurd c452 (by omega)
                          · exact absurd c451 (by omega)
                      · exact absurd c448 (by omega)
        · by_cases c453 : x1 ≤ 10
          · refine q_cWS (As := [.ref x, .int (q_i x1), .ref out]) (rest := []) cx hX hB (fun q h => hLA q h) (fun q h1 h2 => absurd h1 (Nat.not_le_of_lt h2)) hN (w_settinge l g hN hB.2.1 hfl x hx kx x1 (by omega) (by omega) out hout kout src hsrc ksrc rdr hrdr krdr scr hscr kscr fc hfc kfc hist hhist khist rep hrep krep now hnow know dr hdr kdr sv hsv ksv tr htr ktr hf0 hf1 hf2 hf3 hf4 hf5 hf6 hf7 hf8 hf9 hf10 hf11 hf12 hf13 hr0 hr1 hr2 hr3 hr4 hr5 hr6 hr7 hr8 hr9) q_cL_146 q_dL_setting (by decide) rfl rfl hl.1 rfl (Nat.le_of_ble_eq_true rfl) dL_law_502 (fun v9 H locs f454 h456 hF hB => ?_)
            obtain ⟨y455, rfl, ry455, h456⟩ := h456
            refine W.eq (g2 := F0 m 505 ls [.int (q_i y455)]) rfl ?_
            obtain ⟨qy455, z457⟩ := h456
            have z458 : q_z f454 mo 2 = 0 := (hF.z hmo (by rw [kmo]; rfl)).trans hf14
            have z459 : q_z f454 mo 8 = 0 := (hF.z hmo (by rw [kmo]; rfl)).trans hf15
            have z460 : q_z f454 mo 9 = (-1) := (hF.z hmo (by rw [kmo]; rfl)).trans hf16
            have z461 : q_z f454 mo 10 = 0 := (hF.z hmo (by rw [kmo]; rfl)).trans hf17
            have z462 : q_z f454 mo 11 = (-1) := (hF.z hmo (by rw [kmo]; rfl)).trans hf18
            have z463 : q_z f454 mo 21 = 0 := (hF.z hmo (by rw [kmo]; rfl)).trans hf19
            have z464 : q_z f454 mo 22 = 0 := (hF.z hmo (by rw [kmo]; rfl)).trans hf20
            have z465 : q_z f454 mo 40 = 0 := (hF.z hmo (by rw [kmo]; rfl)).trans hf21
            have z466 : q_z f454 sr 0 = 0 := (hF.z hsr (by rw [ksr]; rfl)).trans hf22
            have z467 : q_z f454 sr 1 = 0 := (hF.z hsr (by rw [ksr]; rfl)).trans hf23
            have z468 : q_z f454 sr 2 = 12 := (hF.z hsr (by rw [ksr]; rfl)).trans hf24
            have z469 : q_z f454 sr 3 = 0 := (hF.z hsr (by rw [ksr]; rfl)).trans hf25
            have z470 : q_z f454 sr 4 = 0 := (hF.z hsr (by rw [ksr]; rfl)).trans hf26
            have z471 : q_z f454 sr 5 = 1 := (hF.z hsr (by rw [ksr]; rfl)).trans hf27
            have z472 : q_z f454 sr 6 = 2 := (hF.z hsr (by rw [ksr]; rfl)).trans hf28
            have z473 : q_z f454 sr 7 = 5 := (hF.z hsr (by rw [ksr]; rfl)).trans hf29
            have z474 : q_z f454 sr 8 = 3 := (hF.z hsr (by rw [ksr]; rfl)).trans hf30
            have z475 : q_z f454 sr 9 = 0 := (hF.z hsr (by rw [ksr]; rfl)).trans hf31
            have z476 : q_r f454 x 0 = src := (hF.r hx (by rw [kx]; rfl)).trans hr0
            have z477 : q_r f454 x 1 = rdr := (hF.r hx (by rw [kx]; rfl)).trans hr1
            have z478 : q_r f454 x 2 = scr := (hF.r hx (by rw [kx]; rfl)).trans hr2
            have z479 : q_r f454 x 3 = fc := (hF.r hx (by rw [kx]; rfl)).trans hr3
            have z480 : q_r f454 x 4 = hist := (hF.r hx (by rw [kx]; rfl)).trans hr4
            have z481 : q_r f454 x 5 = rep := (hF.r hx (by rw [kx]; rfl)).trans hr5
            have z482 : q_r f454 x 6 = now := (hF.r hx (by rw [kx]; rfl)).trans hr6
            have z483 : q_r f454 x 7 = dr := (hF.r hx (by rw [kx]; rfl)).trans hr7
            have z484 : q_r f454 x 8 = sv := (hF.r hx (by rw [kx]; rfl)).trans hr8
            have z485 : q_r f454 fc 0 = tr := (hF.r hfc (by rw [kfc]; rfl)).trans hr9
            have z486 : q_r f454 mo 1 = bu := (hF.r hmo (by rw [kmo]; rfl)).trans hr10
            have z487 : q_r f454 mo 13 = sr := (hF.r hmo (by rw [kmo]; rfl)).trans hr11
            have z488 : q_r f454 mo 14 = sd := (hF.r hmo (by rw [kmo]; rfl)).trans hr12
            have z489 : q_r f454 mo 15 = as := (hF.r hmo (by rw [kmo]; rfl)).trans hr13
            have z490 : q_r f454 mo 16 = aw := (hF.r hmo (by rw [kmo]; rfl)).trans hr14
            have z491 : q_r f454 mo 17 = pa := (hF.r hmo (by rw [kmo]; rfl)).trans hr15
            have z492 : q_r f454 mo 18 = nm := (hF.r hmo (by rw [kmo]; rfl)).trans hr16
            have z493 : q_r f454 mo 19 = snm := (hF.r hmo (by rw [kmo]; rfl)).trans hr17
            have z494 : q_r f454 mo 20 = anm := (hF.r hmo (by rw [kmo]; rfl)).trans hr18
            subst qy455
            refine lv_istore (lv' := [(6, .int (q_i 0)), (5, .int (q_i 0)), (0, .ref b), (1, .ref x), (2, .ref mo), (3, .ref out), (4, .ref outD)]) cx.1 cx.2.1 dL_law_505 hl (by decide) rfl (fun ls hl => ?_)
            refine q_ald_n cx dL_law_507 rfl (lv_at hl 4 rfl) ?_
            refine q_ald_n cx dL_law_508 rfl (lv_at hl 2 rfl) ?_
            refine lv_iload cx.1 cx.2.1 dL_law_509 (lv_at hl 1 rfl) ?_
            refine q_iconst cx dL_law_511 ?_
            refine q_iadd cx dL_law_512 ?_
            refine va_sld cx.1 cx.2.1 hXs hbl hbA hB.1.2.2.2 (q_in (by decide) (by decide) (by decide)) dL_law_513 ?_
            rw [show (q_i (0 + 1)).toNatClampNeg = 1 from by decide, ex1]
            refine q_cVi (As := [.int (q_i x1)]) (rest := []) cx hB (fun q h => hLA q h) hN hmo kmo (by decide) rfl (p_setting10 l g hN hB.2.1 mo hmo kmo x1 (by omega) (by omega) bu hbu kbu sr hsr ksr sd hsd ksd as has kas aw haw kaw pa hpa kpa nm hnm knm snm hsnm ksnm anm hanm kanm z458 z459 z460 z461 z462 z463 z464 z465 z466 z467 z468 z469 z470 z471 z472 z473 z474 z475 z486 z487 z488 z489 z490 z491 z492 z493 z494) q_cL_148 q_dX12_setting (by decide) rfl rfl hl.1 rfl (Nat.le_of_ble_eq_true rfl) dL_law_514 (fun y496 H locs f495 ry496 h497 hF hB => ?_)
            obtain ⟨qy496, z498⟩ := h497
            have z499 : q_j f495 out 0 = (q_l 0) := (hF.j hout (by rw [kout]; rfl)).trans z457
            have z500 : q_r f495 x 0 = src := (hF.r hx (by rw [kx]; rfl)).trans z476
            have z501 : q_r f495 x 1 = rdr := (hF.r hx (by rw [kx]; rfl)).trans z477
            have z502 : q_r f495 x 2 = scr := (hF.r hx (by rw [kx]; rfl)).trans z478
            have z503 : q_r f495 x 3 = fc := (hF.r hx (by rw [kx]; rfl)).trans z479
            have z504 : q_r f495 x 4 = hist := (hF.r hx (by rw [kx]; rfl)).trans z480
            have z505 : q_r f495 x 5 = rep := (hF.r hx (by rw [kx]; rfl)).trans z481
            have z506 : q_r f495 x 6 = now := (hF.r hx (by rw [kx]; rfl)).trans z482
            have z507 : q_r f495 x 7 = dr := (hF.r hx (by rw [kx]; rfl)).trans z483
            have z508 : q_r f495 x 8 = sv := (hF.r hx (by rw [kx]; rfl)).trans z484
            have z509 : q_r f495 fc 0 = tr := (hF.r hfc (by rw [kfc]; rfl)).trans z485
            subst qy496
            refine lv_istore (lv' := [(7, .int (q_i 0)), (6, .int (q_i 0)), (5, .int (q_i 0)), (0, .ref b), (1, .ref x), (2, .ref mo), (3, .ref out), (4, .ref outD)]) cx.1 cx.2.1 dL_law_517 hl (by decide) rfl (fun ls hl => ?_)
            refine q_ald_n cx dL_law_519 rfl (lv_at hl 5 rfl) ?_
            refine q_cVi (As := []) (rest := []) cx hB (fun q h => hLA q h) hN hmo kmo (by decide) rfl (r_thrown l g hN hB.2.1 mo hmo kmo 0 (by decide) (by decide) z498) q_cL_124 q_dX12_thrown (by decide) rfl rfl hl.1 rfl (Nat.le_of_ble_eq_true rfl) dL_law_520 (fun y511 H locs f510 ry511 h512 hF hB => ?_)
            obtain ⟨rfl, qy511⟩ := h512
            subst qy511
            refine lv_iload cx.1 cx.2.1 dL_law_523 (lv_at hl 1 rfl) ?_
            refine q_iceq (tgt := 530) cx ⟨by decide, by decide⟩ ⟨by decide, by decide⟩ dL_law_525 (by decide) (fun c513 => ?_) (fun c513 => ?_)
            · refine lv_iload cx.1 cx.2.1 dL_law_530 (lv_at hl 1 rfl) ?_
              refine q_ifne (tgt := 547) cx ⟨by decide, by decide⟩ dL_law_532 (by decide) (fun c514 => ?_) (fun c514 => ?_)
              · exact absurd c514 (by omega)
              · refine q_ald_n cx dL_law_535 rfl (lv_at hl 6 rfl) ?_
                refine q_iconst cx dL_law_536 ?_
                refine q_lald (n := 1) cx hB hout kout (by decide) rfl rfl (by decide) (by decide) (by decide) rfl z499 dL_law_537 ?_
                refine lv_iload cx.1 cx.2.1 dL_law_538 (lv_at hl 0 rfl) ?_
                refine q_i2l cx ⟨by decide, by decide⟩ dL_law_540 ?_
                refine q_lcmp cx dL_law_541 (fun y515 ly515 uy515 ey515 gy515 hy515 => ?_)
                rw [q_lInt ⟨by decide, by decide⟩] at ey515 hy515
                refine q_ifeq (tgt := 547) cx ⟨by omega, by omega⟩ dL_law_542 (by decide) (fun c516 => ?_) (fun c516 => ?_)
                · refine lv_goto (tgt := 2394) cx.1 cx.2.1 dL_law_547 (by decide) ?_
                  refine q_iinc (lv' := [(5, .int (q_i (0 + 6))), (7, .int (q_i 0)), (6, .int (q_i 0)), (0, .ref b), (1, .ref x), (2, .ref mo), (3, .ref out), (4, .ref outD)]) cx dL_law_2394 hl (k := 2) rfl (by decide) rfl (fun ls hl => ?_)
                  refine lv_goto (tgt := 28) cx.1 cx.2.1 dL_law_2397 (by decide) ?_
                  refine lv_iload cx.1 cx.2.1 dL_law_28 (lv_at hl 0 rfl) ?_
                  refine q_ald_n cx dL_law_30 rfl (lv_at hl 3 rfl) ?_
                  refine va_slen cx.1 cx.2.1 hXs hbl hbA hB.1.2.2.2 dL_law_31 ?_
                  rw [show Int32.ofNat 6 = q_i 6 from by decide]
                  refine q_bipush cx dL_law_32 rfl ?_
                  refine q_isub cx dL_law_34 ?_
                  refine q_icgt (tgt := 2400) cx ⟨by decide, by decide⟩ ⟨by decide, by decide⟩ dL_law_35 (by decide) (fun c517 => ?_) (fun c517 => ?_)
                  · refine q_iconst cx dL_law_2400 ?_
                    exact q_lawret C0 hB (by decide) (by decide) dL_law_2401
                  · exact absurd c517 (by omega)
                · exact absurd c516 (by omega)
            · exact absurd c513 (by omega)
          · refine q_cWS (As := [.ref x, .int (q_i x1), .ref out]) (rest := []) cx hX hB (fun q h => hLA q h) (fun q h1 h2 => absurd h1 (Nat.not_le_of_lt h2)) hN (w_settingf l g hN hB.2.1 hfl x hx kx x1 (by omega) (by omega) out hout kout src hsrc ksrc rdr hrdr krdr scr hscr kscr fc hfc kfc hist hhist khist rep hrep krep now hnow know dr hdr kdr sv hsv ksv tr htr ktr hf0 hf1 hf2 hf3 hf4 hf5 hf6 hf7 hf8 hf9 hf10 hf11 hf12 hf13 hr0 hr1 hr2 hr3 hr4 hr5 hr6 hr7 hr8 hr9) q_cL_146 q_dL_setting (by decide) rfl rfl hl.1 rfl (Nat.le_of_ble_eq_true rfl) dL_law_502 (fun v9 H locs f518 h520 hF hB => ?_)
            obtain ⟨y519, rfl, ry519, h520⟩ := h520
            refine W.eq (g2 := F0 m 505 ls [.int (q_i y519)]) rfl ?_
            have qy519 := h520
            have z521 : q_z f518 x 9 = 0 := (hF.z hx (by rw [kx]; rfl)).trans hf0
            have z522 : q_z f518 src 1 = 0 := (hF.z hsrc (by rw [ksrc]; rfl)).trans hf1
            have z523 : q_z f518 src 2 = 0 := (hF.z hsrc (by rw [ksrc]; rfl)).trans hf2
            have z524 : q_z f518 src 3 = (-1) := (hF.z hsrc (by rw [ksrc]; rfl)).trans hf3
            have z525 : q_z f518 hist 1 = 0 := (hF.z hhist (by rw [khist]; rfl)).trans hf4
            have z526 : q_z f518 hist 2 = 0 := (hF.z hhist (by rw [khist]; rfl)).trans hf5
            have z527 : q_z f518 rep 1 = 0 := (hF.z hrep (by rw [krep]; rfl)).trans hf6
            have z528 : q_z f518 now 3 = 0 := (hF.z hnow (by rw [know]; rfl)).trans hf7
            have z529 : q_z f518 now 4 = 0 := (hF.z hnow (by rw [know]; rfl)).trans hf8
            have z530 : q_z f518 now 5 = 0 := (hF.z hnow (by rw [know]; rfl)).trans hf9
            have z531 : q_z f518 now 6 = 12 := (hF.z hnow (by rw [know]; rfl)).trans hf10
            have z532 : q_z f518 now 10 = 3 := (hF.z hnow (by rw [know]; rfl)).trans hf11
            have z533 : q_z f518 now 11 = 0 := (hF.z hnow (by rw [know]; rfl)).trans hf12
            have z534 : q_z f518 now 12 = 0 := (hF.z hnow (by rw [know]; rfl)).trans hf13
            have z535 : q_z f518 mo 2 = 0 := (hF.z hmo (by rw [kmo]; rfl)).trans hf14
            have z536 : q_z f518 mo 8 = 0 := (hF.z hmo (by rw [kmo]; rfl)).trans hf15
            have z537 : q_z f518 mo 9 = (-1) := (hF.z hmo (by rw [kmo]; rfl)).trans hf16
            have z538 : q_z f518 mo 10 = 0 := (hF.z hmo (by rw [kmo]; rfl)).trans hf17
            have z539 : q_z f518 mo 11 = (-1) := (hF.z hmo (by rw [kmo]; rfl)).trans hf18
            have z540 : q_z f518 mo 21 = 0 := (hF.z hmo (by rw [kmo]; rfl)).trans hf19
            have z541 : q_z f518 mo 22 = 0 := (hF.z hmo (by rw [kmo]; rfl)).trans hf20
            have z542 : q_z f518 mo 40 = 0 := (hF.z hmo (by rw [kmo]; rfl)).trans hf21
            have z543 : q_z f518 sr 0 = 0 := (hF.z hsr (by rw [ksr]; rfl)).trans hf22
            have z544 : q_z f518 sr 1 = 0 := (hF.z hsr (by rw [ksr]; rfl)).trans hf23
            have z545 : q_z f518 sr 2 = 12 := (hF.z hsr (by rw [ksr]; rfl)).trans hf24
            have z546 : q_z f518 sr 3 = 0 := (hF.z hsr (by rw [ksr]; rfl)).trans hf25
            have z547 : q_z f518 sr 4 = 0 := (hF.z hsr (by rw [ksr]; rfl)).trans hf26
            have z548 : q_z f518 sr 5 = 1 := (hF.z hsr (by rw [ksr]; rfl)).trans hf27
            have z549 : q_z f518 sr 6 = 2 := (hF.z hsr (by rw [ksr]; rfl)).trans hf28
            have z550 : q_z f518 sr 7 = 5 := (hF.z hsr (by rw [ksr]; rfl)).trans hf29
            have z551 : q_z f518 sr 8 = 3 := (hF.z hsr (by rw [ksr]; rfl)).trans hf30
            have z552 : q_z f518 sr 9 = 0 := (hF.z hsr (by rw [ksr]; rfl)).trans hf31
            have z553 : q_r f518 x 0 = src := (hF.r hx (by rw [kx]; rfl)).trans hr0
            have z554 : q_r f518 x 1 = rdr := (hF.r hx (by rw [kx]; rfl)).trans hr1
            have z555 : q_r f518 x 2 = scr := (hF.r hx (by rw [kx]; rfl)).trans hr2
            have z556 : q_r f518 x 3 = fc := (hF.r hx (by rw [kx]; rfl)).trans hr3
            have z557 : q_r f518 x 4 = hist := (hF.r hx (by rw [kx]; rfl)).trans hr4
            have z558 : q_r f518 x 5 = rep := (hF.r hx (by rw [kx]; rfl)).trans hr5
            have z559 : q_r f518 x 6 = now := (hF.r hx (by rw [kx]; rfl)).trans hr6
            have z560 : q_r f518 x 7 = dr := (hF.r hx (by rw [kx]; rfl)).trans hr7
            have z561 : q_r f518 x 8 = sv := (hF.r hx (by rw [kx]; rfl)).trans hr8
            have z562 : q_r f518 fc 0 = tr := (hF.r hfc (by rw [kfc]; rfl)).trans hr9
            have z563 : q_r f518 mo 1 = bu := (hF.r hmo (by rw [kmo]; rfl)).trans hr10
            have z564 : q_r f518 mo 13 = sr := (hF.r hmo (by rw [kmo]; rfl)).trans hr11
            have z565 : q_r f518 mo 14 = sd := (hF.r hmo (by rw [kmo]; rfl)).trans hr12
            have z566 : q_r f518 mo 15 = as := (hF.r hmo (by rw [kmo]; rfl)).trans hr13
            have z567 : q_r f518 mo 16 = aw := (hF.r hmo (by rw [kmo]; rfl)).trans hr14
            have z568 : q_r f518 mo 17 = pa := (hF.r hmo (by rw [kmo]; rfl)).trans hr15
            have z569 : q_r f518 mo 18 = nm := (hF.r hmo (by rw [kmo]; rfl)).trans hr16
            have z570 : q_r f518 mo 19 = snm := (hF.r hmo (by rw [kmo]; rfl)).trans hr17
            have z571 : q_r f518 mo 20 = anm := (hF.r hmo (by rw [kmo]; rfl)).trans hr18
            subst qy519
            refine lv_istore (lv' := [(6, .int (q_i 1)), (5, .int (q_i 0)), (0, .ref b), (1, .ref x), (2, .ref mo), (3, .ref out), (4, .ref outD)]) cx.1 cx.2.1 dL_law_505 hl (by decide) rfl (fun ls hl => ?_)
            refine q_ald_n cx dL_law_507 rfl (lv_at hl 4 rfl) ?_
            refine q_ald_n cx dL_law_508 rfl (lv_at hl 2 rfl) ?_
            refine lv_iload cx.1 cx.2.1 dL_law_509 (lv_at hl 1 rfl) ?_
            refine q_iconst cx dL_law_511 ?_
            refine q_iadd cx dL_law_512 ?_
            refine va_sld cx.1 cx.2.1 hXs hbl hbA hB.1.2.2.2 (q_in (by decide) (by decide) (by decide)) dL_law_513 ?_
            rw [show (q_i (0 + 1)).toNatClampNeg = 1 from by decide, ex1]
            refine q_cVi (As := [.int (q_i x1)]) (rest := []) cx hB (fun q h => hLA q h) hN hmo kmo (by decide) rfl (p_settingc l g hN hB.2.1 mo hmo kmo x1 (by omega) (by omega) bu hbu kbu sr hsr ksr sd hsd ksd as has kas aw haw kaw pa hpa kpa nm hnm knm snm hsnm ksnm anm hanm kanm z535 z536 z537 z538 z539 z540 z541 z542 z543 z544 z545 z546 z547 z548 z549 z550 z551 z552 z563 z564 z565 z566 z567 z568 z569 z570 z571) q_cL_148 q_dX12_setting (by decide) rfl rfl hl.1 rfl (Nat.le_of_ble_eq_true rfl) dL_law_514 (fun y573 H locs f572 ry573 h574 hF hB => ?_)
            obtain ⟨qy573, z575⟩ := h574
            have z576 : q_z f572 x 9 = 0 := (hF.z hx (by rw [kx]; rfl)).trans z521
            have z577 : q_z f572 src 1 = 0 := (hF.z hsrc (by rw [ksrc]; rfl)).trans z522
            have z578 : q_z f572 src 2 = 0 := (hF.z hsrc (by rw [ksrc]; rfl)).trans z523
            have z579 : q_z f572 src 3 = (-1) := (hF.z hsrc (by rw [ksrc]; rfl)).trans z524
            have z580 : q_z f572 hist 1 = 0 := (hF.z hhist (by rw [khist]; rfl)).trans z525
            have z581 : q_z f572 hist 2 = 0 := (hF.z hhist (by rw [khist]; rfl)).trans z526
            have z582 : q_z f572 rep 1 = 0 := (hF.z hrep (by rw [krep]; rfl)).trans z527
            have z583 : q_z f572 now 3 = 0 := (hF.z hnow (by rw [know]; rfl)).trans z528
            have z584 : q_z f572 now 4 = 0 := (hF.z hnow (by rw [know]; rfl)).trans z529
            have z585 : q_z f572 now 5 = 0 := (hF.z hnow (by rw [know]; rfl)).trans z530
            have z586 : q_z f572 now 6 = 12 := (hF.z hnow (by rw [know]; rfl)).trans z531
            have z587 : q_z f572 now 10 = 3 := (hF.z hnow (by rw [know]; rfl)).trans z532
            have z588 : q_z f572 now 11 = 0 := (hF.z hnow (by rw [know]; rfl)).trans z533
            have z589 : q_z f572 now 12 = 0 := (hF.z hnow (by rw [know]; rfl)).trans z534
            have z590 : q_r f572 x 0 = src := (hF.r hx (by rw [kx]; rfl)).trans z553
            have z591 : q_r f572 x 1 = rdr := (hF.r hx (by rw [kx]; rfl)).trans z554
            have z592 : q_r f572 x 2 = scr := (hF.r hx (by rw [kx]; rfl)).trans z555
            have z593 : q_r f572 x 3 = fc := (hF.r hx (by rw [kx]; rfl)).trans z556
            have z594 : q_r f572 x 4 = hist := (hF.r hx (by rw [kx]; rfl)).trans z557
            have z595 : q_r f572 x 5 = rep := (hF.r hx (by rw [kx]; rfl)).trans z558
            have z596 : q_r f572 x 6 = now := (hF.r hx (by rw [kx]; rfl)).trans z559
            have z597 : q_r f572 x 7 = dr := (hF.r hx (by rw [kx]; rfl)).trans z560
            have z598 : q_r f572 x 8 = sv := (hF.r hx (by rw [kx]; rfl)).trans z561
            have z599 : q_r f572 fc 0 = tr := (hF.r hfc (by rw [kfc]; rfl)).trans z562
            subst qy573
            refine lv_istore (lv' := [(7, .int (q_i 0)), (6, .int (q_i 1)), (5, .int (q_i 0)), (0, .ref b), (1, .ref x), (2, .ref mo), (3, .ref out), (4, .ref outD)]) cx.1 cx.2.1 dL_law_517 hl (by decide) rfl (fun ls hl => ?_)
            refine q_ald_n cx dL_law_519 rfl (lv_at hl 5 rfl) ?_
            refine q_cVi (As := []) (rest := []) cx hB (fun q h => hLA q h) hN hmo kmo (by decide) rfl (r_thrown l g hN hB.2.1 mo hmo kmo 1 (by decide) (by decide) z575) q_cL_124 q_dX12_thrown (by decide) rfl rfl hl.1 rfl (Nat.le_of_ble_eq_true rfl) dL_law_520 (fun y601 H locs f600 ry601 h602 hF hB => ?_)
            obtain ⟨rfl, qy601⟩ := h602
            subst qy601
            refine lv_iload cx.1 cx.2.1 dL_law_523 (lv_at hl 1 rfl) ?_
            refine q_iceq (tgt := 530) cx ⟨by decide, by decide⟩ ⟨by decide, by decide⟩ dL_law_525 (by decide) (fun c603 => ?_) (fun c603 => ?_)
            · refine lv_iload cx.1 cx.2.1 dL_law_530 (lv_at hl 1 rfl) ?_
              refine q_ifne (tgt := 547) cx ⟨by decide, by decide⟩ dL_law_532 (by decide) (fun c604 => ?_) (fun c604 => ?_)
              · refine lv_goto (tgt := 2394) cx.1 cx.2.1 dL_law_547 (by decide) ?_
                refine q_iinc (lv' := [(5, .int (q_i (0 + 6))), (7, .int (q_i 0)), (6, .int (q_i 1)), (0, .ref b), (1, .ref x), (2, .ref mo), (3, .ref out), (4, .ref outD)]) cx dL_law_2394 hl (k := 2) rfl (by decide) rfl (fun ls hl => ?_)
                refine lv_goto (tgt := 28) cx.1 cx.2.1 dL_law_2397 (by decide) ?_
                refine lv_iload cx.1 cx.2.1 dL_law_28 (lv_at hl 0 rfl) ?_
                refine q_ald_n cx dL_law_30 rfl (lv_at hl 3 rfl) ?_
                refine va_slen cx.1 cx.2.1 hXs hbl hbA hB.1.2.2.2 dL_law_31 ?_
                rw [show Int32.ofNat 6 = q_i 6 from by decide]
                refine q_bipush cx dL_law_32 rfl ?_
                refine q_isub cx dL_law_34 ?_
                refine q_icgt (tgt := 2400) cx ⟨by decide, by decide⟩ ⟨by decide, by decide⟩ dL_law_35 (by decide) (fun c605 => ?_) (fun c605 => ?_)
                · refine q_iconst cx dL_law_2400 ?_
                  exact q_lawret C0 hB (by decide) (by decide) dL_law_2401
                · exact absurd c605 (by omega)
              · exact absurd c604 (by omega)
            · exact absurd c603 (by omega)
set_option maxHeartbeats 4000000 in
set_option maxRecDepth 100000 in
theorem law_c550 {p : Program} {l : Launch} {e : Env} {s : State} {m : MethodId} {below : List Frame} {meth : Method} {c : Code} {b : Nat} {xs : Nat → Int32} (hfl : l.stackTraces = false) (C0 : lw_At p s m meth c b 6 xs) (cx : CallFix p m c cL_law 10 s #[Value.ref b] q_al RL) {g : q_G} {K : Nat → Nat} {L : List Nat} {f : Nat → va_E} {H : Heap} {locs : List Loc} {ls : Array Slot} (hN : L.Nodup) (hLA : ∀ q, q ∈ L → s.heap.size ≤ q) (hX : q_X (fun q => q ∈ L) s) (hB : q_B g K L (fun q => s.heap.size ≤ q) [(2, 1, 2), (6, 1, 1), (7, 1, 4), (8, 1, 9), (9, 0, 2), (10, 3, 15), (11, 9, 9), (12, 0, 40), (13, 3, 15), (14, 3, 15), (15, 3, 15), (16, 3, 15), (142, 0, 599), (150, 0, 599), (151, 0, 657), (152, 0, 657), (153, 0, 657), (154, 0, 657), (155, 0, 3947), (156, 0, 9), (157, 0, 9), (158, 0, 9), (168, 0, 0), (169, 0, 0)] f f s H locs) {x : Nat} (hx : x ∈ L) (kx : K x = 11) {src : Nat} (hsrc : src ∈ L) (ksrc : K src = 8) {rdr : Nat} (hrdr : rdr ∈ L) (krdr : K rdr = 9) {scr : Nat} (hscr : scr ∈ L) (kscr : K scr = 7) {fc : Nat} (hfc : fc ∈ L) (kfc : K fc = 1) {hist : Nat} (hhist : hist ∈ L) (khist : K hist = 2) {rep : Nat} (hrep : rep ∈ L) (krep : K rep = 6) {now : Nat} (hnow : now ∈ L) (know : K now = 10) {dr : Nat} (hdr : dr ∈ L) (kdr : K dr = 13) {sv : Nat} (hsv : sv ∈ L) (ksv : K sv = 14) {tr : Nat} (htr : tr ∈ L) (ktr : K tr = 15) {mo : Nat} (hmo : mo ∈ L) (kmo : K mo = 12) {bu : Nat} (hbu : bu ∈ L) (kbu : K bu = 150) {sr : Nat} (hsr : sr ∈ L) (ksr : K sr = 151) {sd : Nat} (hsd : sd ∈ L) (ksd : K sd = 152) {as : Nat} (has : as ∈ L) (kas : K as = 153) {aw : Nat} (haw : aw ∈ L) (kaw : K aw = 154) {pa : Nat} (hpa : pa ∈ L) (kpa : K pa = 155) {nm : Nat} (hnm : nm ∈ L) (knm : K nm = 156) {snm : Nat} (hsnm : snm ∈ L) (ksnm : K snm = 157) {anm : Nat} (hanm : anm ∈ L) (kanm : K anm = 158) {out : Nat} (hout : out ∈ L) (kout : K out = 168) {outD : Nat} (houtD : outD ∈ L) (koutD : K outD = 169) (hf0 : q_z f x 9 = 0) (hf1 : q_z f src 1 = 0) (hf2 : q_z f src 2 = 0) (hf3 : q_z f src 3 = (-1)) (hf4 : q_z f hist 1 = 0) (hf5 : q_z f hist 2 = 0) (hf6 : q_z f rep 1 = 0) (hf7 : q_z f now 3 = 0) (hf8 : q_z f now 4 = 0) (hf9 : q_z f now 5 = 0) (hf10 : q_z f now 6 = 12) (hf11 : q_z f now 10 = 3) (hf12 : q_z f now 11 = 0) (hf13 : q_z f now 12 = 0) (hf14 : q_z f mo 2 = 0) (hf15 : q_z f mo 8 = 0) (hf16 : q_z f mo 9 = (-1)) (hf17 : q_z f mo 10 = 0) (hf18 : q_z f mo 11 = (-1)) (hf19 : q_z f mo 21 = 0) (hf20 : q_z f mo 22 = 0) (hf21 : q_z f mo 40 = 0) (hf22 : q_z f sr 0 = 0) (hf23 : q_z f sr 1 = 0) (hf24 : q_z f sr 2 = 12) (hf25 : q_z f sr 3 = 0) (hf26 : q_z f sr 4 = 0) (hf27 : q_z f sr 5 = 1) (hf28 : q_z f sr 6 = 2) (hf29 : q_z f sr 7 = 5) (hf30 : q_z f sr 8 = 3) (hf31 : q_z f sr 9 = 0) (hr0 : q_r f x 0 = src) (hr1 : q_r f x 1 = rdr) (hr2 : q_r f x 2 = scr) (hr3 : q_r f x 3 = fc) (hr4 : q_r f x 4 = hist) (hr5 : q_r f x 5 = rep) (hr6 : q_r f x 6 = now) (hr7 : q_r f x 7 = dr) (hr8 : q_r f x 8 = sv) (hr9 : q_r f fc 0 = tr) (hr10 : q_r f mo 1 = bu) (hr11 : q_r f mo 13 = sr) (hr12 : q_r f mo 14 = sd) (hr13 : q_r f mo 15 = as) (hr14 : q_r f mo 16 = aw) (hr15 : q_r f mo 17 = pa) (hr16 : q_r f mo 18 = nm) (hr17 : q_r f mo 19 = snm) (hr18 : q_r f mo 20 = anm) (hl : lv_has ls 10 [(5, .int (q_i 0)), (0, .ref b), (1, .ref x), (2, .ref mo), (3, .ref out), (4, .ref outD)]) : W p l e room_1 s m #[Value.ref b] below meth c H locs 1100 20000 (lw_Z below #[Value.ref b] s) (F0 m 550 ls []) := by
  have hXs := C0.2.2.2.2.2.2.1
  have hbl := C0.2.2.2.2.2.2.2.1
  have hbA := q_bA hbl
  obtain ⟨x0, rx0, ex0⟩ : ∃ z : Int, q_R z ∧ xs 0 = q_i z := ⟨_, q_rng _, (q_of _).symm⟩
  have lx0 := rx0.1
  have ux0 := rx0.2
  obtain ⟨x1, rx1, ex1⟩ : ∃ z : Int, q_R z ∧ xs 1 = q_i z := ⟨_, q_rng _, (q_of _).symm⟩
  have lx1 := rx1.1
  have ux1 := rx1.2
  obtain ⟨x2, rx2, ex2⟩ : ∃ z : Int, q_R z ∧ xs 2 = q_i z := ⟨_, q_rng _, (q_of _).symm⟩
  have lx2 := rx2.1
  have ux2 := rx2.2
  obtain ⟨x3, rx3, ex3⟩ : ∃ z : Int, q_R z ∧ xs 3 = q_i z := ⟨_, q_rng _, (q_of _).symm⟩
  have lx3 := rx3.1
  have ux3 := rx3.2
  obtain ⟨x4, rx4, ex4⟩ : ∃ z : Int, q_R z ∧ xs 4 = q_i z := ⟨_, q_rng _, (q_of _).symm⟩
  have lx4 := rx4.1
  have ux4 := rx4.2
  obtain ⟨x5, rx5, ex5⟩ : ∃ z : Int, q_R z ∧ xs 5 = q_i z := ⟨_, q_rng _, (q_of _).symm⟩
  have lx5 := rx5.1
  have ux5 := rx5.2
  refine q_ald_n cx dL_law_550 rfl (lv_at hl 2 rfl) ?_
  refine q_ald_n cx dL_law_551 rfl (lv_at hl 1 rfl) ?_
  refine lv_iload cx.1 cx.2.1 dL_law_552 (lv_at hl 0 rfl) ?_
  refine q_iconst cx dL_law_554 ?_
  refine q_iadd cx dL_law_555 ?_
  refine va_sld cx.1 cx.2.1 hXs hbl hbA hB.1.2.2.2 (q_in (by decide) (by decide) (by decide)) dL_law_556 ?_
  rw [show (q_i (0 + 1)).toNatClampNeg = 1 from by decide, ex1]
  refine q_ald_n cx dL_law_557 rfl (lv_at hl 1 rfl) ?_
  refine lv_iload cx.1 cx.2.1 dL_law_558 (lv_at hl 0 rfl) ?_
  refine q_iconst cx dL_law_560 ?_
  refine q_iadd cx dL_law_561 ?_
  refine va_sld cx.1 cx.2.1 hXs hbl hbA hB.1.2.2.2 (q_in (by decide) (by decide) (by decide)) dL_law_562 ?_
  rw [show (q_i (0 + 2)).toNatClampNeg = 2 from by decide, ex2]
  refine q_ald_n cx dL_law_563 rfl (lv_at hl 4 rfl) ?_
  refine q_cWS (As := [.ref x, .int (q_i x1), .int (q_i x2), .ref out]) (rest := []) cx hX hB (fun q h => hLA q h) (fun q h1 h2 => absurd h1 (Nat.not_le_of_lt h2)) hN (w_node l g hN hB.2.1 hfl x hx kx x1 (by omega) (by omega) x2 (by omega) (by omega) out hout kout src hsrc ksrc rdr hrdr krdr scr hscr kscr fc hfc kfc hist hhist khist rep hrep krep now hnow know dr hdr kdr sv hsv ksv tr htr ktr hf0 hf1 hf2 hf3 hf4 hf5 hf6 hf7 hf8 hf9 hf10 hf11 hf12 hf13 hr0 hr1 hr2 hr3 hr4 hr5 hr6 hr7 hr8 hr9) q_cL_149 q_dL_node (by decide) rfl rfl hl.1 rfl (Nat.le_of_ble_eq_true rfl) dL_law_564 (fun v9 H locs f1 h3 hF hB => ?_)
  obtain ⟨y2, rfl, ry2, h3⟩ := h3
  refine W.eq (g2 := F0 m 567 ls [.int (q_i y2)]) rfl ?_
  have qy2 := h3
  have z4 : q_z f1 x 9 = 0 := (hF.z hx (by rw [kx]; rfl)).trans hf0
  have z5 : q_z f1 src 1 = 0 := (hF.z hsrc (by rw [ksrc]; rfl)).trans hf1
  have z6 : q_z f1 src 2 = 0 := (hF.z hsrc (by rw [ksrc]; rfl)).trans hf2
  have z7 : q_z f1 src 3 = (-1) := (hF.z hsrc (by rw [ksrc]; rfl)).trans hf3
  have z8 : q_z f1 hist 1 = 0 := (hF.z hhist (by rw [khist]; rfl)).trans hf4
  have z9 : q_z f1 hist 2 = 0 := (hF.z hhist (by rw [khist]; rfl)).trans hf5
  have z10 : q_z f1 rep 1 = 0 := (hF.z hrep (by rw [krep]; rfl)).trans hf6
  have z11 : q_z f1 now 3 = 0 := (hF.z hnow (by rw [know]; rfl)).trans hf7
  have z12 : q_z f1 now 4 = 0 := (hF.z hnow (by rw [know]; rfl)).trans hf8
  have z13 : q_z f1 now 5 = 0 := (hF.z hnow (by rw [know]; rfl)).trans hf9
  have z14 : q_z f1 now 6 = 12 := (hF.z hnow (by rw [know]; rfl)).trans hf10
  have z15 : q_z f1 now 10 = 3 := (hF.z hnow (by rw [know]; rfl)).trans hf11
  have z16 : q_z f1 now 11 = 0 := (hF.z hnow (by rw [know]; rfl)).trans hf12
  have z17 : q_z f1 now 12 = 0 := (hF.z hnow (by rw [know]; rfl)).trans hf13
  have z18 : q_z f1 mo 2 = 0 := (hF.z hmo (by rw [kmo]; rfl)).trans hf14
  have z19 : q_z f1 mo 8 = 0 := (hF.z hmo (by rw [kmo]; rfl)).trans hf15
  have z20 : q_z f1 mo 9 = (-1) := (hF.z hmo (by rw [kmo]; rfl)).trans hf16
  have z21 : q_z f1 mo 10 = 0 := (hF.z hmo (by rw [kmo]; rfl)).trans hf17
  have z22 : q_z f1 mo 11 = (-1) := (hF.z hmo (by rw [kmo]; rfl)).trans hf18
  have z23 : q_z f1 mo 21 = 0 := (hF.z hmo (by rw [kmo]; rfl)).trans hf19
  have z24 : q_z f1 mo 22 = 0 := (hF.z hmo (by rw [kmo]; rfl)).trans hf20
  have z25 : q_z f1 mo 40 = 0 := (hF.z hmo (by rw [kmo]; rfl)).trans hf21
  have z26 : q_z f1 sr 0 = 0 := (hF.z hsr (by rw [ksr]; rfl)).trans hf22
  have z27 : q_z f1 sr 1 = 0 := (hF.z hsr (by rw [ksr]; rfl)).trans hf23
  have z28 : q_z f1 sr 2 = 12 := (hF.z hsr (by rw [ksr]; rfl)).trans hf24
  have z29 : q_z f1 sr 3 = 0 := (hF.z hsr (by rw [ksr]; rfl)).trans hf25
  have z30 : q_z f1 sr 4 = 0 := (hF.z hsr (by rw [ksr]; rfl)).trans hf26
  have z31 : q_z f1 sr 5 = 1 := (hF.z hsr (by rw [ksr]; rfl)).trans hf27
  have z32 : q_z f1 sr 6 = 2 := (hF.z hsr (by rw [ksr]; rfl)).trans hf28
  have z33 : q_z f1 sr 7 = 5 := (hF.z hsr (by rw [ksr]; rfl)).trans hf29
  have z34 : q_z f1 sr 8 = 3 := (hF.z hsr (by rw [ksr]; rfl)).trans hf30
  have z35 : q_z f1 sr 9 = 0 := (hF.z hsr (by rw [ksr]; rfl)).trans hf31
  have z36 : q_r f1 x 0 = src := (hF.r hx (by rw [kx]; rfl)).trans hr0
  have z37 : q_r f1 x 1 = rdr := (hF.r hx (by rw [kx]; rfl)).trans hr1
  have z38 : q_r f1 x 2 = scr := (hF.r hx (by rw [kx]; rfl)).trans hr2
  have z39 : q_r f1 x 3 = fc := (hF.r hx (by rw [kx]; rfl)).trans hr3
  have z40 : q_r f1 x 4 = hist := (hF.r hx (by rw [kx]; rfl)).trans hr4
  have z41 : q_r f1 x 5 = rep := (hF.r hx (by rw [kx]; rfl)).trans hr5
  have z42 : q_r f1 x 6 = now := (hF.r hx (by rw [kx]; rfl)).trans hr6
  have z43 : q_r f1 x 7 = dr := (hF.r hx (by rw [kx]; rfl)).trans hr7
  have z44 : q_r f1 x 8 = sv := (hF.r hx (by rw [kx]; rfl)).trans hr8
  have z45 : q_r f1 fc 0 = tr := (hF.r hfc (by rw [kfc]; rfl)).trans hr9
  have z46 : q_r f1 mo 1 = bu := (hF.r hmo (by rw [kmo]; rfl)).trans hr10
  have z47 : q_r f1 mo 13 = sr := (hF.r hmo (by rw [kmo]; rfl)).trans hr11
  have z48 : q_r f1 mo 14 = sd := (hF.r hmo (by rw [kmo]; rfl)).trans hr12
  have z49 : q_r f1 mo 15 = as := (hF.r hmo (by rw [kmo]; rfl)).trans hr13
  have z50 : q_r f1 mo 16 = aw := (hF.r hmo (by rw [kmo]; rfl)).trans hr14
  have z51 : q_r f1 mo 17 = pa := (hF.r hmo (by rw [kmo]; rfl)).trans hr15
  have z52 : q_r f1 mo 18 = nm := (hF.r hmo (by rw [kmo]; rfl)).trans hr16
  have z53 : q_r f1 mo 19 = snm := (hF.r hmo (by rw [kmo]; rfl)).trans hr17
  have z54 : q_r f1 mo 20 = anm := (hF.r hmo (by rw [kmo]; rfl)).trans hr18
  subst qy2
  refine lv_istore (lv' := [(6, .int (q_i 1)), (5, .int (q_i 0)), (0, .ref b), (1, .ref x), (2, .ref mo), (3, .ref out), (4, .ref outD)]) cx.1 cx.2.1 dL_law_567 hl (by decide) rfl (fun ls hl => ?_)
  refine q_ald_n cx dL_law_569 rfl (lv_at hl 4 rfl) ?_
  refine q_ald_n cx dL_law_570 rfl (lv_at hl 2 rfl) ?_
  refine lv_iload cx.1 cx.2.1 dL_law_571 (lv_at hl 1 rfl) ?_
  refine q_iconst cx dL_law_573 ?_
  refine q_iadd cx dL_law_574 ?_
  refine va_sld cx.1 cx.2.1 hXs hbl hbA hB.1.2.2.2 (q_in (by decide) (by decide) (by decide)) dL_law_575 ?_
  rw [show (q_i (0 + 1)).toNatClampNeg = 1 from by decide, ex1]
  refine q_ald_n cx dL_law_576 rfl (lv_at hl 2 rfl) ?_
  refine lv_iload cx.1 cx.2.1 dL_law_577 (lv_at hl 1 rfl) ?_
  refine q_iconst cx dL_law_579 ?_
  refine q_iadd cx dL_law_580 ?_
  refine va_sld cx.1 cx.2.1 hXs hbl hbA hB.1.2.2.2 (q_in (by decide) (by decide) (by decide)) dL_law_581 ?_
  rw [show (q_i (0 + 2)).toNatClampNeg = 2 from by decide, ex2]
  refine q_cVi (As := [.int (q_i x1), .int (q_i x2)]) (rest := []) cx hB (fun q h => hLA q h) hN hmo kmo (by decide) rfl (p_node l g hN hB.2.1 mo hmo kmo x1 (by omega) (by omega) x2 (by omega) (by omega) bu hbu kbu sr hsr ksr sd hsd ksd as has kas aw haw kaw pa hpa kpa nm hnm knm snm hsnm ksnm anm hanm kanm z18 z19 z20 z21 z22 z23 z24 z25 z26 z27 z28 z29 z30 z31 z32 z33 z34 z35 z46 z47 z48 z49 z50 z51 z52 z53 z54) q_cL_152 q_dX12_node (by decide) rfl rfl hl.1 rfl (Nat.le_of_ble_eq_true rfl) dL_law_582 (fun y56 H locs f55 ry56 h57 hF hB => ?_)
  obtain ⟨qy56, z58⟩ := h57
  have z59 : q_z f55 x 9 = 0 := (hF.z hx (by rw [kx]; rfl)).trans z4
  have z60 : q_z f55 src 1 = 0 := (hF.z hsrc (by rw [ksrc]; rfl)).trans z5
  have z61 : q_z f55 src 2 = 0 := (hF.z hsrc (by rw [ksrc]; rfl)).trans z6
  have z62 : q_z f55 src 3 = (-1) := (hF.z hsrc (by rw [ksrc]; rfl)).trans z7
  have z63 : q_z f55 hist 1 = 0 := (hF.z hhist (by rw [khist]; rfl)).trans z8
  have z64 : q_z f55 hist 2 = 0 := (hF.z hhist (by rw [khist]; rfl)).trans z9
  have z65 : q_z f55 rep 1 = 0 := (hF.z hrep (by rw [krep]; rfl)).trans z10
  have z66 : q_z f55 now 3 = 0 := (hF.z hnow (by rw [know]; rfl)).trans z11
  have z67 : q_z f55 now 4 = 0 := (hF.z hnow (by rw [know]; rfl)).trans z12
  have z68 : q_z f55 now 5 = 0 := (hF.z hnow (by rw [know]; rfl)).trans z13
  have z69 : q_z f55 now 6 = 12 := (hF.z hnow (by rw [know]; rfl)).trans z14
  have z70 : q_z f55 now 10 = 3 := (hF.z hnow (by rw [know]; rfl)).trans z15
  have z71 : q_z f55 now 11 = 0 := (hF.z hnow (by rw [know]; rfl)).trans z16
  have z72 : q_z f55 now 12 = 0 := (hF.z hnow (by rw [know]; rfl)).trans z17
  have z73 : q_r f55 x 0 = src := (hF.r hx (by rw [kx]; rfl)).trans z36
  have z74 : q_r f55 x 1 = rdr := (hF.r hx (by rw [kx]; rfl)).trans z37
  have z75 : q_r f55 x 2 = scr := (hF.r hx (by rw [kx]; rfl)).trans z38
  have z76 : q_r f55 x 3 = fc := (hF.r hx (by rw [kx]; rfl)).trans z39
  have z77 : q_r f55 x 4 = hist := (hF.r hx (by rw [kx]; rfl)).trans z40
  have z78 : q_r f55 x 5 = rep := (hF.r hx (by rw [kx]; rfl)).trans z41
  have z79 : q_r f55 x 6 = now := (hF.r hx (by rw [kx]; rfl)).trans z42
  have z80 : q_r f55 x 7 = dr := (hF.r hx (by rw [kx]; rfl)).trans z43
  have z81 : q_r f55 x 8 = sv := (hF.r hx (by rw [kx]; rfl)).trans z44
  have z82 : q_r f55 fc 0 = tr := (hF.r hfc (by rw [kfc]; rfl)).trans z45
  subst qy56
  refine lv_istore (lv' := [(7, .int (q_i 0)), (6, .int (q_i 1)), (5, .int (q_i 0)), (0, .ref b), (1, .ref x), (2, .ref mo), (3, .ref out), (4, .ref outD)]) cx.1 cx.2.1 dL_law_585 hl (by decide) rfl (fun ls hl => ?_)
  refine q_ald_n cx dL_law_587 rfl (lv_at hl 5 rfl) ?_
  refine q_cVi (As := []) (rest := []) cx hB (fun q h => hLA q h) hN hmo kmo (by decide) rfl (r_thrown l g hN hB.2.1 mo hmo kmo 1 (by decide) (by decide) z58) q_cL_124 q_dX12_thrown (by decide) rfl rfl hl.1 rfl (Nat.le_of_ble_eq_true rfl) dL_law_588 (fun y84 H locs f83 ry84 h85 hF hB => ?_)
  obtain ⟨rfl, qy84⟩ := h85
  subst qy84
  refine lv_iload cx.1 cx.2.1 dL_law_591 (lv_at hl 1 rfl) ?_
  refine q_iceq (tgt := 598) cx ⟨by decide, by decide⟩ ⟨by decide, by decide⟩ dL_law_593 (by decide) (fun c86 => ?_) (fun c86 => ?_)
  · refine lv_iload cx.1 cx.2.1 dL_law_598 (lv_at hl 1 rfl) ?_
    refine q_ifne (tgt := 615) cx ⟨by decide, by decide⟩ dL_law_600 (by decide) (fun c87 => ?_) (fun c87 => ?_)
    · refine lv_goto (tgt := 2394) cx.1 cx.2.1 dL_law_615 (by decide) ?_
      refine q_iinc (lv' := [(5, .int (q_i (0 + 6))), (7, .int (q_i 0)), (6, .int (q_i 1)), (0, .ref b), (1, .ref x), (2, .ref mo), (3, .ref out), (4, .ref outD)]) cx dL_law_2394 hl (k := 2) rfl (by decide) rfl (fun ls hl => ?_)
      refine lv_goto (tgt := 28) cx.1 cx.2.1 dL_law_2397 (by decide) ?_
      refine lv_iload cx.1 cx.2.1 dL_law_28 (lv_at hl 0 rfl) ?_
      refine q_ald_n cx dL_law_30 rfl (lv_at hl 3 rfl) ?_
      refine va_slen cx.1 cx.2.1 hXs hbl hbA hB.1.2.2.2 dL_law_31 ?_
      rw [show Int32.ofNat 6 = q_i 6 from by decide]
      refine q_bipush cx dL_law_32 rfl ?_
      refine q_isub cx dL_law_34 ?_
      refine q_icgt (tgt := 2400) cx ⟨by decide, by decide⟩ ⟨by decide, by decide⟩ dL_law_35 (by decide) (fun c88 => ?_) (fun c88 => ?_)
      · refine q_iconst cx dL_law_2400 ?_
        exact q_lawret C0 hB (by decide) (by decide) dL_law_2401
      · exact absurd c88 (by omega)
    · exact absurd c87 (by omega)
  · exact absurd c86 (by omega)
set_option maxHeartbeats 4000000 in
set_option maxRecDepth 100000 in
theorem law_c618 {p : Program} {l : Launch} {e : Env} {s : State} {m : MethodId} {below : List Frame} {meth : Method} {c : Code} {b : Nat} {xs : Nat → Int32} (hfl : l.stackTraces = false) (C0 : lw_At p s m meth c b 6 xs) (cx : CallFix p m c cL_law 10 s #[Value.ref b] q_al RL) {g : q_G} {K : Nat → Nat} {L : List Nat} {f : Nat → va_E} {H : Heap} {locs : List Loc} {ls : Array Slot} (hN : L.Nodup) (hLA : ∀ q, q ∈ L → s.heap.size ≤ q) (hX : q_X (fun q => q ∈ L) s) (hB : q_B g K L (fun q => s.heap.size ≤ q) [(2, 1, 2), (6, 1, 1), (7, 1, 4), (8, 1, 9), (9, 0, 2), (10, 3, 15), (11, 9, 9), (12, 0, 40), (13, 3, 15), (14, 3, 15), (15, 3, 15), (16, 3, 15), (142, 0, 599), (150, 0, 599), (151, 0, 657), (152, 0, 657), (153, 0, 657), (154, 0, 657), (155, 0, 3947), (156, 0, 9), (157, 0, 9), (158, 0, 9), (168, 0, 0), (169, 0, 0)] f f s H locs) {x : Nat} (hx : x ∈ L) (kx : K x = 11) {src : Nat} (hsrc : src ∈ L) (ksrc : K src = 8) {rdr : Nat} (hrdr : rdr ∈ L) (krdr : K rdr = 9) {scr : Nat} (hscr : scr ∈ L) (kscr : K scr = 7) {fc : Nat} (hfc : fc ∈ L) (kfc : K fc = 1) {hist : Nat} (hhist : hist ∈ L) (khist : K hist = 2) {rep : Nat} (hrep : rep ∈ L) (krep : K rep = 6) {now : Nat} (hnow : now ∈ L) (know : K now = 10) {dr : Nat} (hdr : dr ∈ L) (kdr : K dr = 13) {sv : Nat} (hsv : sv ∈ L) (ksv : K sv = 14) {tr : Nat} (htr : tr ∈ L) (ktr : K tr = 15) {mo : Nat} (hmo : mo ∈ L) (kmo : K mo = 12) {bu : Nat} (hbu : bu ∈ L) (kbu : K bu = 150) {sr : Nat} (hsr : sr ∈ L) (ksr : K sr = 151) {sd : Nat} (hsd : sd ∈ L) (ksd : K sd = 152) {as : Nat} (has : as ∈ L) (kas : K as = 153) {aw : Nat} (haw : aw ∈ L) (kaw : K aw = 154) {pa : Nat} (hpa : pa ∈ L) (kpa : K pa = 155) {nm : Nat} (hnm : nm ∈ L) (knm : K nm = 156) {snm : Nat} (hsnm : snm ∈ L) (ksnm : K snm = 157) {anm : Nat} (hanm : anm ∈ L) (kanm : K anm = 158) {out : Nat} (hout : out ∈ L) (kout : K out = 168) {outD : Nat} (houtD : outD ∈ L) (koutD : K outD = 169) (hf0 : q_z f x 9 = 0) (hf1 : q_z f src 1 = 0) (hf2 : q_z f src 2 = 0) (hf3 : q_z f src 3 = (-1)) (hf4 : q_z f hist 1 = 0) (hf5 : q_z f hist 2 = 0) (hf6 : q_z f rep 1 = 0) (hf7 : q_z f now 3 = 0) (hf8 : q_z f now 4 = 0) (hf9 : q_z f now 5 = 0) (hf10 : q_z f now 6 = 12) (hf11 : q_z f now 10 = 3) (hf12 : q_z f now 11 = 0) (hf13 : q_z f now 12 = 0) (hf14 : q_z f mo 2 = 0) (hf15 : q_z f mo 8 = 0) (hf16 : q_z f mo 9 = (-1)) (hf17 : q_z f mo 10 = 0) (hf18 : q_z f mo 11 = (-1)) (hf19 : q_z f mo 21 = 0) (hf20 : q_z f mo 22 = 0) (hf21 : q_z f mo 40 = 0) (hf22 : q_z f sr 0 = 0) (hf23 : q_z f sr 1 = 0) (hf24 : q_z f sr 2 = 12) (hf25 : q_z f sr 3 = 0) (hf26 : q_z f sr 4 = 0) (hf27 : q_z f sr 5 = 1) (hf28 : q_z f sr 6 = 2) (hf29 : q_z f sr 7 = 5) (hf30 : q_z f sr 8 = 3) (hf31 : q_z f sr 9 = 0) (hr0 : q_r f x 0 = src) (hr1 : q_r f x 1 = rdr) (hr2 : q_r f x 2 = scr) (hr3 : q_r f x 3 = fc) (hr4 : q_r f x 4 = hist) (hr5 : q_r f x 5 = rep) (hr6 : q_r f x 6 = now) (hr7 : q_r f x 7 = dr) (hr8 : q_r f x 8 = sv) (hr9 : q_r f fc 0 = tr) (hr10 : q_r f mo 1 = bu) (hr11 : q_r f mo 13 = sr) (hr12 : q_r f mo 14 = sd) (hr13 : q_r f mo 15 = as) (hr14 : q_r f mo 16 = aw) (hr15 : q_r f mo 17 = pa) (hr16 : q_r f mo 18 = nm) (hr17 : q_r f mo 19 = snm) (hr18 : q_r f mo 20 = anm) (hl : lv_has ls 10 [(5, .int (q_i 0)), (0, .ref b), (1, .ref x), (2, .ref mo), (3, .ref out), (4, .ref outD)]) : W p l e room_1 s m #[Value.ref b] below meth c H locs 1100 20000 (lw_Z below #[Value.ref b] s) (F0 m 618 ls []) := by
  have hXs := C0.2.2.2.2.2.2.1
  have hbl := C0.2.2.2.2.2.2.2.1
  have hbA := q_bA hbl
  obtain ⟨x0, rx0, ex0⟩ : ∃ z : Int, q_R z ∧ xs 0 = q_i z := ⟨_, q_rng _, (q_of _).symm⟩
  have lx0 := rx0.1
  have ux0 := rx0.2
  obtain ⟨x1, rx1, ex1⟩ : ∃ z : Int, q_R z ∧ xs 1 = q_i z := ⟨_, q_rng _, (q_of _).symm⟩
  have lx1 := rx1.1
  have ux1 := rx1.2
  obtain ⟨x2, rx2, ex2⟩ : ∃ z : Int, q_R z ∧ xs 2 = q_i z := ⟨_, q_rng _, (q_of _).symm⟩
  have lx2 := rx2.1
  have ux2 := rx2.2
  obtain ⟨x3, rx3, ex3⟩ : ∃ z : Int, q_R z ∧ xs 3 = q_i z := ⟨_, q_rng _, (q_of _).symm⟩
  have lx3 := rx3.1
  have ux3 := rx3.2
  obtain ⟨x4, rx4, ex4⟩ : ∃ z : Int, q_R z ∧ xs 4 = q_i z := ⟨_, q_rng _, (q_of _).symm⟩
  have lx4 := rx4.1
  have ux4 := rx4.2
  obtain ⟨x5, rx5, ex5⟩ : ∃ z : Int, q_R z ∧ xs 5 = q_i z := ⟨_, q_rng _, (q_of _).symm⟩
  have lx5 := rx5.1
  have ux5 := rx5.2
  refine q_ald_n cx dL_law_618 rfl (lv_at hl 2 rfl) ?_
  refine q_ald_n cx dL_law_619 rfl (lv_at hl 1 rfl) ?_
  refine lv_iload cx.1 cx.2.1 dL_law_620 (lv_at hl 0 rfl) ?_
  refine q_iconst cx dL_law_622 ?_
  refine q_iadd cx dL_law_623 ?_
  refine va_sld cx.1 cx.2.1 hXs hbl hbA hB.1.2.2.2 (q_in (by decide) (by decide) (by decide)) dL_law_624 ?_
  rw [show (q_i (0 + 1)).toNatClampNeg = 1 from by decide, ex1]
  refine q_ald_n cx dL_law_625 rfl (lv_at hl 1 rfl) ?_
  refine lv_iload cx.1 cx.2.1 dL_law_626 (lv_at hl 0 rfl) ?_
  refine q_iconst cx dL_law_628 ?_
  refine q_iadd cx dL_law_629 ?_
  refine va_sld cx.1 cx.2.1 hXs hbl hbA hB.1.2.2.2 (q_in (by decide) (by decide) (by decide)) dL_law_630 ?_
  rw [show (q_i (0 + 2)).toNatClampNeg = 2 from by decide, ex2]
  refine q_ald_n cx dL_law_631 rfl (lv_at hl 4 rfl) ?_
  by_cases c1 : x1 ≤ (-1)
  · refine q_cWS (As := [.ref x, .int (q_i x1), .int (q_i x2), .ref out]) (rest := []) cx hX hB (fun q h => hLA q h) (fun q h1 h2 => absurd h1 (Nat.not_le_of_lt h2)) hN (w_linka l g hN hB.2.1 hfl x hx kx x1 (by omega) (by omega) x2 (by omega) (by omega) out hout kout src hsrc ksrc rdr hrdr krdr scr hscr kscr fc hfc kfc hist hhist khist rep hrep krep now hnow know dr hdr kdr sv hsv ksv tr htr ktr hf0 hf1 hf2 hf3 hf4 hf5 hf6 hf7 hf8 hf9 hf10 hf11 hf12 hf13 hr0 hr1 hr2 hr3 hr4 hr5 hr6 hr7 hr8 hr9) q_cL_153 q_dL_link (by decide) rfl rfl hl.1 rfl (Nat.le_of_ble_eq_true rfl) dL_law_632 (fun v9 H locs f2 h4 hF hB => ?_)
    obtain ⟨y3, rfl, ry3, h4⟩ := h4
    refine W.eq (g2 := F0 m 635 ls [.int (q_i y3)]) rfl ?_
    have qy3 := h4
    have z5 : q_z f2 x 9 = 0 := (hF.z hx (by rw [kx]; rfl)).trans hf0
    have z6 : q_z f2 src 1 = 0 := (hF.z hsrc (by rw [ksrc]; rfl)).trans hf1
    have z7 : q_z f2 src 2 = 0 := (hF.z hsrc (by rw [ksrc]; rfl)).trans hf2
    have z8 : q_z f2 src 3 = (-1) := (hF.z hsrc (by rw [ksrc]; rfl)).trans hf3
    have z9 : q_z f2 hist 1 = 0 := (hF.z hhist (by rw [khist]; rfl)).trans hf4
    have z10 : q_z f2 hist 2 = 0 := (hF.z hhist (by rw [khist]; rfl)).trans hf5
    have z11 : q_z f2 rep 1 = 0 := (hF.z hrep (by rw [krep]; rfl)).trans hf6
    have z12 : q_z f2 now 3 = 0 := (hF.z hnow (by rw [know]; rfl)).trans hf7
    have z13 : q_z f2 now 4 = 0 := (hF.z hnow (by rw [know]; rfl)).trans hf8
    have z14 : q_z f2 now 5 = 0 := (hF.z hnow (by rw [know]; rfl)).trans hf9
    have z15 : q_z f2 now 6 = 12 := (hF.z hnow (by rw [know]; rfl)).trans hf10
    have z16 : q_z f2 now 10 = 3 := (hF.z hnow (by rw [know]; rfl)).trans hf11
    have z17 : q_z f2 now 11 = 0 := (hF.z hnow (by rw [know]; rfl)).trans hf12
    have z18 : q_z f2 now 12 = 0 := (hF.z hnow (by rw [know]; rfl)).trans hf13
    have z19 : q_z f2 mo 2 = 0 := (hF.z hmo (by rw [kmo]; rfl)).trans hf14
    have z20 : q_z f2 mo 8 = 0 := (hF.z hmo (by rw [kmo]; rfl)).trans hf15
    have z21 : q_z f2 mo 9 = (-1) := (hF.z hmo (by rw [kmo]; rfl)).trans hf16
    have z22 : q_z f2 mo 10 = 0 := (hF.z hmo (by rw [kmo]; rfl)).trans hf17
    have z23 : q_z f2 mo 11 = (-1) := (hF.z hmo (by rw [kmo]; rfl)).trans hf18
    have z24 : q_z f2 mo 21 = 0 := (hF.z hmo (by rw [kmo]; rfl)).trans hf19
    have z25 : q_z f2 mo 22 = 0 := (hF.z hmo (by rw [kmo]; rfl)).trans hf20
    have z26 : q_z f2 mo 40 = 0 := (hF.z hmo (by rw [kmo]; rfl)).trans hf21
    have z27 : q_z f2 sr 0 = 0 := (hF.z hsr (by rw [ksr]; rfl)).trans hf22
    have z28 : q_z f2 sr 1 = 0 := (hF.z hsr (by rw [ksr]; rfl)).trans hf23
    have z29 : q_z f2 sr 2 = 12 := (hF.z hsr (by rw [ksr]; rfl)).trans hf24
    have z30 : q_z f2 sr 3 = 0 := (hF.z hsr (by rw [ksr]; rfl)).trans hf25
    have z31 : q_z f2 sr 4 = 0 := (hF.z hsr (by rw [ksr]; rfl)).trans hf26
    have z32 : q_z f2 sr 5 = 1 := (hF.z hsr (by rw [ksr]; rfl)).trans hf27
    have z33 : q_z f2 sr 6 = 2 := (hF.z hsr (by rw [ksr]; rfl)).trans hf28
    have z34 : q_z f2 sr 7 = 5 := (hF.z hsr (by rw [ksr]; rfl)).trans hf29
    have z35 : q_z f2 sr 8 = 3 := (hF.z hsr (by rw [ksr]; rfl)).trans hf30
    have z36 : q_z f2 sr 9 = 0 := (hF.z hsr (by rw [ksr]; rfl)).trans hf31
    have z37 : q_r f2 x 0 = src := (hF.r hx (by rw [kx]; rfl)).trans hr0
    have z38 : q_r f2 x 1 = rdr := (hF.r hx (by rw [kx]; rfl)).trans hr1
    have z39 : q_r f2 x 2 = scr := (hF.r hx (by rw [kx]; rfl)).trans hr2
    have z40 : q_r f2 x 3 = fc := (hF.r hx (by rw [kx]; rfl)).trans hr3
    have z41 : q_r f2 x 4 = hist := (hF.r hx (by rw [kx]; rfl)).trans hr4
    have z42 : q_r f2 x 5 = rep := (hF.r hx (by rw [kx]; rfl)).trans hr5
    have z43 : q_r f2 x 6 = now := (hF.r hx (by rw [kx]; rfl)).trans hr6
    have z44 : q_r f2 x 7 = dr := (hF.r hx (by rw [kx]; rfl)).trans hr7
    have z45 : q_r f2 x 8 = sv := (hF.r hx (by rw [kx]; rfl)).trans hr8
    have z46 : q_r f2 fc 0 = tr := (hF.r hfc (by rw [kfc]; rfl)).trans hr9
    have z47 : q_r f2 mo 1 = bu := (hF.r hmo (by rw [kmo]; rfl)).trans hr10
    have z48 : q_r f2 mo 13 = sr := (hF.r hmo (by rw [kmo]; rfl)).trans hr11
    have z49 : q_r f2 mo 14 = sd := (hF.r hmo (by rw [kmo]; rfl)).trans hr12
    have z50 : q_r f2 mo 15 = as := (hF.r hmo (by rw [kmo]; rfl)).trans hr13
    have z51 : q_r f2 mo 16 = aw := (hF.r hmo (by rw [kmo]; rfl)).trans hr14
    have z52 : q_r f2 mo 17 = pa := (hF.r hmo (by rw [kmo]; rfl)).trans hr15
    have z53 : q_r f2 mo 18 = nm := (hF.r hmo (by rw [kmo]; rfl)).trans hr16
    have z54 : q_r f2 mo 19 = snm := (hF.r hmo (by rw [kmo]; rfl)).trans hr17
    have z55 : q_r f2 mo 20 = anm := (hF.r hmo (by rw [kmo]; rfl)).trans hr18
    subst qy3
    refine lv_istore (lv' := [(6, .int (q_i 1)), (5, .int (q_i 0)), (0, .ref b), (1, .ref x), (2, .ref mo), (3, .ref out), (4, .ref outD)]) cx.1 cx.2.1 dL_law_635 hl (by decide) rfl (fun ls hl => ?_)
    refine q_ald_n cx dL_law_637 rfl (lv_at hl 4 rfl) ?_
    refine q_ald_n cx dL_law_638 rfl (lv_at hl 2 rfl) ?_
    refine lv_iload cx.1 cx.2.1 dL_law_639 (lv_at hl 1 rfl) ?_
    refine q_iconst cx dL_law_641 ?_
    refine q_iadd cx dL_law_642 ?_
    refine va_sld cx.1 cx.2.1 hXs hbl hbA hB.1.2.2.2 (q_in (by decide) (by decide) (by decide)) dL_law_643 ?_
    rw [show (q_i (0 + 1)).toNatClampNeg = 1 from by decide, ex1]
    refine q_ald_n cx dL_law_644 rfl (lv_at hl 2 rfl) ?_
    refine lv_iload cx.1 cx.2.1 dL_law_645 (lv_at hl 1 rfl) ?_
    refine q_iconst cx dL_law_647 ?_
    refine q_iadd cx dL_law_648 ?_
    refine va_sld cx.1 cx.2.1 hXs hbl hbA hB.1.2.2.2 (q_in (by decide) (by decide) (by decide)) dL_law_649 ?_
    rw [show (q_i (0 + 2)).toNatClampNeg = 2 from by decide, ex2]
    refine q_cVi (As := [.int (q_i x1), .int (q_i x2)]) (rest := []) cx hB (fun q h => hLA q h) hN hmo kmo (by decide) rfl (p_link l g hN hB.2.1 mo hmo kmo x1 (by omega) (by omega) x2 (by omega) (by omega) bu hbu kbu sr hsr ksr sd hsd ksd as has kas aw haw kaw pa hpa kpa nm hnm knm snm hsnm ksnm anm hanm kanm z19 z20 z21 z22 z23 z24 z25 z26 z27 z28 z29 z30 z31 z32 z33 z34 z35 z36 z47 z48 z49 z50 z51 z52 z53 z54 z55) q_cL_155 q_dX12_link (by decide) rfl rfl hl.1 rfl (Nat.le_of_ble_eq_true rfl) dL_law_650 (fun y57 H locs f56 ry57 h58 hF hB => ?_)
    obtain ⟨qy57, z59⟩ := h58
    have z60 : q_z f56 x 9 = 0 := (hF.z hx (by rw [kx]; rfl)).trans z5
    have z61 : q_z f56 src 1 = 0 := (hF.z hsrc (by rw [ksrc]; rfl)).trans z6
    have z62 : q_z f56 src 2 = 0 := (hF.z hsrc (by rw [ksrc]; rfl)).trans z7
    have z63 : q_z f56 src 3 = (-1) := (hF.z hsrc (by rw [ksrc]; rfl)).trans z8
    have z64 : q_z f56 hist 1 = 0 := (hF.z hhist (by rw [khist]; rfl)).trans z9
    have z65 : q_z f56 hist 2 = 0 := (hF.z hhist (by rw [khist]; rfl)).trans z10
    have z66 : q_z f56 rep 1 = 0 := (hF.z hrep (by rw [krep]; rfl)).trans z11
    have z67 : q_z f56 now 3 = 0 := (hF.z hnow (by rw [know]; rfl)).trans z12
    have z68 : q_z f56 now 4 = 0 := (hF.z hnow (by rw [know]; rfl)).trans z13
    have z69 : q_z f56 now 5 = 0 := (hF.z hnow (by rw [know]; rfl)).trans z14
    have z70 : q_z f56 now 6 = 12 := (hF.z hnow (by rw [know]; rfl)).trans z15
    have z71 : q_z f56 now 10 = 3 := (hF.z hnow (by rw [know]; rfl)).trans z16
    have z72 : q_z f56 now 11 = 0 := (hF.z hnow (by rw [know]; rfl)).trans z17
    have z73 : q_z f56 now 12 = 0 := (hF.z hnow (by rw [know]; rfl)).trans z18
    have z74 : q_r f56 x 0 = src := (hF.r hx (by rw [kx]; rfl)).trans z37
    have z75 : q_r f56 x 1 = rdr := (hF.r hx (by rw [kx]; rfl)).trans z38
    have z76 : q_r f56 x 2 = scr := (hF.r hx (by rw [kx]; rfl)).trans z39
    have z77 : q_r f56 x 3 = fc := (hF.r hx (by rw [kx]; rfl)).trans z40
    have z78 : q_r f56 x 4 = hist := (hF.r hx (by rw [kx]; rfl)).trans z41
    have z79 : q_r f56 x 5 = rep := (hF.r hx (by rw [kx]; rfl)).trans z42
    have z80 : q_r f56 x 6 = now := (hF.r hx (by rw [kx]; rfl)).trans z43
    have z81 : q_r f56 x 7 = dr := (hF.r hx (by rw [kx]; rfl)).trans z44
    have z82 : q_r f56 x 8 = sv := (hF.r hx (by rw [kx]; rfl)).trans z45
    have z83 : q_r f56 fc 0 = tr := (hF.r hfc (by rw [kfc]; rfl)).trans z46
    subst qy57
    refine lv_istore (lv' := [(7, .int (q_i 0)), (6, .int (q_i 1)), (5, .int (q_i 0)), (0, .ref b), (1, .ref x), (2, .ref mo), (3, .ref out), (4, .ref outD)]) cx.1 cx.2.1 dL_law_653 hl (by decide) rfl (fun ls hl => ?_)
    refine q_ald_n cx dL_law_655 rfl (lv_at hl 5 rfl) ?_
    refine q_cVi (As := []) (rest := []) cx hB (fun q h => hLA q h) hN hmo kmo (by decide) rfl (r_thrown l g hN hB.2.1 mo hmo kmo 1 (by decide) (by decide) z59) q_cL_124 q_dX12_thrown (by decide) rfl rfl hl.1 rfl (Nat.le_of_ble_eq_true rfl) dL_law_656 (fun y85 H locs f84 ry85 h86 hF hB => ?_)
    obtain ⟨rfl, qy85⟩ := h86
    subst qy85
    refine lv_iload cx.1 cx.2.1 dL_law_659 (lv_at hl 1 rfl) ?_
    refine q_iceq (tgt := 666) cx ⟨by decide, by decide⟩ ⟨by decide, by decide⟩ dL_law_661 (by decide) (fun c87 => ?_) (fun c87 => ?_)
    · refine lv_iload cx.1 cx.2.1 dL_law_666 (lv_at hl 1 rfl) ?_
      refine q_ifne (tgt := 683) cx ⟨by decide, by decide⟩ dL_law_668 (by decide) (fun c88 => ?_) (fun c88 => ?_)
      · refine lv_goto (tgt := 2394) cx.1 cx.2.1 dL_law_683 (by decide) ?_
        refine q_iinc (lv' := [(5, .int (q_i (0 + 6))), (7, .int (q_i 0)), (6, .int (q_i 1)), (0, .ref b), (1, .ref x), (2, .ref mo), (3, .ref out), (4, .ref outD)]) cx dL_law_2394 hl (k := 2) rfl (by decide) rfl (fun ls hl => ?_)
        refine lv_goto (tgt := 28) cx.1 cx.2.1 dL_law_2397 (by decide) ?_
        refine lv_iload cx.1 cx.2.1 dL_law_28 (lv_at hl 0 rfl) ?_
        refine q_ald_n cx dL_law_30 rfl (lv_at hl 3 rfl) ?_
        refine va_slen cx.1 cx.2.1 hXs hbl hbA hB.1.2.2.2 dL_law_31 ?_
        rw [show Int32.ofNat 6 = q_i 6 from by decide]
        refine q_bipush cx dL_law_32 rfl ?_
        refine q_isub cx dL_law_34 ?_
        refine q_icgt (tgt := 2400) cx ⟨by decide, by decide⟩ ⟨by decide, by decide⟩ dL_law_35 (by decide) (fun c89 => ?_) (fun c89 => ?_)
        · refine q_iconst cx dL_law_2400 ?_
          exact q_lawret C0 hB (by decide) (by decide) dL_law_2401
        · exact absurd c89 (by omega)
      · exact absurd c88 (by omega)
    · exact absurd c87 (by omega)
  · refine q_cWS (As := [.ref x, .int (q_i x1), .int (q_i x2), .ref out]) (rest := []) cx hX hB (fun q h => hLA q h) (fun q h1 h2 => absurd h1 (Nat.not_le_of_lt h2)) hN (w_linkb l g hN hB.2.1 hfl x hx kx x1 (by omega) (by omega) x2 (by omega) (by omega) out hout kout src hsrc ksrc rdr hrdr krdr scr hscr kscr fc hfc kfc hist hhist khist rep hrep krep now hnow know dr hdr kdr sv hsv ksv tr htr ktr hf0 hf1 hf2 hf3 hf4 hf5 hf6 hf7 hf8 hf9 hf10 hf11 hf12 hf13 hr0 hr1 hr2 hr3 hr4 hr5 hr6 hr7 hr8 hr9) q_cL_153 q_dL_link (by decide) rfl rfl hl.1 rfl (Nat.le_of_ble_eq_true rfl) dL_law_632 (fun v9 H locs f90 h92 hF hB => ?_)
    obtain ⟨y91, rfl, ry91, h92⟩ := h92
    refine W.eq (g2 := F0 m 635 ls [.int (q_i y91)]) rfl ?_
    have qy91 := h92
    have z93 : q_z f90 x 9 = 0 := (hF.z hx (by rw [kx]; rfl)).trans hf0
    have z94 : q_z f90 src 1 = 0 := (hF.z hsrc (by rw [ksrc]; rfl)).trans hf1
    have z95 : q_z f90 src 2 = 0 := (hF.z hsrc (by rw [ksrc]; rfl)).trans hf2
    have z96 : q_z f90 src 3 = (-1) := (hF.z hsrc (by rw [ksrc]; rfl)).trans hf3
    have z97 : q_z f90 hist 1 = 0 := (hF.z hhist (by rw [khist]; rfl)).trans hf4
    have z98 : q_z f90 hist 2 = 0 := (hF.z hhist (by rw [khist]; rfl)).trans hf5
    have z99 : q_z f90 rep 1 = 0 := (hF.z hrep (by rw [krep]; rfl)).trans hf6
    have z100 : q_z f90 now 3 = 0 := (hF.z hnow (by rw [know]; rfl)).trans hf7
    have z101 : q_z f90 now 4 = 0 := (hF.z hnow (by rw [know]; rfl)).trans hf8
    have z102 : q_z f90 now 5 = 0 := (hF.z hnow (by rw [know]; rfl)).trans hf9
    have z103 : q_z f90 now 6 = 12 := (hF.z hnow (by rw [know]; rfl)).trans hf10
    have z104 : q_z f90 now 10 = 3 := (hF.z hnow (by rw [know]; rfl)).trans hf11
    have z105 : q_z f90 now 11 = 0 := (hF.z hnow (by rw [know]; rfl)).trans hf12
    have z106 : q_z f90 now 12 = 0 := (hF.z hnow (by rw [know]; rfl)).trans hf13
    have z107 : q_z f90 mo 2 = 0 := (hF.z hmo (by rw [kmo]; rfl)).trans hf14
    have z108 : q_z f90 mo 8 = 0 := (hF.z hmo (by rw [kmo]; rfl)).trans hf15
    have z109 : q_z f90 mo 9 = (-1) := (hF.z hmo (by rw [kmo]; rfl)).trans hf16
    have z110 : q_z f90 mo 10 = 0 := (hF.z hmo (by rw [kmo]; rfl)).trans hf17
    have z111 : q_z f90 mo 11 = (-1) := (hF.z hmo (by rw [kmo]; rfl)).trans hf18
    have z112 : q_z f90 mo 21 = 0 := (hF.z hmo (by rw [kmo]; rfl)).trans hf19
    have z113 : q_z f90 mo 22 = 0 := (hF.z hmo (by rw [kmo]; rfl)).trans hf20
    have z114 : q_z f90 mo 40 = 0 := (hF.z hmo (by rw [kmo]; rfl)).trans hf21
    have z115 : q_z f90 sr 0 = 0 := (hF.z hsr (by rw [ksr]; rfl)).trans hf22
    have z116 : q_z f90 sr 1 = 0 := (hF.z hsr (by rw [ksr]; rfl)).trans hf23
    have z117 : q_z f90 sr 2 = 12 := (hF.z hsr (by rw [ksr]; rfl)).trans hf24
    have z118 : q_z f90 sr 3 = 0 := (hF.z hsr (by rw [ksr]; rfl)).trans hf25
    have z119 : q_z f90 sr 4 = 0 := (hF.z hsr (by rw [ksr]; rfl)).trans hf26
    have z120 : q_z f90 sr 5 = 1 := (hF.z hsr (by rw [ksr]; rfl)).trans hf27
    have z121 : q_z f90 sr 6 = 2 := (hF.z hsr (by rw [ksr]; rfl)).trans hf28
    have z122 : q_z f90 sr 7 = 5 := (hF.z hsr (by rw [ksr]; rfl)).trans hf29
    have z123 : q_z f90 sr 8 = 3 := (hF.z hsr (by rw [ksr]; rfl)).trans hf30
    have z124 : q_z f90 sr 9 = 0 := (hF.z hsr (by rw [ksr]; rfl)).trans hf31
    have z125 : q_r f90 x 0 = src := (hF.r hx (by rw [kx]; rfl)).trans hr0
    have z126 : q_r f90 x 1 = rdr := (hF.r hx (by rw [kx]; rfl)).trans hr1
    have z127 : q_r f90 x 2 = scr := (hF.r hx (by rw [kx]; rfl)).trans hr2
    have z128 : q_r f90 x 3 = fc := (hF.r hx (by rw [kx]; rfl)).trans hr3
    have z129 : q_r f90 x 4 = hist := (hF.r hx (by rw [kx]; rfl)).trans hr4
    have z130 : q_r f90 x 5 = rep := (hF.r hx (by rw [kx]; rfl)).trans hr5
    have z131 : q_r f90 x 6 = now := (hF.r hx (by rw [kx]; rfl)).trans hr6
    have z132 : q_r f90 x 7 = dr := (hF.r hx (by rw [kx]; rfl)).trans hr7
    have z133 : q_r f90 x 8 = sv := (hF.r hx (by rw [kx]; rfl)).trans hr8
    have z134 : q_r f90 fc 0 = tr := (hF.r hfc (by rw [kfc]; rfl)).trans hr9
    have z135 : q_r f90 mo 1 = bu := (hF.r hmo (by rw [kmo]; rfl)).trans hr10
    have z136 : q_r f90 mo 13 = sr := (hF.r hmo (by rw [kmo]; rfl)).trans hr11
    have z137 : q_r f90 mo 14 = sd := (hF.r hmo (by rw [kmo]; rfl)).trans hr12
    have z138 : q_r f90 mo 15 = as := (hF.r hmo (by rw [kmo]; rfl)).trans hr13
    have z139 : q_r f90 mo 16 = aw := (hF.r hmo (by rw [kmo]; rfl)).trans hr14
    have z140 : q_r f90 mo 17 = pa := (hF.r hmo (by rw [kmo]; rfl)).trans hr15
    have z141 : q_r f90 mo 18 = nm := (hF.r hmo (by rw [kmo]; rfl)).trans hr16
    have z142 : q_r f90 mo 19 = snm := (hF.r hmo (by rw [kmo]; rfl)).trans hr17
    have z143 : q_r f90 mo 20 = anm := (hF.r hmo (by rw [kmo]; rfl)).trans hr18
    subst qy91
    refine lv_istore (lv' := [(6, .int (q_i 1)), (5, .int (q_i 0)), (0, .ref b), (1, .ref x), (2, .ref mo), (3, .ref out), (4, .ref outD)]) cx.1 cx.2.1 dL_law_635 hl (by decide) rfl (fun ls hl => ?_)
    refine q_ald_n cx dL_law_637 rfl (lv_at hl 4 rfl) ?_
    refine q_ald_n cx dL_law_638 rfl (lv_at hl 2 rfl) ?_
    refine lv_iload cx.1 cx.2.1 dL_law_639 (lv_at hl 1 rfl) ?_
    refine q_iconst cx dL_law_641 ?_
    refine q_iadd cx dL_law_642 ?_
    refine va_sld cx.1 cx.2.1 hXs hbl hbA hB.1.2.2.2 (q_in (by decide) (by decide) (by decide)) dL_law_643 ?_
    rw [show (q_i (0 + 1)).toNatClampNeg = 1 from by decide, ex1]
    refine q_ald_n cx dL_law_644 rfl (lv_at hl 2 rfl) ?_
    refine lv_iload cx.1 cx.2.1 dL_law_645 (lv_at hl 1 rfl) ?_
    refine q_iconst cx dL_law_647 ?_
    refine q_iadd cx dL_law_648 ?_
    refine va_sld cx.1 cx.2.1 hXs hbl hbA hB.1.2.2.2 (q_in (by decide) (by decide) (by decide)) dL_law_649 ?_
    rw [show (q_i (0 + 2)).toNatClampNeg = 2 from by decide, ex2]
    refine q_cVi (As := [.int (q_i x1), .int (q_i x2)]) (rest := []) cx hB (fun q h => hLA q h) hN hmo kmo (by decide) rfl (p_link l g hN hB.2.1 mo hmo kmo x1 (by omega) (by omega) x2 (by omega) (by omega) bu hbu kbu sr hsr ksr sd hsd ksd as has kas aw haw kaw pa hpa kpa nm hnm knm snm hsnm ksnm anm hanm kanm z107 z108 z109 z110 z111 z112 z113 z114 z115 z116 z117 z118 z119 z120 z121 z122 z123 z124 z135 z136 z137 z138 z139 z140 z141 z142 z143) q_cL_155 q_dX12_link (by decide) rfl rfl hl.1 rfl (Nat.le_of_ble_eq_true rfl) dL_law_650 (fun y145 H locs f144 ry145 h146 hF hB => ?_)
    obtain ⟨qy145, z147⟩ := h146
    have z148 : q_z f144 x 9 = 0 := (hF.z hx (by rw [kx]; rfl)).trans z93
    have z149 : q_z f144 src 1 = 0 := (hF.z hsrc (by rw [ksrc]; rfl)).trans z94
    have z150 : q_z f144 src 2 = 0 := (hF.z hsrc (by rw [ksrc]; rfl)).trans z95
    have z151 : q_z f144 src 3 = (-1) := (hF.z hsrc (by rw [ksrc]; rfl)).trans z96
    have z152 : q_z f144 hist 1 = 0 := (hF.z hhist (by rw [khist]; rfl)).trans z97
    have z153 : q_z f144 hist 2 = 0 := (hF.z hhist (by rw [khist]; rfl)).trans z98
    have z154 : q_z f144 rep 1 = 0 := (hF.z hrep (by rw [krep]; rfl)).trans z99
    have z155 : q_z f144 now 3 = 0 := (hF.z hnow (by rw [know]; rfl)).trans z100
    have z156 : q_z f144 now 4 = 0 := (hF.z hnow (by rw [know]; rfl)).trans z101
    have z157 : q_z f144 now 5 = 0 := (hF.z hnow (by rw [know]; rfl)).trans z102
    have z158 : q_z f144 now 6 = 12 := (hF.z hnow (by rw [know]; rfl)).trans z103
    have z159 : q_z f144 now 10 = 3 := (hF.z hnow (by rw [know]; rfl)).trans z104
    have z160 : q_z f144 now 11 = 0 := (hF.z hnow (by rw [know]; rfl)).trans z105
    have z161 : q_z f144 now 12 = 0 := (hF.z hnow (by rw [know]; rfl)).trans z106
    have z162 : q_r f144 x 0 = src := (hF.r hx (by rw [kx]; rfl)).trans z125
    have z163 : q_r f144 x 1 = rdr := (hF.r hx (by rw [kx]; rfl)).trans z126
    have z164 : q_r f144 x 2 = scr := (hF.r hx (by rw [kx]; rfl)).trans z127
    have z165 : q_r f144 x 3 = fc := (hF.r hx (by rw [kx]; rfl)).trans z128
    have z166 : q_r f144 x 4 = hist := (hF.r hx (by rw [kx]; rfl)).trans z129
    have z167 : q_r f144 x 5 = rep := (hF.r hx (by rw [kx]; rfl)).trans z130
    have z168 : q_r f144 x 6 = now := (hF.r hx (by rw [kx]; rfl)).trans z131
    have z169 : q_r f144 x 7 = dr := (hF.r hx (by rw [kx]; rfl)).trans z132
    have z170 : q_r f144 x 8 = sv := (hF.r hx (by rw [kx]; rfl)).trans z133
    have z171 : q_r f144 fc 0 = tr := (hF.r hfc (by rw [kfc]; rfl)).trans z134
    subst qy145
    refine lv_istore (lv' := [(7, .int (q_i 0)), (6, .int (q_i 1)), (5, .int (q_i 0)), (0, .ref b), (1, .ref x), (2, .ref mo), (3, .ref out), (4, .ref outD)]) cx.1 cx.2.1 dL_law_653 hl (by decide) rfl (fun ls hl => ?_)
    refine q_ald_n cx dL_law_655 rfl (lv_at hl 5 rfl) ?_
    refine q_cVi (As := []) (rest := []) cx hB (fun q h => hLA q h) hN hmo kmo (by decide) rfl (r_thrown l g hN hB.2.1 mo hmo kmo 1 (by decide) (by decide) z147) q_cL_124 q_dX12_thrown (by decide) rfl rfl hl.1 rfl (Nat.le_of_ble_eq_true rfl) dL_law_656 (fun y173 H locs f172 ry173 h174 hF hB => ?_)
    obtain ⟨rfl, qy173⟩ := h174
    subst qy173
    refine lv_iload cx.1 cx.2.1 dL_law_659 (lv_at hl 1 rfl) ?_
    refine q_iceq (tgt := 666) cx ⟨by decide, by decide⟩ ⟨by decide, by decide⟩ dL_law_661 (by decide) (fun c175 => ?_) (fun c175 => ?_)
    · refine lv_iload cx.1 cx.2.1 dL_law_666 (lv_at hl 1 rfl) ?_
      refine q_ifne (tgt := 683) cx ⟨by decide, by decide⟩ dL_law_668 (by decide) (fun c176 => ?_) (fun c176 => ?_)
      · refine lv_goto (tgt := 2394) cx.1 cx.2.1 dL_law_683 (by decide) ?_
        refine q_iinc (lv' := [(5, .int (q_i (0 + 6))), (7, .int (q_i 0)), (6, .int (q_i 1)), (0, .ref b), (1, .ref x), (2, .ref mo), (3, .ref out), (4, .ref outD)]) cx dL_law_2394 hl (k := 2) rfl (by decide) rfl (fun ls hl => ?_)
        refine lv_goto (tgt := 28) cx.1 cx.2.1 dL_law_2397 (by decide) ?_
        refine lv_iload cx.1 cx.2.1 dL_law_28 (lv_at hl 0 rfl) ?_
        refine q_ald_n cx dL_law_30 rfl (lv_at hl 3 rfl) ?_
        refine va_slen cx.1 cx.2.1 hXs hbl hbA hB.1.2.2.2 dL_law_31 ?_
        rw [show Int32.ofNat 6 = q_i 6 from by decide]
        refine q_bipush cx dL_law_32 rfl ?_
        refine q_isub cx dL_law_34 ?_
        refine q_icgt (tgt := 2400) cx ⟨by decide, by decide⟩ ⟨by decide, by decide⟩ dL_law_35 (by decide) (fun c177 => ?_) (fun c177 => ?_)
        · refine q_iconst cx dL_law_2400 ?_
          exact q_lawret C0 hB (by decide) (by decide) dL_law_2401
        · exact absurd c177 (by omega)
      · exact absurd c176 (by omega)
    · exact absurd c175 (by omega)
set_option maxHeartbeats 4000000 in
set_option maxRecDepth 100000 in
theorem law_c686 {p : Program} {l : Launch} {e : Env} {s : State} {m : MethodId} {below : List Frame} {meth : Method} {c : Code} {b : Nat} {xs : Nat → Int32} (hfl : l.stackTraces = false) (C0 : lw_At p s m meth c b 6 xs) (cx : CallFix p m c cL_law 10 s #[Value.ref b] q_al RL) {g : q_G} {K : Nat → Nat} {L : List Nat} {f : Nat → va_E} {H : Heap} {locs : List Loc} {ls : Array Slot} (hN : L.Nodup) (hLA : ∀ q, q ∈ L → s.heap.size ≤ q) (hX : q_X (fun q => q ∈ L) s) (hB : q_B g K L (fun q => s.heap.size ≤ q) [(2, 1, 2), (6, 1, 1), (7, 1, 4), (8, 1, 9), (9, 0, 2), (10, 3, 15), (11, 9, 9), (12, 0, 40), (13, 3, 15), (14, 3, 15), (15, 3, 15), (16, 3, 15), (142, 0, 599), (150, 0, 599), (151, 0, 657), (152, 0, 657), (153, 0, 657), (154, 0, 657), (155, 0, 3947), (156, 0, 9), (157, 0, 9), (158, 0, 9), (168, 0, 0), (169, 0, 0)] f f s H locs) {x : Nat} (hx : x ∈ L) (kx : K x = 11) {src : Nat} (hsrc : src ∈ L) (ksrc : K src = 8) {rdr : Nat} (hrdr : rdr ∈ L) (krdr : K rdr = 9) {scr : Nat} (hscr : scr ∈ L) (kscr : K scr = 7) {fc : Nat} (hfc : fc ∈ L) (kfc : K fc = 1) {hist : Nat} (hhist : hist ∈ L) (khist : K hist = 2) {rep : Nat} (hrep : rep ∈ L) (krep : K rep = 6) {now : Nat} (hnow : now ∈ L) (know : K now = 10) {dr : Nat} (hdr : dr ∈ L) (kdr : K dr = 13) {sv : Nat} (hsv : sv ∈ L) (ksv : K sv = 14) {tr : Nat} (htr : tr ∈ L) (ktr : K tr = 15) {mo : Nat} (hmo : mo ∈ L) (kmo : K mo = 12) {bu : Nat} (hbu : bu ∈ L) (kbu : K bu = 150) {sr : Nat} (hsr : sr ∈ L) (ksr : K sr = 151) {sd : Nat} (hsd : sd ∈ L) (ksd : K sd = 152) {as : Nat} (has : as ∈ L) (kas : K as = 153) {aw : Nat} (haw : aw ∈ L) (kaw : K aw = 154) {pa : Nat} (hpa : pa ∈ L) (kpa : K pa = 155) {nm : Nat} (hnm : nm ∈ L) (knm : K nm = 156) {snm : Nat} (hsnm : snm ∈ L) (ksnm : K snm = 157) {anm : Nat} (hanm : anm ∈ L) (kanm : K anm = 158) {out : Nat} (hout : out ∈ L) (kout : K out = 168) {outD : Nat} (houtD : outD ∈ L) (koutD : K outD = 169) (hf0 : q_z f x 9 = 0) (hf1 : q_z f src 1 = 0) (hf2 : q_z f src 2 = 0) (hf3 : q_z f src 3 = (-1)) (hf4 : q_z f hist 1 = 0) (hf5 : q_z f hist 2 = 0) (hf6 : q_z f rep 1 = 0) (hf7 : q_z f now 3 = 0) (hf8 : q_z f now 4 = 0) (hf9 : q_z f now 5 = 0) (hf10 : q_z f now 6 = 12) (hf11 : q_z f now 10 = 3) (hf12 : q_z f now 11 = 0) (hf13 : q_z f now 12 = 0) (hf14 : q_z f mo 2 = 0) (hf15 : q_z f mo 8 = 0) (hf16 : q_z f mo 9 = (-1)) (hf17 : q_z f mo 10 = 0) (hf18 : q_z f mo 11 = (-1)) (hf19 : q_z f mo 21 = 0) (hf20 : q_z f mo 22 = 0) (hf21 : q_z f mo 40 = 0) (hf22 : q_z f sr 0 = 0) (hf23 : q_z f sr 1 = 0) (hf24 : q_z f sr 2 = 12) (hf25 : q_z f sr 3 = 0) (hf26 : q_z f sr 4 = 0) (hf27 : q_z f sr 5 = 1) (hf28 : q_z f sr 6 = 2) (hf29 : q_z f sr 7 = 5) (hf30 : q_z f sr 8 = 3) (hf31 : q_z f sr 9 = 0) (hr0 : q_r f x 0 = src) (hr1 : q_r f x 1 = rdr) (hr2 : q_r f x 2 = scr) (hr3 : q_r f x 3 = fc) (hr4 : q_r f x 4 = hist) (hr5 : q_r f x 5 = rep) (hr6 : q_r f x 6 = now) (hr7 : q_r f x 7 = dr) (hr8 : q_r f x 8 = sv) (hr9 : q_r f fc 0 = tr) (hr10 : q_r f mo 1 = bu) (hr11 : q_r f mo 13 = sr) (hr12 : q_r f mo 14 = sd) (hr13 : q_r f mo 15 = as) (hr14 : q_r f mo 16 = aw) (hr15 : q_r f mo 17 = pa) (hr16 : q_r f mo 18 = nm) (hr17 : q_r f mo 19 = snm) (hr18 : q_r f mo 20 = anm) (hl : lv_has ls 10 [(5, .int (q_i 0)), (0, .ref b), (1, .ref x), (2, .ref mo), (3, .ref out), (4, .ref outD)]) : W p l e room_1 s m #[Value.ref b] below meth c H locs 1100 20000 (lw_Z below #[Value.ref b] s) (F0 m 686 ls []) := by
  have hXs := C0.2.2.2.2.2.2.1
  have hbl := C0.2.2.2.2.2.2.2.1
  have hbA := q_bA hbl
  obtain ⟨x0, rx0, ex0⟩ : ∃ z : Int, q_R z ∧ xs 0 = q_i z := ⟨_, q_rng _, (q_of _).symm⟩
  have lx0 := rx0.1
  have ux0 := rx0.2
  obtain ⟨x1, rx1, ex1⟩ : ∃ z : Int, q_R z ∧ xs 1 = q_i z := ⟨_, q_rng _, (q_of _).symm⟩
  have lx1 := rx1.1
  have ux1 := rx1.2
  obtain ⟨x2, rx2, ex2⟩ : ∃ z : Int, q_R z ∧ xs 2 = q_i z := ⟨_, q_rng _, (q_of _).symm⟩
  have lx2 := rx2.1
  have ux2 := rx2.2
  obtain ⟨x3, rx3, ex3⟩ : ∃ z : Int, q_R z ∧ xs 3 = q_i z := ⟨_, q_rng _, (q_of _).symm⟩
  have lx3 := rx3.1
  have ux3 := rx3.2
  obtain ⟨x4, rx4, ex4⟩ : ∃ z : Int, q_R z ∧ xs 4 = q_i z := ⟨_, q_rng _, (q_of _).symm⟩
  have lx4 := rx4.1
  have ux4 := rx4.2
  obtain ⟨x5, rx5, ex5⟩ : ∃ z : Int, q_R z ∧ xs 5 = q_i z := ⟨_, q_rng _, (q_of _).symm⟩
  have lx5 := rx5.1
  have ux5 := rx5.2
  refine q_ald_n cx dL_law_686 rfl (lv_at hl 2 rfl) ?_
  refine q_ald_n cx dL_law_687 rfl (lv_at hl 1 rfl) ?_
  refine lv_iload cx.1 cx.2.1 dL_law_688 (lv_at hl 0 rfl) ?_
  refine q_iconst cx dL_law_690 ?_
  refine q_iadd cx dL_law_691 ?_
  refine va_sld cx.1 cx.2.1 hXs hbl hbA hB.1.2.2.2 (q_in (by decide) (by decide) (by decide)) dL_law_692 ?_
  rw [show (q_i (0 + 1)).toNatClampNeg = 1 from by decide, ex1]
  refine q_ald_n cx dL_law_693 rfl (lv_at hl 1 rfl) ?_
  refine lv_iload cx.1 cx.2.1 dL_law_694 (lv_at hl 0 rfl) ?_
  refine q_iconst cx dL_law_696 ?_
  refine q_iadd cx dL_law_697 ?_
  refine va_sld cx.1 cx.2.1 hXs hbl hbA hB.1.2.2.2 (q_in (by decide) (by decide) (by decide)) dL_law_698 ?_
  rw [show (q_i (0 + 2)).toNatClampNeg = 2 from by decide, ex2]
  refine q_ald_n cx dL_law_699 rfl (lv_at hl 4 rfl) ?_
  refine q_cWS (As := [.ref x, .int (q_i x1), .int (q_i x2), .ref out]) (rest := []) cx hX hB (fun q h => hLA q h) (fun q h1 h2 => absurd h1 (Nat.not_le_of_lt h2)) hN (w_message l g hN hB.2.1 hfl x hx kx x1 (by omega) (by omega) x2 (by omega) (by omega) out hout kout src hsrc ksrc rdr hrdr krdr scr hscr kscr fc hfc kfc hist hhist khist rep hrep krep now hnow know dr hdr kdr sv hsv ksv tr htr ktr hf0 hf1 hf2 hf3 hf4 hf5 hf6 hf7 hf8 hf9 hf10 hf11 hf12 hf13 hr0 hr1 hr2 hr3 hr4 hr5 hr6 hr7 hr8 hr9) q_cL_156 q_dL_message (by decide) rfl rfl hl.1 rfl (Nat.le_of_ble_eq_true rfl) dL_law_700 (fun v9 H locs f1 h3 hF hB => ?_)
  obtain ⟨y2, rfl, ry2, h3⟩ := h3
  refine W.eq (g2 := F0 m 703 ls [.int (q_i y2)]) rfl ?_
  have qy2 := h3
  have z4 : q_z f1 x 9 = 0 := (hF.z hx (by rw [kx]; rfl)).trans hf0
  have z5 : q_z f1 src 1 = 0 := (hF.z hsrc (by rw [ksrc]; rfl)).trans hf1
  have z6 : q_z f1 src 2 = 0 := (hF.z hsrc (by rw [ksrc]; rfl)).trans hf2
  have z7 : q_z f1 src 3 = (-1) := (hF.z hsrc (by rw [ksrc]; rfl)).trans hf3
  have z8 : q_z f1 hist 1 = 0 := (hF.z hhist (by rw [khist]; rfl)).trans hf4
  have z9 : q_z f1 hist 2 = 0 := (hF.z hhist (by rw [khist]; rfl)).trans hf5
  have z10 : q_z f1 rep 1 = 0 := (hF.z hrep (by rw [krep]; rfl)).trans hf6
  have z11 : q_z f1 now 3 = 0 := (hF.z hnow (by rw [know]; rfl)).trans hf7
  have z12 : q_z f1 now 4 = 0 := (hF.z hnow (by rw [know]; rfl)).trans hf8
  have z13 : q_z f1 now 5 = 0 := (hF.z hnow (by rw [know]; rfl)).trans hf9
  have z14 : q_z f1 now 6 = 12 := (hF.z hnow (by rw [know]; rfl)).trans hf10
  have z15 : q_z f1 now 10 = 3 := (hF.z hnow (by rw [know]; rfl)).trans hf11
  have z16 : q_z f1 now 11 = 0 := (hF.z hnow (by rw [know]; rfl)).trans hf12
  have z17 : q_z f1 now 12 = 0 := (hF.z hnow (by rw [know]; rfl)).trans hf13
  have z18 : q_z f1 mo 2 = 0 := (hF.z hmo (by rw [kmo]; rfl)).trans hf14
  have z19 : q_z f1 mo 8 = 0 := (hF.z hmo (by rw [kmo]; rfl)).trans hf15
  have z20 : q_z f1 mo 9 = (-1) := (hF.z hmo (by rw [kmo]; rfl)).trans hf16
  have z21 : q_z f1 mo 10 = 0 := (hF.z hmo (by rw [kmo]; rfl)).trans hf17
  have z22 : q_z f1 mo 11 = (-1) := (hF.z hmo (by rw [kmo]; rfl)).trans hf18
  have z23 : q_z f1 mo 21 = 0 := (hF.z hmo (by rw [kmo]; rfl)).trans hf19
  have z24 : q_z f1 mo 22 = 0 := (hF.z hmo (by rw [kmo]; rfl)).trans hf20
  have z25 : q_z f1 mo 40 = 0 := (hF.z hmo (by rw [kmo]; rfl)).trans hf21
  have z26 : q_z f1 sr 0 = 0 := (hF.z hsr (by rw [ksr]; rfl)).trans hf22
  have z27 : q_z f1 sr 1 = 0 := (hF.z hsr (by rw [ksr]; rfl)).trans hf23
  have z28 : q_z f1 sr 2 = 12 := (hF.z hsr (by rw [ksr]; rfl)).trans hf24
  have z29 : q_z f1 sr 3 = 0 := (hF.z hsr (by rw [ksr]; rfl)).trans hf25
  have z30 : q_z f1 sr 4 = 0 := (hF.z hsr (by rw [ksr]; rfl)).trans hf26
  have z31 : q_z f1 sr 5 = 1 := (hF.z hsr (by rw [ksr]; rfl)).trans hf27
  have z32 : q_z f1 sr 6 = 2 := (hF.z hsr (by rw [ksr]; rfl)).trans hf28
  have z33 : q_z f1 sr 7 = 5 := (hF.z hsr (by rw [ksr]; rfl)).trans hf29
  have z34 : q_z f1 sr 8 = 3 := (hF.z hsr (by rw [ksr]; rfl)).trans hf30
  have z35 : q_z f1 sr 9 = 0 := (hF.z hsr (by rw [ksr]; rfl)).trans hf31
  have z36 : q_r f1 x 0 = src := (hF.r hx (by rw [kx]; rfl)).trans hr0
  have z37 : q_r f1 x 1 = rdr := (hF.r hx (by rw [kx]; rfl)).trans hr1
  have z38 : q_r f1 x 2 = scr := (hF.r hx (by rw [kx]; rfl)).trans hr2
  have z39 : q_r f1 x 3 = fc := (hF.r hx (by rw [kx]; rfl)).trans hr3
  have z40 : q_r f1 x 4 = hist := (hF.r hx (by rw [kx]; rfl)).trans hr4
  have z41 : q_r f1 x 5 = rep := (hF.r hx (by rw [kx]; rfl)).trans hr5
  have z42 : q_r f1 x 6 = now := (hF.r hx (by rw [kx]; rfl)).trans hr6
  have z43 : q_r f1 x 7 = dr := (hF.r hx (by rw [kx]; rfl)).trans hr7
  have z44 : q_r f1 x 8 = sv := (hF.r hx (by rw [kx]; rfl)).trans hr8
  have z45 : q_r f1 fc 0 = tr := (hF.r hfc (by rw [kfc]; rfl)).trans hr9
  have z46 : q_r f1 mo 1 = bu := (hF.r hmo (by rw [kmo]; rfl)).trans hr10
  have z47 : q_r f1 mo 13 = sr := (hF.r hmo (by rw [kmo]; rfl)).trans hr11
  have z48 : q_r f1 mo 14 = sd := (hF.r hmo (by rw [kmo]; rfl)).trans hr12
  have z49 : q_r f1 mo 15 = as := (hF.r hmo (by rw [kmo]; rfl)).trans hr13
  have z50 : q_r f1 mo 16 = aw := (hF.r hmo (by rw [kmo]; rfl)).trans hr14
  have z51 : q_r f1 mo 17 = pa := (hF.r hmo (by rw [kmo]; rfl)).trans hr15
  have z52 : q_r f1 mo 18 = nm := (hF.r hmo (by rw [kmo]; rfl)).trans hr16
  have z53 : q_r f1 mo 19 = snm := (hF.r hmo (by rw [kmo]; rfl)).trans hr17
  have z54 : q_r f1 mo 20 = anm := (hF.r hmo (by rw [kmo]; rfl)).trans hr18
  subst qy2
  refine lv_istore (lv' := [(6, .int (q_i 1)), (5, .int (q_i 0)), (0, .ref b), (1, .ref x), (2, .ref mo), (3, .ref out), (4, .ref outD)]) cx.1 cx.2.1 dL_law_703 hl (by decide) rfl (fun ls hl => ?_)
  refine q_ald_n cx dL_law_705 rfl (lv_at hl 4 rfl) ?_
  refine q_ald_n cx dL_law_706 rfl (lv_at hl 2 rfl) ?_
  refine lv_iload cx.1 cx.2.1 dL_law_707 (lv_at hl 1 rfl) ?_
  refine q_iconst cx dL_law_709 ?_
  refine q_iadd cx dL_law_710 ?_
  refine va_sld cx.1 cx.2.1 hXs hbl hbA hB.1.2.2.2 (q_in (by decide) (by decide) (by decide)) dL_law_711 ?_
  rw [show (q_i (0 + 1)).toNatClampNeg = 1 from by decide, ex1]
  refine q_ald_n cx dL_law_712 rfl (lv_at hl 2 rfl) ?_
  refine lv_iload cx.1 cx.2.1 dL_law_713 (lv_at hl 1 rfl) ?_
  refine q_iconst cx dL_law_715 ?_
  refine q_iadd cx dL_law_716 ?_
  refine va_sld cx.1 cx.2.1 hXs hbl hbA hB.1.2.2.2 (q_in (by decide) (by decide) (by decide)) dL_law_717 ?_
  rw [show (q_i (0 + 2)).toNatClampNeg = 2 from by decide, ex2]
  refine q_cVi (As := [.int (q_i x1), .int (q_i x2)]) (rest := []) cx hB (fun q h => hLA q h) hN hmo kmo (by decide) rfl (p_message l g hN hB.2.1 mo hmo kmo x1 (by omega) (by omega) x2 (by omega) (by omega) bu hbu kbu sr hsr ksr sd hsd ksd as has kas aw haw kaw pa hpa kpa nm hnm knm snm hsnm ksnm anm hanm kanm z18 z19 z20 z21 z22 z23 z24 z25 z26 z27 z28 z29 z30 z31 z32 z33 z34 z35 z46 z47 z48 z49 z50 z51 z52 z53 z54) q_cL_158 q_dX12_message (by decide) rfl rfl hl.1 rfl (Nat.le_of_ble_eq_true rfl) dL_law_718 (fun y56 H locs f55 ry56 h57 hF hB => ?_)
  obtain ⟨qy56, z58⟩ := h57
  have z59 : q_z f55 x 9 = 0 := (hF.z hx (by rw [kx]; rfl)).trans z4
  have z60 : q_z f55 src 1 = 0 := (hF.z hsrc (by rw [ksrc]; rfl)).trans z5
  have z61 : q_z f55 src 2 = 0 := (hF.z hsrc (by rw [ksrc]; rfl)).trans z6
  have z62 : q_z f55 src 3 = (-1) := (hF.z hsrc (by rw [ksrc]; rfl)).trans z7
  have z63 : q_z f55 hist 1 = 0 := (hF.z hhist (by rw [khist]; rfl)).trans z8
  have z64 : q_z f55 hist 2 = 0 := (hF.z hhist (by rw [khist]; rfl)).trans z9
  have z65 : q_z f55 rep 1 = 0 := (hF.z hrep (by rw [krep]; rfl)).trans z10
  have z66 : q_z f55 now 3 = 0 := (hF.z hnow (by rw [know]; rfl)).trans z11
  have z67 : q_z f55 now 4 = 0 := (hF.z hnow (by rw [know]; rfl)).trans z12
  have z68 : q_z f55 now 5 = 0 := (hF.z hnow (by rw [know]; rfl)).trans z13
  have z69 : q_z f55 now 6 = 12 := (hF.z hnow (by rw [know]; rfl)).trans z14
  have z70 : q_z f55 now 10 = 3 := (hF.z hnow (by rw [know]; rfl)).trans z15
  have z71 : q_z f55 now 11 = 0 := (hF.z hnow (by rw [know]; rfl)).trans z16
  have z72 : q_z f55 now 12 = 0 := (hF.z hnow (by rw [know]; rfl)).trans z17
  have z73 : q_r f55 x 0 = src := (hF.r hx (by rw [kx]; rfl)).trans z36
  have z74 : q_r f55 x 1 = rdr := (hF.r hx (by rw [kx]; rfl)).trans z37
  have z75 : q_r f55 x 2 = scr := (hF.r hx (by rw [kx]; rfl)).trans z38
  have z76 : q_r f55 x 3 = fc := (hF.r hx (by rw [kx]; rfl)).trans z39
  have z77 : q_r f55 x 4 = hist := (hF.r hx (by rw [kx]; rfl)).trans z40
  have z78 : q_r f55 x 5 = rep := (hF.r hx (by rw [kx]; rfl)).trans z41
  have z79 : q_r f55 x 6 = now := (hF.r hx (by rw [kx]; rfl)).trans z42
  have z80 : q_r f55 x 7 = dr := (hF.r hx (by rw [kx]; rfl)).trans z43
  have z81 : q_r f55 x 8 = sv := (hF.r hx (by rw [kx]; rfl)).trans z44
  have z82 : q_r f55 fc 0 = tr := (hF.r hfc (by rw [kfc]; rfl)).trans z45
  subst qy56
  refine lv_istore (lv' := [(7, .int (q_i 0)), (6, .int (q_i 1)), (5, .int (q_i 0)), (0, .ref b), (1, .ref x), (2, .ref mo), (3, .ref out), (4, .ref outD)]) cx.1 cx.2.1 dL_law_721 hl (by decide) rfl (fun ls hl => ?_)
  refine q_ald_n cx dL_law_723 rfl (lv_at hl 5 rfl) ?_
  refine q_cVi (As := []) (rest := []) cx hB (fun q h => hLA q h) hN hmo kmo (by decide) rfl (r_thrown l g hN hB.2.1 mo hmo kmo 1 (by decide) (by decide) z58) q_cL_124 q_dX12_thrown (by decide) rfl rfl hl.1 rfl (Nat.le_of_ble_eq_true rfl) dL_law_724 (fun y84 H locs f83 ry84 h85 hF hB => ?_)
  obtain ⟨rfl, qy84⟩ := h85
  subst qy84
  refine lv_iload cx.1 cx.2.1 dL_law_727 (lv_at hl 1 rfl) ?_
  refine q_iceq (tgt := 734) cx ⟨by decide, by decide⟩ ⟨by decide, by decide⟩ dL_law_729 (by decide) (fun c86 => ?_) (fun c86 => ?_)
  · refine lv_iload cx.1 cx.2.1 dL_law_734 (lv_at hl 1 rfl) ?_
    refine q_ifne (tgt := 751) cx ⟨by decide, by decide⟩ dL_law_736 (by decide) (fun c87 => ?_) (fun c87 => ?_)
    · refine lv_goto (tgt := 2394) cx.1 cx.2.1 dL_law_751 (by decide) ?_
      refine q_iinc (lv' := [(5, .int (q_i (0 + 6))), (7, .int (q_i 0)), (6, .int (q_i 1)), (0, .ref b), (1, .ref x), (2, .ref mo), (3, .ref out), (4, .ref outD)]) cx dL_law_2394 hl (k := 2) rfl (by decide) rfl (fun ls hl => ?_)
      refine lv_goto (tgt := 28) cx.1 cx.2.1 dL_law_2397 (by decide) ?_
      refine lv_iload cx.1 cx.2.1 dL_law_28 (lv_at hl 0 rfl) ?_
      refine q_ald_n cx dL_law_30 rfl (lv_at hl 3 rfl) ?_
      refine va_slen cx.1 cx.2.1 hXs hbl hbA hB.1.2.2.2 dL_law_31 ?_
      rw [show Int32.ofNat 6 = q_i 6 from by decide]
      refine q_bipush cx dL_law_32 rfl ?_
      refine q_isub cx dL_law_34 ?_
      refine q_icgt (tgt := 2400) cx ⟨by decide, by decide⟩ ⟨by decide, by decide⟩ dL_law_35 (by decide) (fun c88 => ?_) (fun c88 => ?_)
      · refine q_iconst cx dL_law_2400 ?_
        exact q_lawret C0 hB (by decide) (by decide) dL_law_2401
      · exact absurd c88 (by omega)
    · exact absurd c87 (by omega)
  · exact absurd c86 (by omega)
set_option maxHeartbeats 4000000 in
set_option maxRecDepth 100000 in
theorem law_c754 {p : Program} {l : Launch} {e : Env} {s : State} {m : MethodId} {below : List Frame} {meth : Method} {c : Code} {b : Nat} {xs : Nat → Int32} (hfl : l.stackTraces = false) (C0 : lw_At p s m meth c b 6 xs) (cx : CallFix p m c cL_law 10 s #[Value.ref b] q_al RL) {g : q_G} {K : Nat → Nat} {L : List Nat} {f : Nat → va_E} {H : Heap} {locs : List Loc} {ls : Array Slot} (hN : L.Nodup) (hLA : ∀ q, q ∈ L → s.heap.size ≤ q) (hX : q_X (fun q => q ∈ L) s) (hB : q_B g K L (fun q => s.heap.size ≤ q) [(2, 1, 2), (6, 1, 1), (7, 1, 4), (8, 1, 9), (9, 0, 2), (10, 3, 15), (11, 9, 9), (12, 0, 40), (13, 3, 15), (14, 3, 15), (15, 3, 15), (16, 3, 15), (142, 0, 599), (150, 0, 599), (151, 0, 657), (152, 0, 657), (153, 0, 657), (154, 0, 657), (155, 0, 3947), (156, 0, 9), (157, 0, 9), (158, 0, 9), (168, 0, 0), (169, 0, 0)] f f s H locs) {x : Nat} (hx : x ∈ L) (kx : K x = 11) {src : Nat} (hsrc : src ∈ L) (ksrc : K src = 8) {rdr : Nat} (hrdr : rdr ∈ L) (krdr : K rdr = 9) {scr : Nat} (hscr : scr ∈ L) (kscr : K scr = 7) {fc : Nat} (hfc : fc ∈ L) (kfc : K fc = 1) {hist : Nat} (hhist : hist ∈ L) (khist : K hist = 2) {rep : Nat} (hrep : rep ∈ L) (krep : K rep = 6) {now : Nat} (hnow : now ∈ L) (know : K now = 10) {dr : Nat} (hdr : dr ∈ L) (kdr : K dr = 13) {sv : Nat} (hsv : sv ∈ L) (ksv : K sv = 14) {tr : Nat} (htr : tr ∈ L) (ktr : K tr = 15) {mo : Nat} (hmo : mo ∈ L) (kmo : K mo = 12) {bu : Nat} (hbu : bu ∈ L) (kbu : K bu = 150) {sr : Nat} (hsr : sr ∈ L) (ksr : K sr = 151) {sd : Nat} (hsd : sd ∈ L) (ksd : K sd = 152) {as : Nat} (has : as ∈ L) (kas : K as = 153) {aw : Nat} (haw : aw ∈ L) (kaw : K aw = 154) {pa : Nat} (hpa : pa ∈ L) (kpa : K pa = 155) {nm : Nat} (hnm : nm ∈ L) (knm : K nm = 156) {snm : Nat} (hsnm : snm ∈ L) (ksnm : K snm = 157) {anm : Nat} (hanm : anm ∈ L) (kanm : K anm = 158) {out : Nat} (hout : out ∈ L) (kout : K out = 168) {outD : Nat} (houtD : outD ∈ L) (koutD : K outD = 169) (hf0 : q_z f x 9 = 0) (hf1 : q_z f src 1 = 0) (hf2 : q_z f src 2 = 0) (hf3 : q_z f src 3 = (-1)) (hf4 : q_z f hist 1 = 0) (hf5 : q_z f hist 2 = 0) (hf6 : q_z f rep 1 = 0) (hf7 : q_z f now 3 = 0) (hf8 : q_z f now 4 = 0) (hf9 : q_z f now 5 = 0) (hf10 : q_z f now 6 = 12) (hf11 : q_z f now 10 = 3) (hf12 : q_z f now 11 = 0) (hf13 : q_z f now 12 = 0) (hf14 : q_z f mo 2 = 0) (hf15 : q_z f mo 8 = 0) (hf16 : q_z f mo 9 = (-1)) (hf17 : q_z f mo 10 = 0) (hf18 : q_z f mo 11 = (-1)) (hf19 : q_z f mo 21 = 0) (hf20 : q_z f mo 22 = 0) (hf21 : q_z f mo 40 = 0) (hf22 : q_z f sr 0 = 0) (hf23 : q_z f sr 1 = 0) (hf24 : q_z f sr 2 = 12) (hf25 : q_z f sr 3 = 0) (hf26 : q_z f sr 4 = 0) (hf27 : q_z f sr 5 = 1) (hf28 : q_z f sr 6 = 2) (hf29 : q_z f sr 7 = 5) (hf30 : q_z f sr 8 = 3) (hf31 : q_z f sr 9 = 0) (hr0 : q_r f x 0 = src) (hr1 : q_r f x 1 = rdr) (hr2 : q_r f x 2 = scr) (hr3 : q_r f x 3 = fc) (hr4 : q_r f x 4 = hist) (hr5 : q_r f x 5 = rep) (hr6 : q_r f x 6 = now) (hr7 : q_r f x 7 = dr) (hr8 : q_r f x 8 = sv) (hr9 : q_r f fc 0 = tr) (hr10 : q_r f mo 1 = bu) (hr11 : q_r f mo 13 = sr) (hr12 : q_r f mo 14 = sd) (hr13 : q_r f mo 15 = as) (hr14 : q_r f mo 16 = aw) (hr15 : q_r f mo 17 = pa) (hr16 : q_r f mo 18 = nm) (hr17 : q_r f mo 19 = snm) (hr18 : q_r f mo 20 = anm) (hl : lv_has ls 10 [(5, .int (q_i 0)), (0, .ref b), (1, .ref x), (2, .ref mo), (3, .ref out), (4, .ref outD)]) : W p l e room_1 s m #[Value.ref b] below meth c H locs 1100 20000 (lw_Z below #[Value.ref b] s) (F0 m 754 ls []) := by
  have hXs := C0.2.2.2.2.2.2.1
  have hbl := C0.2.2.2.2.2.2.2.1
  have hbA := q_bA hbl
  obtain ⟨x0, rx0, ex0⟩ : ∃ z : Int, q_R z ∧ xs 0 = q_i z := ⟨_, q_rng _, (q_of _).symm⟩
  have lx0 := rx0.1
  have ux0 := rx0.2
  obtain ⟨x1, rx1, ex1⟩ : ∃ z : Int, q_R z ∧ xs 1 = q_i z := ⟨_, q_rng _, (q_of _).symm⟩
  have lx1 := rx1.1
  have ux1 := rx1.2
  obtain ⟨x2, rx2, ex2⟩ : ∃ z : Int, q_R z ∧ xs 2 = q_i z := ⟨_, q_rng _, (q_of _).symm⟩
  have lx2 := rx2.1
  have ux2 := rx2.2
  obtain ⟨x3, rx3, ex3⟩ : ∃ z : Int, q_R z ∧ xs 3 = q_i z := ⟨_, q_rng _, (q_of _).symm⟩
  have lx3 := rx3.1
  have ux3 := rx3.2
  obtain ⟨x4, rx4, ex4⟩ : ∃ z : Int, q_R z ∧ xs 4 = q_i z := ⟨_, q_rng _, (q_of _).symm⟩
  have lx4 := rx4.1
  have ux4 := rx4.2
  obtain ⟨x5, rx5, ex5⟩ : ∃ z : Int, q_R z ∧ xs 5 = q_i z := ⟨_, q_rng _, (q_of _).symm⟩
  have lx5 := rx5.1
  have ux5 := rx5.2
  refine q_ald_n cx dL_law_754 rfl (lv_at hl 2 rfl) ?_
  refine q_ald_n cx dL_law_755 rfl (lv_at hl 1 rfl) ?_
  refine lv_iload cx.1 cx.2.1 dL_law_756 (lv_at hl 0 rfl) ?_
  refine q_iconst cx dL_law_758 ?_
  refine q_iadd cx dL_law_759 ?_
  refine va_sld cx.1 cx.2.1 hXs hbl hbA hB.1.2.2.2 (q_in (by decide) (by decide) (by decide)) dL_law_760 ?_
  rw [show (q_i (0 + 1)).toNatClampNeg = 1 from by decide, ex1]
  refine q_ald_n cx dL_law_761 rfl (lv_at hl 1 rfl) ?_
  refine lv_iload cx.1 cx.2.1 dL_law_762 (lv_at hl 0 rfl) ?_
  refine q_iconst cx dL_law_764 ?_
  refine q_iadd cx dL_law_765 ?_
  refine va_sld cx.1 cx.2.1 hXs hbl hbA hB.1.2.2.2 (q_in (by decide) (by decide) (by decide)) dL_law_766 ?_
  rw [show (q_i (0 + 2)).toNatClampNeg = 2 from by decide, ex2]
  refine q_ald_n cx dL_law_767 rfl (lv_at hl 4 rfl) ?_
  refine q_cWS (As := [.ref x, .int (q_i x1), .int (q_i x2), .ref out]) (rest := []) cx hX hB (fun q h => hLA q h) (fun q h1 h2 => absurd h1 (Nat.not_le_of_lt h2)) hN (w_letter l g hN hB.2.1 hfl x hx kx x1 (by omega) (by omega) x2 (by omega) (by omega) out hout kout src hsrc ksrc rdr hrdr krdr scr hscr kscr fc hfc kfc hist hhist khist rep hrep krep now hnow know dr hdr kdr sv hsv ksv tr htr ktr hf0 hf1 hf2 hf3 hf4 hf5 hf6 hf7 hf8 hf9 hf10 hf11 hf12 hf13 hr0 hr1 hr2 hr3 hr4 hr5 hr6 hr7 hr8 hr9) q_cL_159 q_dL_letter (by decide) rfl rfl hl.1 rfl (Nat.le_of_ble_eq_true rfl) dL_law_768 (fun v9 H locs f1 h3 hF hB => ?_)
  obtain ⟨y2, rfl, ry2, h3⟩ := h3
  refine W.eq (g2 := F0 m 771 ls [.int (q_i y2)]) rfl ?_
  have qy2 := h3
  have z4 : q_z f1 x 9 = 0 := (hF.z hx (by rw [kx]; rfl)).trans hf0
  have z5 : q_z f1 src 1 = 0 := (hF.z hsrc (by rw [ksrc]; rfl)).trans hf1
  have z6 : q_z f1 src 2 = 0 := (hF.z hsrc (by rw [ksrc]; rfl)).trans hf2
  have z7 : q_z f1 src 3 = (-1) := (hF.z hsrc (by rw [ksrc]; rfl)).trans hf3
  have z8 : q_z f1 hist 1 = 0 := (hF.z hhist (by rw [khist]; rfl)).trans hf4
  have z9 : q_z f1 hist 2 = 0 := (hF.z hhist (by rw [khist]; rfl)).trans hf5
  have z10 : q_z f1 rep 1 = 0 := (hF.z hrep (by rw [krep]; rfl)).trans hf6
  have z11 : q_z f1 now 3 = 0 := (hF.z hnow (by rw [know]; rfl)).trans hf7
  have z12 : q_z f1 now 4 = 0 := (hF.z hnow (by rw [know]; rfl)).trans hf8
  have z13 : q_z f1 now 5 = 0 := (hF.z hnow (by rw [know]; rfl)).trans hf9
  have z14 : q_z f1 now 6 = 12 := (hF.z hnow (by rw [know]; rfl)).trans hf10
  have z15 : q_z f1 now 10 = 3 := (hF.z hnow (by rw [know]; rfl)).trans hf11
  have z16 : q_z f1 now 11 = 0 := (hF.z hnow (by rw [know]; rfl)).trans hf12
  have z17 : q_z f1 now 12 = 0 := (hF.z hnow (by rw [know]; rfl)).trans hf13
  have z18 : q_z f1 mo 2 = 0 := (hF.z hmo (by rw [kmo]; rfl)).trans hf14
  have z19 : q_z f1 mo 8 = 0 := (hF.z hmo (by rw [kmo]; rfl)).trans hf15
  have z20 : q_z f1 mo 9 = (-1) := (hF.z hmo (by rw [kmo]; rfl)).trans hf16
  have z21 : q_z f1 mo 10 = 0 := (hF.z hmo (by rw [kmo]; rfl)).trans hf17
  have z22 : q_z f1 mo 11 = (-1) := (hF.z hmo (by rw [kmo]; rfl)).trans hf18
  have z23 : q_z f1 mo 21 = 0 := (hF.z hmo (by rw [kmo]; rfl)).trans hf19
  have z24 : q_z f1 mo 22 = 0 := (hF.z hmo (by rw [kmo]; rfl)).trans hf20
  have z25 : q_z f1 mo 40 = 0 := (hF.z hmo (by rw [kmo]; rfl)).trans hf21
  have z26 : q_z f1 sr 0 = 0 := (hF.z hsr (by rw [ksr]; rfl)).trans hf22
  have z27 : q_z f1 sr 1 = 0 := (hF.z hsr (by rw [ksr]; rfl)).trans hf23
  have z28 : q_z f1 sr 2 = 12 := (hF.z hsr (by rw [ksr]; rfl)).trans hf24
  have z29 : q_z f1 sr 3 = 0 := (hF.z hsr (by rw [ksr]; rfl)).trans hf25
  have z30 : q_z f1 sr 4 = 0 := (hF.z hsr (by rw [ksr]; rfl)).trans hf26
  have z31 : q_z f1 sr 5 = 1 := (hF.z hsr (by rw [ksr]; rfl)).trans hf27
  have z32 : q_z f1 sr 6 = 2 := (hF.z hsr (by rw [ksr]; rfl)).trans hf28
  have z33 : q_z f1 sr 7 = 5 := (hF.z hsr (by rw [ksr]; rfl)).trans hf29
  have z34 : q_z f1 sr 8 = 3 := (hF.z hsr (by rw [ksr]; rfl)).trans hf30
  have z35 : q_z f1 sr 9 = 0 := (hF.z hsr (by rw [ksr]; rfl)).trans hf31
  have z36 : q_r f1 x 0 = src := (hF.r hx (by rw [kx]; rfl)).trans hr0
  have z37 : q_r f1 x 1 = rdr := (hF.r hx (by rw [kx]; rfl)).trans hr1
  have z38 : q_r f1 x 2 = scr := (hF.r hx (by rw [kx]; rfl)).trans hr2
  have z39 : q_r f1 x 3 = fc := (hF.r hx (by rw [kx]; rfl)).trans hr3
  have z40 : q_r f1 x 4 = hist := (hF.r hx (by rw [kx]; rfl)).trans hr4
  have z41 : q_r f1 x 5 = rep := (hF.r hx (by rw [kx]; rfl)).trans hr5
  have z42 : q_r f1 x 6 = now := (hF.r hx (by rw [kx]; rfl)).trans hr6
  have z43 : q_r f1 x 7 = dr := (hF.r hx (by rw [kx]; rfl)).trans hr7
  have z44 : q_r f1 x 8 = sv := (hF.r hx (by rw [kx]; rfl)).trans hr8
  have z45 : q_r f1 fc 0 = tr := (hF.r hfc (by rw [kfc]; rfl)).trans hr9
  have z46 : q_r f1 mo 1 = bu := (hF.r hmo (by rw [kmo]; rfl)).trans hr10
  have z47 : q_r f1 mo 13 = sr := (hF.r hmo (by rw [kmo]; rfl)).trans hr11
  have z48 : q_r f1 mo 14 = sd := (hF.r hmo (by rw [kmo]; rfl)).trans hr12
  have z49 : q_r f1 mo 15 = as := (hF.r hmo (by rw [kmo]; rfl)).trans hr13
  have z50 : q_r f1 mo 16 = aw := (hF.r hmo (by rw [kmo]; rfl)).trans hr14
  have z51 : q_r f1 mo 17 = pa := (hF.r hmo (by rw [kmo]; rfl)).trans hr15
  have z52 : q_r f1 mo 18 = nm := (hF.r hmo (by rw [kmo]; rfl)).trans hr16
  have z53 : q_r f1 mo 19 = snm := (hF.r hmo (by rw [kmo]; rfl)).trans hr17
  have z54 : q_r f1 mo 20 = anm := (hF.r hmo (by rw [kmo]; rfl)).trans hr18
  subst qy2
  refine lv_istore (lv' := [(6, .int (q_i 1)), (5, .int (q_i 0)), (0, .ref b), (1, .ref x), (2, .ref mo), (3, .ref out), (4, .ref outD)]) cx.1 cx.2.1 dL_law_771 hl (by decide) rfl (fun ls hl => ?_)
  refine q_ald_n cx dL_law_773 rfl (lv_at hl 4 rfl) ?_
  refine q_ald_n cx dL_law_774 rfl (lv_at hl 2 rfl) ?_
  refine lv_iload cx.1 cx.2.1 dL_law_775 (lv_at hl 1 rfl) ?_
  refine q_iconst cx dL_law_777 ?_
  refine q_iadd cx dL_law_778 ?_
  refine va_sld cx.1 cx.2.1 hXs hbl hbA hB.1.2.2.2 (q_in (by decide) (by decide) (by decide)) dL_law_779 ?_
  rw [show (q_i (0 + 1)).toNatClampNeg = 1 from by decide, ex1]
  refine q_ald_n cx dL_law_780 rfl (lv_at hl 2 rfl) ?_
  refine lv_iload cx.1 cx.2.1 dL_law_781 (lv_at hl 1 rfl) ?_
  refine q_iconst cx dL_law_783 ?_
  refine q_iadd cx dL_law_784 ?_
  refine va_sld cx.1 cx.2.1 hXs hbl hbA hB.1.2.2.2 (q_in (by decide) (by decide) (by decide)) dL_law_785 ?_
  rw [show (q_i (0 + 2)).toNatClampNeg = 2 from by decide, ex2]
  refine q_cVi (As := [.int (q_i x1), .int (q_i x2)]) (rest := []) cx hB (fun q h => hLA q h) hN hmo kmo (by decide) rfl (p_letter l g hN hB.2.1 mo hmo kmo x1 (by omega) (by omega) x2 (by omega) (by omega) bu hbu kbu sr hsr ksr sd hsd ksd as has kas aw haw kaw pa hpa kpa nm hnm knm snm hsnm ksnm anm hanm kanm z18 z19 z20 z21 z22 z23 z24 z25 z26 z27 z28 z29 z30 z31 z32 z33 z34 z35 z46 z47 z48 z49 z50 z51 z52 z53 z54) q_cL_161 q_dX12_letter (by decide) rfl rfl hl.1 rfl (Nat.le_of_ble_eq_true rfl) dL_law_786 (fun y56 H locs f55 ry56 h57 hF hB => ?_)
  obtain ⟨qy56, z58⟩ := h57
  have z59 : q_z f55 x 9 = 0 := (hF.z hx (by rw [kx]; rfl)).trans z4
  have z60 : q_z f55 src 1 = 0 := (hF.z hsrc (by rw [ksrc]; rfl)).trans z5
  have z61 : q_z f55 src 2 = 0 := (hF.z hsrc (by rw [ksrc]; rfl)).trans z6
  have z62 : q_z f55 src 3 = (-1) := (hF.z hsrc (by rw [ksrc]; rfl)).trans z7
  have z63 : q_z f55 hist 1 = 0 := (hF.z hhist (by rw [khist]; rfl)).trans z8
  have z64 : q_z f55 hist 2 = 0 := (hF.z hhist (by rw [khist]; rfl)).trans z9
  have z65 : q_z f55 rep 1 = 0 := (hF.z hrep (by rw [krep]; rfl)).trans z10
  have z66 : q_z f55 now 3 = 0 := (hF.z hnow (by rw [know]; rfl)).trans z11
  have z67 : q_z f55 now 4 = 0 := (hF.z hnow (by rw [know]; rfl)).trans z12
  have z68 : q_z f55 now 5 = 0 := (hF.z hnow (by rw [know]; rfl)).trans z13
  have z69 : q_z f55 now 6 = 12 := (hF.z hnow (by rw [know]; rfl)).trans z14
  have z70 : q_z f55 now 10 = 3 := (hF.z hnow (by rw [know]; rfl)).trans z15
  have z71 : q_z f55 now 11 = 0 := (hF.z hnow (by rw [know]; rfl)).trans z16
  have z72 : q_z f55 now 12 = 0 := (hF.z hnow (by rw [know]; rfl)).trans z17
  have z73 : q_r f55 x 0 = src := (hF.r hx (by rw [kx]; rfl)).trans z36
  have z74 : q_r f55 x 1 = rdr := (hF.r hx (by rw [kx]; rfl)).trans z37
  have z75 : q_r f55 x 2 = scr := (hF.r hx (by rw [kx]; rfl)).trans z38
  have z76 : q_r f55 x 3 = fc := (hF.r hx (by rw [kx]; rfl)).trans z39
  have z77 : q_r f55 x 4 = hist := (hF.r hx (by rw [kx]; rfl)).trans z40
  have z78 : q_r f55 x 5 = rep := (hF.r hx (by rw [kx]; rfl)).trans z41
  have z79 : q_r f55 x 6 = now := (hF.r hx (by rw [kx]; rfl)).trans z42
  have z80 : q_r f55 x 7 = dr := (hF.r hx (by rw [kx]; rfl)).trans z43
  have z81 : q_r f55 x 8 = sv := (hF.r hx (by rw [kx]; rfl)).trans z44
  have z82 : q_r f55 fc 0 = tr := (hF.r hfc (by rw [kfc]; rfl)).trans z45
  subst qy56
  refine lv_istore (lv' := [(7, .int (q_i 0)), (6, .int (q_i 1)), (5, .int (q_i 0)), (0, .ref b), (1, .ref x), (2, .ref mo), (3, .ref out), (4, .ref outD)]) cx.1 cx.2.1 dL_law_789 hl (by decide) rfl (fun ls hl => ?_)
  refine q_ald_n cx dL_law_791 rfl (lv_at hl 5 rfl) ?_
  refine q_cVi (As := []) (rest := []) cx hB (fun q h => hLA q h) hN hmo kmo (by decide) rfl (r_thrown l g hN hB.2.1 mo hmo kmo 1 (by decide) (by decide) z58) q_cL_124 q_dX12_thrown (by decide) rfl rfl hl.1 rfl (Nat.le_of_ble_eq_true rfl) dL_law_792 (fun y84 H locs f83 ry84 h85 hF hB => ?_)
  obtain ⟨rfl, qy84⟩ := h85
  subst qy84
  refine lv_iload cx.1 cx.2.1 dL_law_795 (lv_at hl 1 rfl) ?_
  refine q_iceq (tgt := 802) cx ⟨by decide, by decide⟩ ⟨by decide, by decide⟩ dL_law_797 (by decide) (fun c86 => ?_) (fun c86 => ?_)
  · refine lv_iload cx.1 cx.2.1 dL_law_802 (lv_at hl 1 rfl) ?_
    refine q_ifne (tgt := 819) cx ⟨by decide, by decide⟩ dL_law_804 (by decide) (fun c87 => ?_) (fun c87 => ?_)
    · refine lv_goto (tgt := 2394) cx.1 cx.2.1 dL_law_819 (by decide) ?_
      refine q_iinc (lv' := [(5, .int (q_i (0 + 6))), (7, .int (q_i 0)), (6, .int (q_i 1)), (0, .ref b), (1, .ref x), (2, .ref mo), (3, .ref out), (4, .ref outD)]) cx dL_law_2394 hl (k := 2) rfl (by decide) rfl (fun ls hl => ?_)
      refine lv_goto (tgt := 28) cx.1 cx.2.1 dL_law_2397 (by decide) ?_
      refine lv_iload cx.1 cx.2.1 dL_law_28 (lv_at hl 0 rfl) ?_
      refine q_ald_n cx dL_law_30 rfl (lv_at hl 3 rfl) ?_
      refine va_slen cx.1 cx.2.1 hXs hbl hbA hB.1.2.2.2 dL_law_31 ?_
      rw [show Int32.ofNat 6 = q_i 6 from by decide]
      refine q_bipush cx dL_law_32 rfl ?_
      refine q_isub cx dL_law_34 ?_
      refine q_icgt (tgt := 2400) cx ⟨by decide, by decide⟩ ⟨by decide, by decide⟩ dL_law_35 (by decide) (fun c88 => ?_) (fun c88 => ?_)
      · refine q_iconst cx dL_law_2400 ?_
        exact q_lawret C0 hB (by decide) (by decide) dL_law_2401
      · exact absurd c88 (by omega)
    · exact absurd c87 (by omega)
  · exact absurd c86 (by omega)
set_option maxHeartbeats 4000000 in
set_option maxRecDepth 100000 in
theorem law_c822 {p : Program} {l : Launch} {e : Env} {s : State} {m : MethodId} {below : List Frame} {meth : Method} {c : Code} {b : Nat} {xs : Nat → Int32} (hfl : l.stackTraces = false) (C0 : lw_At p s m meth c b 6 xs) (cx : CallFix p m c cL_law 10 s #[Value.ref b] q_al RL) {g : q_G} {K : Nat → Nat} {L : List Nat} {f : Nat → va_E} {H : Heap} {locs : List Loc} {ls : Array Slot} (hN : L.Nodup) (hLA : ∀ q, q ∈ L → s.heap.size ≤ q) (hX : q_X (fun q => q ∈ L) s) (hB : q_B g K L (fun q => s.heap.size ≤ q) [(2, 1, 2), (6, 1, 1), (7, 1, 4), (8, 1, 9), (9, 0, 2), (10, 3, 15), (11, 9, 9), (12, 0, 40), (13, 3, 15), (14, 3, 15), (15, 3, 15), (16, 3, 15), (142, 0, 599), (150, 0, 599), (151, 0, 657), (152, 0, 657), (153, 0, 657), (154, 0, 657), (155, 0, 3947), (156, 0, 9), (157, 0, 9), (158, 0, 9), (168, 0, 0), (169, 0, 0)] f f s H locs) {x : Nat} (hx : x ∈ L) (kx : K x = 11) {src : Nat} (hsrc : src ∈ L) (ksrc : K src = 8) {rdr : Nat} (hrdr : rdr ∈ L) (krdr : K rdr = 9) {scr : Nat} (hscr : scr ∈ L) (kscr : K scr = 7) {fc : Nat} (hfc : fc ∈ L) (kfc : K fc = 1) {hist : Nat} (hhist : hist ∈ L) (khist : K hist = 2) {rep : Nat} (hrep : rep ∈ L) (krep : K rep = 6) {now : Nat} (hnow : now ∈ L) (know : K now = 10) {dr : Nat} (hdr : dr ∈ L) (kdr : K dr = 13) {sv : Nat} (hsv : sv ∈ L) (ksv : K sv = 14) {tr : Nat} (htr : tr ∈ L) (ktr : K tr = 15) {mo : Nat} (hmo : mo ∈ L) (kmo : K mo = 12) {bu : Nat} (hbu : bu ∈ L) (kbu : K bu = 150) {sr : Nat} (hsr : sr ∈ L) (ksr : K sr = 151) {sd : Nat} (hsd : sd ∈ L) (ksd : K sd = 152) {as : Nat} (has : as ∈ L) (kas : K as = 153) {aw : Nat} (haw : aw ∈ L) (kaw : K aw = 154) {pa : Nat} (hpa : pa ∈ L) (kpa : K pa = 155) {nm : Nat} (hnm : nm ∈ L) (knm : K nm = 156) {snm : Nat} (hsnm : snm ∈ L) (ksnm : K snm = 157) {anm : Nat} (hanm : anm ∈ L) (kanm : K anm = 158) {out : Nat} (hout : out ∈ L) (kout : K out = 168) {outD : Nat} (houtD : outD ∈ L) (koutD : K outD = 169) (hf0 : q_z f x 9 = 0) (hf1 : q_z f src 1 = 0) (hf2 : q_z f src 2 = 0) (hf3 : q_z f src 3 = (-1)) (hf4 : q_z f hist 1 = 0) (hf5 : q_z f hist 2 = 0) (hf6 : q_z f rep 1 = 0) (hf7 : q_z f now 3 = 0) (hf8 : q_z f now 4 = 0) (hf9 : q_z f now 5 = 0) (hf10 : q_z f now 6 = 12) (hf11 : q_z f now 10 = 3) (hf12 : q_z f now 11 = 0) (hf13 : q_z f now 12 = 0) (hf14 : q_z f mo 2 = 0) (hf15 : q_z f mo 8 = 0) (hf16 : q_z f mo 9 = (-1)) (hf17 : q_z f mo 10 = 0) (hf18 : q_z f mo 11 = (-1)) (hf19 : q_z f mo 21 = 0) (hf20 : q_z f mo 22 = 0) (hf21 : q_z f mo 40 = 0) (hf22 : q_z f sr 0 = 0) (hf23 : q_z f sr 1 = 0) (hf24 : q_z f sr 2 = 12) (hf25 : q_z f sr 3 = 0) (hf26 : q_z f sr 4 = 0) (hf27 : q_z f sr 5 = 1) (hf28 : q_z f sr 6 = 2) (hf29 : q_z f sr 7 = 5) (hf30 : q_z f sr 8 = 3) (hf31 : q_z f sr 9 = 0) (hr0 : q_r f x 0 = src) (hr1 : q_r f x 1 = rdr) (hr2 : q_r f x 2 = scr) (hr3 : q_r f x 3 = fc) (hr4 : q_r f x 4 = hist) (hr5 : q_r f x 5 = rep) (hr6 : q_r f x 6 = now) (hr7 : q_r f x 7 = dr) (hr8 : q_r f x 8 = sv) (hr9 : q_r f fc 0 = tr) (hr10 : q_r f mo 1 = bu) (hr11 : q_r f mo 13 = sr) (hr12 : q_r f mo 14 = sd) (hr13 : q_r f mo 15 = as) (hr14 : q_r f mo 16 = aw) (hr15 : q_r f mo 17 = pa) (hr16 : q_r f mo 18 = nm) (hr17 : q_r f mo 19 = snm) (hr18 : q_r f mo 20 = anm) (hl : lv_has ls 10 [(5, .int (q_i 0)), (0, .ref b), (1, .ref x), (2, .ref mo), (3, .ref out), (4, .ref outD)]) : W p l e room_1 s m #[Value.ref b] below meth c H locs 1100 20000 (lw_Z below #[Value.ref b] s) (F0 m 822 ls []) := by
  have hXs := C0.2.2.2.2.2.2.1
  have hbl := C0.2.2.2.2.2.2.2.1
  have hbA := q_bA hbl
  obtain ⟨x0, rx0, ex0⟩ : ∃ z : Int, q_R z ∧ xs 0 = q_i z := ⟨_, q_rng _, (q_of _).symm⟩
  have lx0 := rx0.1
  have ux0 := rx0.2
  obtain ⟨x1, rx1, ex1⟩ : ∃ z : Int, q_R z ∧ xs 1 = q_i z := ⟨_, q_rng _, (q_of _).symm⟩
  have lx1 := rx1.1
  have ux1 := rx1.2
  obtain ⟨x2, rx2, ex2⟩ : ∃ z : Int, q_R z ∧ xs 2 = q_i z := ⟨_, q_rng _, (q_of _).symm⟩
  have lx2 := rx2.1
  have ux2 := rx2.2
  obtain ⟨x3, rx3, ex3⟩ : ∃ z : Int, q_R z ∧ xs 3 = q_i z := ⟨_, q_rng _, (q_of _).symm⟩
  have lx3 := rx3.1
  have ux3 := rx3.2
  obtain ⟨x4, rx4, ex4⟩ : ∃ z : Int, q_R z ∧ xs 4 = q_i z := ⟨_, q_rng _, (q_of _).symm⟩
  have lx4 := rx4.1
  have ux4 := rx4.2
  obtain ⟨x5, rx5, ex5⟩ : ∃ z : Int, q_R z ∧ xs 5 = q_i z := ⟨_, q_rng _, (q_of _).symm⟩
  have lx5 := rx5.1
  have ux5 := rx5.2
  refine q_ald_n cx dL_law_822 rfl (lv_at hl 2 rfl) ?_
  refine q_ald_n cx dL_law_823 rfl (lv_at hl 1 rfl) ?_
  refine lv_iload cx.1 cx.2.1 dL_law_824 (lv_at hl 0 rfl) ?_
  refine q_iconst cx dL_law_826 ?_
  refine q_iadd cx dL_law_827 ?_
  refine va_sld cx.1 cx.2.1 hXs hbl hbA hB.1.2.2.2 (q_in (by decide) (by decide) (by decide)) dL_law_828 ?_
  rw [show (q_i (0 + 1)).toNatClampNeg = 1 from by decide, ex1]
  refine q_ald_n cx dL_law_829 rfl (lv_at hl 1 rfl) ?_
  refine lv_iload cx.1 cx.2.1 dL_law_830 (lv_at hl 0 rfl) ?_
  refine q_iconst cx dL_law_832 ?_
  refine q_iadd cx dL_law_833 ?_
  refine va_sld cx.1 cx.2.1 hXs hbl hbA hB.1.2.2.2 (q_in (by decide) (by decide) (by decide)) dL_law_834 ?_
  rw [show (q_i (0 + 2)).toNatClampNeg = 2 from by decide, ex2]
  refine q_ald_n cx dL_law_835 rfl (lv_at hl 4 rfl) ?_
  refine q_cWS (As := [.ref x, .int (q_i x1), .int (q_i x2), .ref out]) (rest := []) cx hX hB (fun q h => hLA q h) (fun q h1 h2 => absurd h1 (Nat.not_le_of_lt h2)) hN (w_inTable l g hN hB.2.1 hfl x hx kx x1 (by omega) (by omega) x2 (by omega) (by omega) out hout kout src hsrc ksrc rdr hrdr krdr scr hscr kscr fc hfc kfc hist hhist khist rep hrep krep now hnow know dr hdr kdr sv hsv ksv tr htr ktr hf0 hf1 hf2 hf3 hf4 hf5 hf6 hf7 hf8 hf9 hf10 hf11 hf12 hf13 hr0 hr1 hr2 hr3 hr4 hr5 hr6 hr7 hr8 hr9) q_cL_162 q_dL_inTable (by decide) rfl rfl hl.1 rfl (Nat.le_of_ble_eq_true rfl) dL_law_836 (fun v9 H locs f1 h3 hF hB => ?_)
  obtain ⟨y2, rfl, ry2, h3⟩ := h3
  refine W.eq (g2 := F0 m 839 ls [.int (q_i y2)]) rfl ?_
  have qy2 := h3
  have z4 : q_z f1 x 9 = 0 := (hF.z hx (by rw [kx]; rfl)).trans hf0
  have z5 : q_z f1 src 1 = 0 := (hF.z hsrc (by rw [ksrc]; rfl)).trans hf1
  have z6 : q_z f1 src 2 = 0 := (hF.z hsrc (by rw [ksrc]; rfl)).trans hf2
  have z7 : q_z f1 src 3 = (-1) := (hF.z hsrc (by rw [ksrc]; rfl)).trans hf3
  have z8 : q_z f1 hist 1 = 0 := (hF.z hhist (by rw [khist]; rfl)).trans hf4
  have z9 : q_z f1 hist 2 = 0 := (hF.z hhist (by rw [khist]; rfl)).trans hf5
  have z10 : q_z f1 rep 1 = 0 := (hF.z hrep (by rw [krep]; rfl)).trans hf6
  have z11 : q_z f1 now 3 = 0 := (hF.z hnow (by rw [know]; rfl)).trans hf7
  have z12 : q_z f1 now 4 = 0 := (hF.z hnow (by rw [know]; rfl)).trans hf8
  have z13 : q_z f1 now 5 = 0 := (hF.z hnow (by rw [know]; rfl)).trans hf9
  have z14 : q_z f1 now 6 = 12 := (hF.z hnow (by rw [know]; rfl)).trans hf10
  have z15 : q_z f1 now 10 = 3 := (hF.z hnow (by rw [know]; rfl)).trans hf11
  have z16 : q_z f1 now 11 = 0 := (hF.z hnow (by rw [know]; rfl)).trans hf12
  have z17 : q_z f1 now 12 = 0 := (hF.z hnow (by rw [know]; rfl)).trans hf13
  have z18 : q_z f1 mo 2 = 0 := (hF.z hmo (by rw [kmo]; rfl)).trans hf14
  have z19 : q_z f1 mo 8 = 0 := (hF.z hmo (by rw [kmo]; rfl)).trans hf15
  have z20 : q_z f1 mo 9 = (-1) := (hF.z hmo (by rw [kmo]; rfl)).trans hf16
  have z21 : q_z f1 mo 10 = 0 := (hF.z hmo (by rw [kmo]; rfl)).trans hf17
  have z22 : q_z f1 mo 11 = (-1) := (hF.z hmo (by rw [kmo]; rfl)).trans hf18
  have z23 : q_z f1 mo 21 = 0 := (hF.z hmo (by rw [kmo]; rfl)).trans hf19
  have z24 : q_z f1 mo 22 = 0 := (hF.z hmo (by rw [kmo]; rfl)).trans hf20
  have z25 : q_z f1 mo 40 = 0 := (hF.z hmo (by rw [kmo]; rfl)).trans hf21
  have z26 : q_z f1 sr 0 = 0 := (hF.z hsr (by rw [ksr]; rfl)).trans hf22
  have z27 : q_z f1 sr 1 = 0 := (hF.z hsr (by rw [ksr]; rfl)).trans hf23
  have z28 : q_z f1 sr 2 = 12 := (hF.z hsr (by rw [ksr]; rfl)).trans hf24
  have z29 : q_z f1 sr 3 = 0 := (hF.z hsr (by rw [ksr]; rfl)).trans hf25
  have z30 : q_z f1 sr 4 = 0 := (hF.z hsr (by rw [ksr]; rfl)).trans hf26
  have z31 : q_z f1 sr 5 = 1 := (hF.z hsr (by rw [ksr]; rfl)).trans hf27
  have z32 : q_z f1 sr 6 = 2 := (hF.z hsr (by rw [ksr]; rfl)).trans hf28
  have z33 : q_z f1 sr 7 = 5 := (hF.z hsr (by rw [ksr]; rfl)).trans hf29
  have z34 : q_z f1 sr 8 = 3 := (hF.z hsr (by rw [ksr]; rfl)).trans hf30
  have z35 : q_z f1 sr 9 = 0 := (hF.z hsr (by rw [ksr]; rfl)).trans hf31
  have z36 : q_r f1 x 0 = src := (hF.r hx (by rw [kx]; rfl)).trans hr0
  have z37 : q_r f1 x 1 = rdr := (hF.r hx (by rw [kx]; rfl)).trans hr1
  have z38 : q_r f1 x 2 = scr := (hF.r hx (by rw [kx]; rfl)).trans hr2
  have z39 : q_r f1 x 3 = fc := (hF.r hx (by rw [kx]; rfl)).trans hr3
  have z40 : q_r f1 x 4 = hist := (hF.r hx (by rw [kx]; rfl)).trans hr4
  have z41 : q_r f1 x 5 = rep := (hF.r hx (by rw [kx]; rfl)).trans hr5
  have z42 : q_r f1 x 6 = now := (hF.r hx (by rw [kx]; rfl)).trans hr6
  have z43 : q_r f1 x 7 = dr := (hF.r hx (by rw [kx]; rfl)).trans hr7
  have z44 : q_r f1 x 8 = sv := (hF.r hx (by rw [kx]; rfl)).trans hr8
  have z45 : q_r f1 fc 0 = tr := (hF.r hfc (by rw [kfc]; rfl)).trans hr9
  have z46 : q_r f1 mo 1 = bu := (hF.r hmo (by rw [kmo]; rfl)).trans hr10
  have z47 : q_r f1 mo 13 = sr := (hF.r hmo (by rw [kmo]; rfl)).trans hr11
  have z48 : q_r f1 mo 14 = sd := (hF.r hmo (by rw [kmo]; rfl)).trans hr12
  have z49 : q_r f1 mo 15 = as := (hF.r hmo (by rw [kmo]; rfl)).trans hr13
  have z50 : q_r f1 mo 16 = aw := (hF.r hmo (by rw [kmo]; rfl)).trans hr14
  have z51 : q_r f1 mo 17 = pa := (hF.r hmo (by rw [kmo]; rfl)).trans hr15
  have z52 : q_r f1 mo 18 = nm := (hF.r hmo (by rw [kmo]; rfl)).trans hr16
  have z53 : q_r f1 mo 19 = snm := (hF.r hmo (by rw [kmo]; rfl)).trans hr17
  have z54 : q_r f1 mo 20 = anm := (hF.r hmo (by rw [kmo]; rfl)).trans hr18
  subst qy2
  refine lv_istore (lv' := [(6, .int (q_i 1)), (5, .int (q_i 0)), (0, .ref b), (1, .ref x), (2, .ref mo), (3, .ref out), (4, .ref outD)]) cx.1 cx.2.1 dL_law_839 hl (by decide) rfl (fun ls hl => ?_)
  refine q_ald_n cx dL_law_841 rfl (lv_at hl 4 rfl) ?_
  refine q_ald_n cx dL_law_842 rfl (lv_at hl 2 rfl) ?_
  refine lv_iload cx.1 cx.2.1 dL_law_843 (lv_at hl 1 rfl) ?_
  refine q_iconst cx dL_law_845 ?_
  refine q_iadd cx dL_law_846 ?_
  refine va_sld cx.1 cx.2.1 hXs hbl hbA hB.1.2.2.2 (q_in (by decide) (by decide) (by decide)) dL_law_847 ?_
  rw [show (q_i (0 + 1)).toNatClampNeg = 1 from by decide, ex1]
  refine q_ald_n cx dL_law_848 rfl (lv_at hl 2 rfl) ?_
  refine lv_iload cx.1 cx.2.1 dL_law_849 (lv_at hl 1 rfl) ?_
  refine q_iconst cx dL_law_851 ?_
  refine q_iadd cx dL_law_852 ?_
  refine va_sld cx.1 cx.2.1 hXs hbl hbA hB.1.2.2.2 (q_in (by decide) (by decide) (by decide)) dL_law_853 ?_
  rw [show (q_i (0 + 2)).toNatClampNeg = 2 from by decide, ex2]
  refine q_cVi (As := [.int (q_i x1), .int (q_i x2)]) (rest := []) cx hB (fun q h => hLA q h) hN hmo kmo (by decide) rfl (p_inTable l g hN hB.2.1 mo hmo kmo x1 (by omega) (by omega) x2 (by omega) (by omega) bu hbu kbu sr hsr ksr sd hsd ksd as has kas aw haw kaw pa hpa kpa nm hnm knm snm hsnm ksnm anm hanm kanm z18 z19 z20 z21 z22 z23 z24 z25 z26 z27 z28 z29 z30 z31 z32 z33 z34 z35 z46 z47 z48 z49 z50 z51 z52 z53 z54) q_cL_164 q_dX12_inTable (by decide) rfl rfl hl.1 rfl (Nat.le_of_ble_eq_true rfl) dL_law_854 (fun y56 H locs f55 ry56 h57 hF hB => ?_)
  obtain ⟨qy56, z58⟩ := h57
  have z59 : q_z f55 x 9 = 0 := (hF.z hx (by rw [kx]; rfl)).trans z4
  have z60 : q_z f55 src 1 = 0 := (hF.z hsrc (by rw [ksrc]; rfl)).trans z5
  have z61 : q_z f55 src 2 = 0 := (hF.z hsrc (by rw [ksrc]; rfl)).trans z6
  have z62 : q_z f55 src 3 = (-1) := (hF.z hsrc (by rw [ksrc]; rfl)).trans z7
  have z63 : q_z f55 hist 1 = 0 := (hF.z hhist (by rw [khist]; rfl)).trans z8
  have z64 : q_z f55 hist 2 = 0 := (hF.z hhist (by rw [khist]; rfl)).trans z9
  have z65 : q_z f55 rep 1 = 0 := (hF.z hrep (by rw [krep]; rfl)).trans z10
  have z66 : q_z f55 now 3 = 0 := (hF.z hnow (by rw [know]; rfl)).trans z11
  have z67 : q_z f55 now 4 = 0 := (hF.z hnow (by rw [know]; rfl)).trans z12
  have z68 : q_z f55 now 5 = 0 := (hF.z hnow (by rw [know]; rfl)).trans z13
  have z69 : q_z f55 now 6 = 12 := (hF.z hnow (by rw [know]; rfl)).trans z14
  have z70 : q_z f55 now 10 = 3 := (hF.z hnow (by rw [know]; rfl)).trans z15
  have z71 : q_z f55 now 11 = 0 := (hF.z hnow (by rw [know]; rfl)).trans z16
  have z72 : q_z f55 now 12 = 0 := (hF.z hnow (by rw [know]; rfl)).trans z17
  have z73 : q_r f55 x 0 = src := (hF.r hx (by rw [kx]; rfl)).trans z36
  have z74 : q_r f55 x 1 = rdr := (hF.r hx (by rw [kx]; rfl)).trans z37
  have z75 : q_r f55 x 2 = scr := (hF.r hx (by rw [kx]; rfl)).trans z38
  have z76 : q_r f55 x 3 = fc := (hF.r hx (by rw [kx]; rfl)).trans z39
  have z77 : q_r f55 x 4 = hist := (hF.r hx (by rw [kx]; rfl)).trans z40
  have z78 : q_r f55 x 5 = rep := (hF.r hx (by rw [kx]; rfl)).trans z41
  have z79 : q_r f55 x 6 = now := (hF.r hx (by rw [kx]; rfl)).trans z42
  have z80 : q_r f55 x 7 = dr := (hF.r hx (by rw [kx]; rfl)).trans z43
  have z81 : q_r f55 x 8 = sv := (hF.r hx (by rw [kx]; rfl)).trans z44
  have z82 : q_r f55 fc 0 = tr := (hF.r hfc (by rw [kfc]; rfl)).trans z45
  subst qy56
  refine lv_istore (lv' := [(7, .int (q_i 0)), (6, .int (q_i 1)), (5, .int (q_i 0)), (0, .ref b), (1, .ref x), (2, .ref mo), (3, .ref out), (4, .ref outD)]) cx.1 cx.2.1 dL_law_857 hl (by decide) rfl (fun ls hl => ?_)
  refine q_ald_n cx dL_law_859 rfl (lv_at hl 5 rfl) ?_
  refine q_cVi (As := []) (rest := []) cx hB (fun q h => hLA q h) hN hmo kmo (by decide) rfl (r_thrown l g hN hB.2.1 mo hmo kmo 1 (by decide) (by decide) z58) q_cL_124 q_dX12_thrown (by decide) rfl rfl hl.1 rfl (Nat.le_of_ble_eq_true rfl) dL_law_860 (fun y84 H locs f83 ry84 h85 hF hB => ?_)
  obtain ⟨rfl, qy84⟩ := h85
  subst qy84
  refine lv_iload cx.1 cx.2.1 dL_law_863 (lv_at hl 1 rfl) ?_
  refine q_iceq (tgt := 870) cx ⟨by decide, by decide⟩ ⟨by decide, by decide⟩ dL_law_865 (by decide) (fun c86 => ?_) (fun c86 => ?_)
  · refine lv_iload cx.1 cx.2.1 dL_law_870 (lv_at hl 1 rfl) ?_
    refine q_ifne (tgt := 894) cx ⟨by decide, by decide⟩ dL_law_872 (by decide) (fun c87 => ?_) (fun c87 => ?_)
    · refine lv_goto (tgt := 2394) cx.1 cx.2.1 dL_law_894 (by decide) ?_
      refine q_iinc (lv' := [(5, .int (q_i (0 + 6))), (7, .int (q_i 0)), (6, .int (q_i 1)), (0, .ref b), (1, .ref x), (2, .ref mo), (3, .ref out), (4, .ref outD)]) cx dL_law_2394 hl (k := 2) rfl (by decide) rfl (fun ls hl => ?_)
      refine lv_goto (tgt := 28) cx.1 cx.2.1 dL_law_2397 (by decide) ?_
      refine lv_iload cx.1 cx.2.1 dL_law_28 (lv_at hl 0 rfl) ?_
      refine q_ald_n cx dL_law_30 rfl (lv_at hl 3 rfl) ?_
      refine va_slen cx.1 cx.2.1 hXs hbl hbA hB.1.2.2.2 dL_law_31 ?_
      rw [show Int32.ofNat 6 = q_i 6 from by decide]
      refine q_bipush cx dL_law_32 rfl ?_
      refine q_isub cx dL_law_34 ?_
      refine q_icgt (tgt := 2400) cx ⟨by decide, by decide⟩ ⟨by decide, by decide⟩ dL_law_35 (by decide) (fun c88 => ?_) (fun c88 => ?_)
      · refine q_iconst cx dL_law_2400 ?_
        exact q_lawret C0 hB (by decide) (by decide) dL_law_2401
      · exact absurd c88 (by omega)
    · exact absurd c87 (by omega)
  · exact absurd c86 (by omega)
set_option maxHeartbeats 4000000 in
set_option maxRecDepth 100000 in
theorem law_c897 {p : Program} {l : Launch} {e : Env} {s : State} {m : MethodId} {below : List Frame} {meth : Method} {c : Code} {b : Nat} {xs : Nat → Int32} (hfl : l.stackTraces = false) (C0 : lw_At p s m meth c b 6 xs) (cx : CallFix p m c cL_law 10 s #[Value.ref b] q_al RL) {g : q_G} {K : Nat → Nat} {L : List Nat} {f : Nat → va_E} {H : Heap} {locs : List Loc} {ls : Array Slot} (hN : L.Nodup) (hLA : ∀ q, q ∈ L → s.heap.size ≤ q) (hX : q_X (fun q => q ∈ L) s) (hB : q_B g K L (fun q => s.heap.size ≤ q) [(2, 1, 2), (6, 1, 1), (7, 1, 4), (8, 1, 9), (9, 0, 2), (10, 3, 15), (11, 9, 9), (12, 0, 40), (13, 3, 15), (14, 3, 15), (15, 3, 15), (16, 3, 15), (142, 0, 599), (150, 0, 599), (151, 0, 657), (152, 0, 657), (153, 0, 657), (154, 0, 657), (155, 0, 3947), (156, 0, 9), (157, 0, 9), (158, 0, 9), (168, 0, 0), (169, 0, 0)] f f s H locs) {x : Nat} (hx : x ∈ L) (kx : K x = 11) {src : Nat} (hsrc : src ∈ L) (ksrc : K src = 8) {rdr : Nat} (hrdr : rdr ∈ L) (krdr : K rdr = 9) {scr : Nat} (hscr : scr ∈ L) (kscr : K scr = 7) {fc : Nat} (hfc : fc ∈ L) (kfc : K fc = 1) {hist : Nat} (hhist : hist ∈ L) (khist : K hist = 2) {rep : Nat} (hrep : rep ∈ L) (krep : K rep = 6) {now : Nat} (hnow : now ∈ L) (know : K now = 10) {dr : Nat} (hdr : dr ∈ L) (kdr : K dr = 13) {sv : Nat} (hsv : sv ∈ L) (ksv : K sv = 14) {tr : Nat} (htr : tr ∈ L) (ktr : K tr = 15) {mo : Nat} (hmo : mo ∈ L) (kmo : K mo = 12) {bu : Nat} (hbu : bu ∈ L) (kbu : K bu = 150) {sr : Nat} (hsr : sr ∈ L) (ksr : K sr = 151) {sd : Nat} (hsd : sd ∈ L) (ksd : K sd = 152) {as : Nat} (has : as ∈ L) (kas : K as = 153) {aw : Nat} (haw : aw ∈ L) (kaw : K aw = 154) {pa : Nat} (hpa : pa ∈ L) (kpa : K pa = 155) {nm : Nat} (hnm : nm ∈ L) (knm : K nm = 156) {snm : Nat} (hsnm : snm ∈ L) (ksnm : K snm = 157) {anm : Nat} (hanm : anm ∈ L) (kanm : K anm = 158) {out : Nat} (hout : out ∈ L) (kout : K out = 168) {outD : Nat} (houtD : outD ∈ L) (koutD : K outD = 169) (hf0 : q_z f x 9 = 0) (hf1 : q_z f src 1 = 0) (hf2 : q_z f src 2 = 0) (hf3 : q_z f src 3 = (-1)) (hf4 : q_z f hist 1 = 0) (hf5 : q_z f hist 2 = 0) (hf6 : q_z f rep 1 = 0) (hf7 : q_z f now 3 = 0) (hf8 : q_z f now 4 = 0) (hf9 : q_z f now 5 = 0) (hf10 : q_z f now 6 = 12) (hf11 : q_z f now 10 = 3) (hf12 : q_z f now 11 = 0) (hf13 : q_z f now 12 = 0) (hf14 : q_z f mo 2 = 0) (hf15 : q_z f mo 8 = 0) (hf16 : q_z f mo 9 = (-1)) (hf17 : q_z f mo 10 = 0) (hf18 : q_z f mo 11 = (-1)) (hf19 : q_z f mo 21 = 0) (hf20 : q_z f mo 22 = 0) (hf21 : q_z f mo 40 = 0) (hf22 : q_z f sr 0 = 0) (hf23 : q_z f sr 1 = 0) (hf24 : q_z f sr 2 = 12) (hf25 : q_z f sr 3 = 0) (hf26 : q_z f sr 4 = 0) (hf27 : q_z f sr 5 = 1) (hf28 : q_z f sr 6 = 2) (hf29 : q_z f sr 7 = 5) (hf30 : q_z f sr 8 = 3) (hf31 : q_z f sr 9 = 0) (hr0 : q_r f x 0 = src) (hr1 : q_r f x 1 = rdr) (hr2 : q_r f x 2 = scr) (hr3 : q_r f x 3 = fc) (hr4 : q_r f x 4 = hist) (hr5 : q_r f x 5 = rep) (hr6 : q_r f x 6 = now) (hr7 : q_r f x 7 = dr) (hr8 : q_r f x 8 = sv) (hr9 : q_r f fc 0 = tr) (hr10 : q_r f mo 1 = bu) (hr11 : q_r f mo 13 = sr) (hr12 : q_r f mo 14 = sd) (hr13 : q_r f mo 15 = as) (hr14 : q_r f mo 16 = aw) (hr15 : q_r f mo 17 = pa) (hr16 : q_r f mo 18 = nm) (hr17 : q_r f mo 19 = snm) (hr18 : q_r f mo 20 = anm) (hl : lv_has ls 10 [(5, .int (q_i 0)), (0, .ref b), (1, .ref x), (2, .ref mo), (3, .ref out), (4, .ref outD)]) : W p l e room_1 s m #[Value.ref b] below meth c H locs 1100 20000 (lw_Z below #[Value.ref b] s) (F0 m 897 ls []) := by
  have hXs := C0.2.2.2.2.2.2.1
  have hbl := C0.2.2.2.2.2.2.2.1
  have hbA := q_bA hbl
  obtain ⟨x0, rx0, ex0⟩ : ∃ z : Int, q_R z ∧ xs 0 = q_i z := ⟨_, q_rng _, (q_of _).symm⟩
  have lx0 := rx0.1
  have ux0 := rx0.2
  obtain ⟨x1, rx1, ex1⟩ : ∃ z : Int, q_R z ∧ xs 1 = q_i z := ⟨_, q_rng _, (q_of _).symm⟩
  have lx1 := rx1.1
  have ux1 := rx1.2
  obtain ⟨x2, rx2, ex2⟩ : ∃ z : Int, q_R z ∧ xs 2 = q_i z := ⟨_, q_rng _, (q_of _).symm⟩
  have lx2 := rx2.1
  have ux2 := rx2.2
  obtain ⟨x3, rx3, ex3⟩ : ∃ z : Int, q_R z ∧ xs 3 = q_i z := ⟨_, q_rng _, (q_of _).symm⟩
  have lx3 := rx3.1
  have ux3 := rx3.2
  obtain ⟨x4, rx4, ex4⟩ : ∃ z : Int, q_R z ∧ xs 4 = q_i z := ⟨_, q_rng _, (q_of _).symm⟩
  have lx4 := rx4.1
  have ux4 := rx4.2
  obtain ⟨x5, rx5, ex5⟩ : ∃ z : Int, q_R z ∧ xs 5 = q_i z := ⟨_, q_rng _, (q_of _).symm⟩
  have lx5 := rx5.1
  have ux5 := rx5.2
  refine q_ald_n cx dL_law_897 rfl (lv_at hl 2 rfl) ?_
  refine q_ald_n cx dL_law_898 rfl (lv_at hl 1 rfl) ?_
  refine lv_iload cx.1 cx.2.1 dL_law_899 (lv_at hl 0 rfl) ?_
  refine q_iconst cx dL_law_901 ?_
  refine q_iadd cx dL_law_902 ?_
  refine va_sld cx.1 cx.2.1 hXs hbl hbA hB.1.2.2.2 (q_in (by decide) (by decide) (by decide)) dL_law_903 ?_
  rw [show (q_i (0 + 1)).toNatClampNeg = 1 from by decide, ex1]
  refine lv_aload cx.1 cx.2.1 dL_law_904 (lv_at hl 5 rfl) ?_
  refine q_cWS (As := [.ref x, .int (q_i x1), .ref outD]) (rest := []) cx hX hB (fun q h => hLA q h) (fun q h1 h2 => absurd h1 (Nat.not_le_of_lt h2)) hN (w_duty l g hN hB.2.1 hfl x hx kx x1 (by omega) (by omega) outD houtD koutD src hsrc ksrc rdr hrdr krdr scr hscr kscr fc hfc kfc hist hhist khist rep hrep krep now hnow know dr hdr kdr sv hsv ksv tr htr ktr hf0 hf1 hf2 hf3 hf4 hf5 hf6 hf7 hf8 hf9 hf10 hf11 hf12 hf13 hr0 hr1 hr2 hr3 hr4 hr5 hr6 hr7 hr8 hr9) q_cL_165 q_dL_duty (by decide) rfl rfl hl.1 rfl (Nat.le_of_ble_eq_true rfl) dL_law_906 (fun v9 H locs f1 h3 hF hB => ?_)
  obtain ⟨y2, rfl, ry2, h3⟩ := h3
  refine W.eq (g2 := F0 m 909 ls [.int (q_i y2)]) rfl ?_
  have qy2 := h3
  have z4 : q_z f1 x 9 = 0 := (hF.z hx (by rw [kx]; rfl)).trans hf0
  have z5 : q_z f1 src 1 = 0 := (hF.z hsrc (by rw [ksrc]; rfl)).trans hf1
  have z6 : q_z f1 src 2 = 0 := (hF.z hsrc (by rw [ksrc]; rfl)).trans hf2
  have z7 : q_z f1 src 3 = (-1) := (hF.z hsrc (by rw [ksrc]; rfl)).trans hf3
  have z8 : q_z f1 hist 1 = 0 := (hF.z hhist (by rw [khist]; rfl)).trans hf4
  have z9 : q_z f1 hist 2 = 0 := (hF.z hhist (by rw [khist]; rfl)).trans hf5
  have z10 : q_z f1 rep 1 = 0 := (hF.z hrep (by rw [krep]; rfl)).trans hf6
  have z11 : q_z f1 now 3 = 0 := (hF.z hnow (by rw [know]; rfl)).trans hf7
  have z12 : q_z f1 now 4 = 0 := (hF.z hnow (by rw [know]; rfl)).trans hf8
  have z13 : q_z f1 now 5 = 0 := (hF.z hnow (by rw [know]; rfl)).trans hf9
  have z14 : q_z f1 now 6 = 12 := (hF.z hnow (by rw [know]; rfl)).trans hf10
  have z15 : q_z f1 now 10 = 3 := (hF.z hnow (by rw [know]; rfl)).trans hf11
  have z16 : q_z f1 now 11 = 0 := (hF.z hnow (by rw [know]; rfl)).trans hf12
  have z17 : q_z f1 now 12 = 0 := (hF.z hnow (by rw [know]; rfl)).trans hf13
  have z18 : q_z f1 mo 2 = 0 := (hF.z hmo (by rw [kmo]; rfl)).trans hf14
  have z19 : q_z f1 mo 8 = 0 := (hF.z hmo (by rw [kmo]; rfl)).trans hf15
  have z20 : q_z f1 mo 9 = (-1) := (hF.z hmo (by rw [kmo]; rfl)).trans hf16
  have z21 : q_z f1 mo 10 = 0 := (hF.z hmo (by rw [kmo]; rfl)).trans hf17
  have z22 : q_z f1 mo 11 = (-1) := (hF.z hmo (by rw [kmo]; rfl)).trans hf18
  have z23 : q_z f1 mo 21 = 0 := (hF.z hmo (by rw [kmo]; rfl)).trans hf19
  have z24 : q_z f1 mo 22 = 0 := (hF.z hmo (by rw [kmo]; rfl)).trans hf20
  have z25 : q_z f1 mo 40 = 0 := (hF.z hmo (by rw [kmo]; rfl)).trans hf21
  have z26 : q_z f1 sr 0 = 0 := (hF.z hsr (by rw [ksr]; rfl)).trans hf22
  have z27 : q_z f1 sr 1 = 0 := (hF.z hsr (by rw [ksr]; rfl)).trans hf23
  have z28 : q_z f1 sr 2 = 12 := (hF.z hsr (by rw [ksr]; rfl)).trans hf24
  have z29 : q_z f1 sr 3 = 0 := (hF.z hsr (by rw [ksr]; rfl)).trans hf25
  have z30 : q_z f1 sr 4 = 0 := (hF.z hsr (by rw [ksr]; rfl)).trans hf26
  have z31 : q_z f1 sr 5 = 1 := (hF.z hsr (by rw [ksr]; rfl)).trans hf27
  have z32 : q_z f1 sr 6 = 2 := (hF.z hsr (by rw [ksr]; rfl)).trans hf28
  have z33 : q_z f1 sr 7 = 5 := (hF.z hsr (by rw [ksr]; rfl)).trans hf29
  have z34 : q_z f1 sr 8 = 3 := (hF.z hsr (by rw [ksr]; rfl)).trans hf30
  have z35 : q_z f1 sr 9 = 0 := (hF.z hsr (by rw [ksr]; rfl)).trans hf31
  have z36 : q_r f1 x 0 = src := (hF.r hx (by rw [kx]; rfl)).trans hr0
  have z37 : q_r f1 x 1 = rdr := (hF.r hx (by rw [kx]; rfl)).trans hr1
  have z38 : q_r f1 x 2 = scr := (hF.r hx (by rw [kx]; rfl)).trans hr2
  have z39 : q_r f1 x 3 = fc := (hF.r hx (by rw [kx]; rfl)).trans hr3
  have z40 : q_r f1 x 4 = hist := (hF.r hx (by rw [kx]; rfl)).trans hr4
  have z41 : q_r f1 x 5 = rep := (hF.r hx (by rw [kx]; rfl)).trans hr5
  have z42 : q_r f1 x 6 = now := (hF.r hx (by rw [kx]; rfl)).trans hr6
  have z43 : q_r f1 x 7 = dr := (hF.r hx (by rw [kx]; rfl)).trans hr7
  have z44 : q_r f1 x 8 = sv := (hF.r hx (by rw [kx]; rfl)).trans hr8
  have z45 : q_r f1 fc 0 = tr := (hF.r hfc (by rw [kfc]; rfl)).trans hr9
  have z46 : q_r f1 mo 1 = bu := (hF.r hmo (by rw [kmo]; rfl)).trans hr10
  have z47 : q_r f1 mo 13 = sr := (hF.r hmo (by rw [kmo]; rfl)).trans hr11
  have z48 : q_r f1 mo 14 = sd := (hF.r hmo (by rw [kmo]; rfl)).trans hr12
  have z49 : q_r f1 mo 15 = as := (hF.r hmo (by rw [kmo]; rfl)).trans hr13
  have z50 : q_r f1 mo 16 = aw := (hF.r hmo (by rw [kmo]; rfl)).trans hr14
  have z51 : q_r f1 mo 17 = pa := (hF.r hmo (by rw [kmo]; rfl)).trans hr15
  have z52 : q_r f1 mo 18 = nm := (hF.r hmo (by rw [kmo]; rfl)).trans hr16
  have z53 : q_r f1 mo 19 = snm := (hF.r hmo (by rw [kmo]; rfl)).trans hr17
  have z54 : q_r f1 mo 20 = anm := (hF.r hmo (by rw [kmo]; rfl)).trans hr18
  subst qy2
  refine lv_istore (lv' := [(6, .int (q_i 1)), (5, .int (q_i 0)), (0, .ref b), (1, .ref x), (2, .ref mo), (3, .ref out), (4, .ref outD)]) cx.1 cx.2.1 dL_law_909 hl (by decide) rfl (fun ls hl => ?_)
  refine q_ald_n cx dL_law_911 rfl (lv_at hl 4 rfl) ?_
  refine q_ald_n cx dL_law_912 rfl (lv_at hl 2 rfl) ?_
  refine lv_iload cx.1 cx.2.1 dL_law_913 (lv_at hl 1 rfl) ?_
  refine q_iconst cx dL_law_915 ?_
  refine q_iadd cx dL_law_916 ?_
  refine va_sld cx.1 cx.2.1 hXs hbl hbA hB.1.2.2.2 (q_in (by decide) (by decide) (by decide)) dL_law_917 ?_
  rw [show (q_i (0 + 1)).toNatClampNeg = 1 from by decide, ex1]
  refine q_cVf (As := [.int (q_i x1)]) (rest := []) cx hB (fun q h => hLA q h) hN hmo kmo (by decide) rfl (p_duty l g hN hB.2.1 mo hmo kmo x1 (by omega) (by omega) bu hbu kbu sr hsr ksr sd hsd ksd as has kas aw haw kaw pa hpa kpa nm hnm knm snm hsnm ksnm anm hanm kanm z18 z19 z20 z21 z22 z23 z24 z25 z26 z27 z28 z29 z30 z31 z32 z33 z34 z35 z46 z47 z48 z49 z50 z51 z52 z53 z54) q_cL_168 q_dX12_duty (by decide) rfl rfl hl.1 rfl (Nat.le_of_ble_eq_true rfl) dL_law_918 (fun y56 H locs f55 h57 hF hB => ?_)
  obtain ⟨qy56, z58⟩ := h57
  have z59 : q_z f55 x 9 = 0 := (hF.z hx (by rw [kx]; rfl)).trans z4
  have z60 : q_z f55 src 1 = 0 := (hF.z hsrc (by rw [ksrc]; rfl)).trans z5
  have z61 : q_z f55 src 2 = 0 := (hF.z hsrc (by rw [ksrc]; rfl)).trans z6
  have z62 : q_z f55 src 3 = (-1) := (hF.z hsrc (by rw [ksrc]; rfl)).trans z7
  have z63 : q_z f55 hist 1 = 0 := (hF.z hhist (by rw [khist]; rfl)).trans z8
  have z64 : q_z f55 hist 2 = 0 := (hF.z hhist (by rw [khist]; rfl)).trans z9
  have z65 : q_z f55 rep 1 = 0 := (hF.z hrep (by rw [krep]; rfl)).trans z10
  have z66 : q_z f55 now 3 = 0 := (hF.z hnow (by rw [know]; rfl)).trans z11
  have z67 : q_z f55 now 4 = 0 := (hF.z hnow (by rw [know]; rfl)).trans z12
  have z68 : q_z f55 now 5 = 0 := (hF.z hnow (by rw [know]; rfl)).trans z13
  have z69 : q_z f55 now 6 = 12 := (hF.z hnow (by rw [know]; rfl)).trans z14
  have z70 : q_z f55 now 10 = 3 := (hF.z hnow (by rw [know]; rfl)).trans z15
  have z71 : q_z f55 now 11 = 0 := (hF.z hnow (by rw [know]; rfl)).trans z16
  have z72 : q_z f55 now 12 = 0 := (hF.z hnow (by rw [know]; rfl)).trans z17
  have z73 : q_r f55 x 0 = src := (hF.r hx (by rw [kx]; rfl)).trans z36
  have z74 : q_r f55 x 1 = rdr := (hF.r hx (by rw [kx]; rfl)).trans z37
  have z75 : q_r f55 x 2 = scr := (hF.r hx (by rw [kx]; rfl)).trans z38
  have z76 : q_r f55 x 3 = fc := (hF.r hx (by rw [kx]; rfl)).trans z39
  have z77 : q_r f55 x 4 = hist := (hF.r hx (by rw [kx]; rfl)).trans z40
  have z78 : q_r f55 x 5 = rep := (hF.r hx (by rw [kx]; rfl)).trans z41
  have z79 : q_r f55 x 6 = now := (hF.r hx (by rw [kx]; rfl)).trans z42
  have z80 : q_r f55 x 7 = dr := (hF.r hx (by rw [kx]; rfl)).trans z43
  have z81 : q_r f55 x 8 = sv := (hF.r hx (by rw [kx]; rfl)).trans z44
  have z82 : q_r f55 fc 0 = tr := (hF.r hfc (by rw [kfc]; rfl)).trans z45
  subst qy56
  refine lv_fstore (lv' := [(7, .float 0), (6, .int (q_i 1)), (5, .int (q_i 0)), (0, .ref b), (1, .ref x), (2, .ref mo), (3, .ref out), (4, .ref outD)]) cx.1 cx.2.1 dL_law_921 hl (by decide) rfl (fun ls hl => ?_)
  refine q_ald_n cx dL_law_923 rfl (lv_at hl 5 rfl) ?_
  refine q_cVi (As := []) (rest := []) cx hB (fun q h => hLA q h) hN hmo kmo (by decide) rfl (r_thrown l g hN hB.2.1 mo hmo kmo 1 (by decide) (by decide) z58) q_cL_124 q_dX12_thrown (by decide) rfl rfl hl.1 rfl (Nat.le_of_ble_eq_true rfl) dL_law_924 (fun y84 H locs f83 ry84 h85 hF hB => ?_)
  obtain ⟨rfl, qy84⟩ := h85
  subst qy84
  refine lv_iload cx.1 cx.2.1 dL_law_927 (lv_at hl 1 rfl) ?_
  refine q_iceq (tgt := 934) cx ⟨by decide, by decide⟩ ⟨by decide, by decide⟩ dL_law_929 (by decide) (fun c86 => ?_) (fun c86 => ?_)
  · refine lv_iload cx.1 cx.2.1 dL_law_934 (lv_at hl 1 rfl) ?_
    refine q_ifne (tgt := 972) cx ⟨by decide, by decide⟩ dL_law_936 (by decide) (fun c87 => ?_) (fun c87 => ?_)
    · refine lv_goto (tgt := 2394) cx.1 cx.2.1 dL_law_972 (by decide) ?_
      refine q_iinc (lv' := [(5, .int (q_i (0 + 6))), (7, .float 0), (6, .int (q_i 1)), (0, .ref b), (1, .ref x), (2, .ref mo), (3, .ref out), (4, .ref outD)]) cx dL_law_2394 hl (k := 2) rfl (by decide) rfl (fun ls hl => ?_)
      refine lv_goto (tgt := 28) cx.1 cx.2.1 dL_law_2397 (by decide) ?_
      refine lv_iload cx.1 cx.2.1 dL_law_28 (lv_at hl 0 rfl) ?_
      refine q_ald_n cx dL_law_30 rfl (lv_at hl 3 rfl) ?_
      refine va_slen cx.1 cx.2.1 hXs hbl hbA hB.1.2.2.2 dL_law_31 ?_
      rw [show Int32.ofNat 6 = q_i 6 from by decide]
      refine q_bipush cx dL_law_32 rfl ?_
      refine q_isub cx dL_law_34 ?_
      refine q_icgt (tgt := 2400) cx ⟨by decide, by decide⟩ ⟨by decide, by decide⟩ dL_law_35 (by decide) (fun c88 => ?_) (fun c88 => ?_)
      · refine q_iconst cx dL_law_2400 ?_
        exact q_lawret C0 hB (by decide) (by decide) dL_law_2401
      · exact absurd c88 (by omega)
    · exact absurd c87 (by omega)
  · exact absurd c86 (by omega)
set_option maxHeartbeats 4000000 in
set_option maxRecDepth 100000 in
theorem law_c975 {p : Program} {l : Launch} {e : Env} {s : State} {m : MethodId} {below : List Frame} {meth : Method} {c : Code} {b : Nat} {xs : Nat → Int32} (hfl : l.stackTraces = false) (C0 : lw_At p s m meth c b 6 xs) (cx : CallFix p m c cL_law 10 s #[Value.ref b] q_al RL) {g : q_G} {K : Nat → Nat} {L : List Nat} {f : Nat → va_E} {H : Heap} {locs : List Loc} {ls : Array Slot} (hN : L.Nodup) (hLA : ∀ q, q ∈ L → s.heap.size ≤ q) (hX : q_X (fun q => q ∈ L) s) (hB : q_B g K L (fun q => s.heap.size ≤ q) [(2, 1, 2), (6, 1, 1), (7, 1, 4), (8, 1, 9), (9, 0, 2), (10, 3, 15), (11, 9, 9), (12, 0, 40), (13, 3, 15), (14, 3, 15), (15, 3, 15), (16, 3, 15), (142, 0, 599), (150, 0, 599), (151, 0, 657), (152, 0, 657), (153, 0, 657), (154, 0, 657), (155, 0, 3947), (156, 0, 9), (157, 0, 9), (158, 0, 9), (168, 0, 0), (169, 0, 0)] f f s H locs) {x : Nat} (hx : x ∈ L) (kx : K x = 11) {src : Nat} (hsrc : src ∈ L) (ksrc : K src = 8) {rdr : Nat} (hrdr : rdr ∈ L) (krdr : K rdr = 9) {scr : Nat} (hscr : scr ∈ L) (kscr : K scr = 7) {fc : Nat} (hfc : fc ∈ L) (kfc : K fc = 1) {hist : Nat} (hhist : hist ∈ L) (khist : K hist = 2) {rep : Nat} (hrep : rep ∈ L) (krep : K rep = 6) {now : Nat} (hnow : now ∈ L) (know : K now = 10) {dr : Nat} (hdr : dr ∈ L) (kdr : K dr = 13) {sv : Nat} (hsv : sv ∈ L) (ksv : K sv = 14) {tr : Nat} (htr : tr ∈ L) (ktr : K tr = 15) {mo : Nat} (hmo : mo ∈ L) (kmo : K mo = 12) {bu : Nat} (hbu : bu ∈ L) (kbu : K bu = 150) {sr : Nat} (hsr : sr ∈ L) (ksr : K sr = 151) {sd : Nat} (hsd : sd ∈ L) (ksd : K sd = 152) {as : Nat} (has : as ∈ L) (kas : K as = 153) {aw : Nat} (haw : aw ∈ L) (kaw : K aw = 154) {pa : Nat} (hpa : pa ∈ L) (kpa : K pa = 155) {nm : Nat} (hnm : nm ∈ L) (knm : K nm = 156) {snm : Nat} (hsnm : snm ∈ L) (ksnm : K snm = 157) {anm : Nat} (hanm : anm ∈ L) (kanm : K anm = 158) {out : Nat} (hout : out ∈ L) (kout : K out = 168) {outD : Nat} (houtD : outD ∈ L) (koutD : K outD = 169) (hf0 : q_z f x 9 = 0) (hf1 : q_z f src 1 = 0) (hf2 : q_z f src 2 = 0) (hf3 : q_z f src 3 = (-1)) (hf4 : q_z f hist 1 = 0) (hf5 : q_z f hist 2 = 0) (hf6 : q_z f rep 1 = 0) (hf7 : q_z f now 3 = 0) (hf8 : q_z f now 4 = 0) (hf9 : q_z f now 5 = 0) (hf10 : q_z f now 6 = 12) (hf11 : q_z f now 10 = 3) (hf12 : q_z f now 11 = 0) (hf13 : q_z f now 12 = 0) (hf14 : q_z f mo 2 = 0) (hf15 : q_z f mo 8 = 0) (hf16 : q_z f mo 9 = (-1)) (hf17 : q_z f mo 10 = 0) (hf18 : q_z f mo 11 = (-1)) (hf19 : q_z f mo 21 = 0) (hf20 : q_z f mo 22 = 0) (hf21 : q_z f mo 40 = 0) (hf22 : q_z f sr 0 = 0) (hf23 : q_z f sr 1 = 0) (hf24 : q_z f sr 2 = 12) (hf25 : q_z f sr 3 = 0) (hf26 : q_z f sr 4 = 0) (hf27 : q_z f sr 5 = 1) (hf28 : q_z f sr 6 = 2) (hf29 : q_z f sr 7 = 5) (hf30 : q_z f sr 8 = 3) (hf31 : q_z f sr 9 = 0) (hr0 : q_r f x 0 = src) (hr1 : q_r f x 1 = rdr) (hr2 : q_r f x 2 = scr) (hr3 : q_r f x 3 = fc) (hr4 : q_r f x 4 = hist) (hr5 : q_r f x 5 = rep) (hr6 : q_r f x 6 = now) (hr7 : q_r f x 7 = dr) (hr8 : q_r f x 8 = sv) (hr9 : q_r f fc 0 = tr) (hr10 : q_r f mo 1 = bu) (hr11 : q_r f mo 13 = sr) (hr12 : q_r f mo 14 = sd) (hr13 : q_r f mo 15 = as) (hr14 : q_r f mo 16 = aw) (hr15 : q_r f mo 17 = pa) (hr16 : q_r f mo 18 = nm) (hr17 : q_r f mo 19 = snm) (hr18 : q_r f mo 20 = anm) (hl : lv_has ls 10 [(5, .int (q_i 0)), (0, .ref b), (1, .ref x), (2, .ref mo), (3, .ref out), (4, .ref outD)]) : W p l e room_1 s m #[Value.ref b] below meth c H locs 1100 20000 (lw_Z below #[Value.ref b] s) (F0 m 975 ls []) := by
  have hXs := C0.2.2.2.2.2.2.1
  have hbl := C0.2.2.2.2.2.2.2.1
  have hbA := q_bA hbl
  obtain ⟨x0, rx0, ex0⟩ : ∃ z : Int, q_R z ∧ xs 0 = q_i z := ⟨_, q_rng _, (q_of _).symm⟩
  have lx0 := rx0.1
  have ux0 := rx0.2
  obtain ⟨x1, rx1, ex1⟩ : ∃ z : Int, q_R z ∧ xs 1 = q_i z := ⟨_, q_rng _, (q_of _).symm⟩
  have lx1 := rx1.1
  have ux1 := rx1.2
  obtain ⟨x2, rx2, ex2⟩ : ∃ z : Int, q_R z ∧ xs 2 = q_i z := ⟨_, q_rng _, (q_of _).symm⟩
  have lx2 := rx2.1
  have ux2 := rx2.2
  obtain ⟨x3, rx3, ex3⟩ : ∃ z : Int, q_R z ∧ xs 3 = q_i z := ⟨_, q_rng _, (q_of _).symm⟩
  have lx3 := rx3.1
  have ux3 := rx3.2
  obtain ⟨x4, rx4, ex4⟩ : ∃ z : Int, q_R z ∧ xs 4 = q_i z := ⟨_, q_rng _, (q_of _).symm⟩
  have lx4 := rx4.1
  have ux4 := rx4.2
  obtain ⟨x5, rx5, ex5⟩ : ∃ z : Int, q_R z ∧ xs 5 = q_i z := ⟨_, q_rng _, (q_of _).symm⟩
  have lx5 := rx5.1
  have ux5 := rx5.2
  refine q_ald_n cx dL_law_975 rfl (lv_at hl 2 rfl) ?_
  refine q_cVd (As := []) (rest := []) cx hB (fun q h => hLA q h) hN hx kx (by decide) rfl (x_meanEnergy l g hN hB.2.1 x hx kx src hsrc ksrc rdr hrdr krdr scr hscr kscr fc hfc kfc hist hhist khist rep hrep krep now hnow know dr hdr kdr sv hsv ksv tr htr ktr hf0 hf1 hf2 hf3 hf4 hf5 hf6 hf7 hf8 hf9 hf10 hf11 hf12 hf13 hr0 hr1 hr2 hr3 hr4 hr5 hr6 hr7 hr8 hr9) q_cL_169 q_dX11_meanEnergy (by decide) rfl rfl hl.1 rfl (Nat.le_of_ble_eq_true rfl) dL_law_976 (fun y2 H locs f1 h3 hF hB => ?_)
  obtain ⟨rfl, qy2⟩ := h3
  subst qy2
  refine lv_dstore (lv' := [(6, .double 0), (5, .int (q_i 0)), (0, .ref b), (1, .ref x), (2, .ref mo), (3, .ref out), (4, .ref outD)]) cx.1 cx.2.1 dL_law_979 hl (by decide) rfl (fun ls hl => ?_)
  refine q_ald_n cx dL_law_981 rfl (lv_at hl 4 rfl) ?_
  refine q_cVd (As := []) (rest := []) cx hB (fun q h => hLA q h) hN hmo kmo (by decide) rfl (p_meanEnergy l g hN hB.2.1 mo hmo kmo bu hbu kbu sr hsr ksr sd hsd ksd as has kas aw haw kaw pa hpa kpa nm hnm knm snm hsnm ksnm anm hanm kanm hf14 hf15 hf16 hf17 hf18 hf19 hf20 hf21 hf22 hf23 hf24 hf25 hf26 hf27 hf28 hf29 hf30 hf31 hr10 hr11 hr12 hr13 hr14 hr15 hr16 hr17 hr18) q_cL_173 q_dX12_meanEnergy (by decide) rfl rfl hl.1 rfl (Nat.le_of_ble_eq_true rfl) dL_law_982 (fun y5 H locs f4 h6 hF hB => ?_)
  obtain ⟨qy5, z7⟩ := h6
  have z8 : q_z f4 x 9 = 0 := (hF.z hx (by rw [kx]; rfl)).trans hf0
  have z9 : q_z f4 src 1 = 0 := (hF.z hsrc (by rw [ksrc]; rfl)).trans hf1
  have z10 : q_z f4 src 2 = 0 := (hF.z hsrc (by rw [ksrc]; rfl)).trans hf2
  have z11 : q_z f4 src 3 = (-1) := (hF.z hsrc (by rw [ksrc]; rfl)).trans hf3
  have z12 : q_z f4 hist 1 = 0 := (hF.z hhist (by rw [khist]; rfl)).trans hf4
  have z13 : q_z f4 hist 2 = 0 := (hF.z hhist (by rw [khist]; rfl)).trans hf5
  have z14 : q_z f4 rep 1 = 0 := (hF.z hrep (by rw [krep]; rfl)).trans hf6
  have z15 : q_z f4 now 3 = 0 := (hF.z hnow (by rw [know]; rfl)).trans hf7
  have z16 : q_z f4 now 4 = 0 := (hF.z hnow (by rw [know]; rfl)).trans hf8
  have z17 : q_z f4 now 5 = 0 := (hF.z hnow (by rw [know]; rfl)).trans hf9
  have z18 : q_z f4 now 6 = 12 := (hF.z hnow (by rw [know]; rfl)).trans hf10
  have z19 : q_z f4 now 10 = 3 := (hF.z hnow (by rw [know]; rfl)).trans hf11
  have z20 : q_z f4 now 11 = 0 := (hF.z hnow (by rw [know]; rfl)).trans hf12
  have z21 : q_z f4 now 12 = 0 := (hF.z hnow (by rw [know]; rfl)).trans hf13
  have z22 : q_r f4 x 0 = src := (hF.r hx (by rw [kx]; rfl)).trans hr0
  have z23 : q_r f4 x 1 = rdr := (hF.r hx (by rw [kx]; rfl)).trans hr1
  have z24 : q_r f4 x 2 = scr := (hF.r hx (by rw [kx]; rfl)).trans hr2
  have z25 : q_r f4 x 3 = fc := (hF.r hx (by rw [kx]; rfl)).trans hr3
  have z26 : q_r f4 x 4 = hist := (hF.r hx (by rw [kx]; rfl)).trans hr4
  have z27 : q_r f4 x 5 = rep := (hF.r hx (by rw [kx]; rfl)).trans hr5
  have z28 : q_r f4 x 6 = now := (hF.r hx (by rw [kx]; rfl)).trans hr6
  have z29 : q_r f4 x 7 = dr := (hF.r hx (by rw [kx]; rfl)).trans hr7
  have z30 : q_r f4 x 8 = sv := (hF.r hx (by rw [kx]; rfl)).trans hr8
  have z31 : q_r f4 fc 0 = tr := (hF.r hfc (by rw [kfc]; rfl)).trans hr9
  subst qy5
  refine lv_dstore (lv' := [(8, .double 0), (6, .double 0), (5, .int (q_i 0)), (0, .ref b), (1, .ref x), (2, .ref mo), (3, .ref out), (4, .ref outD)]) cx.1 cx.2.1 dL_law_985 hl (by decide) rfl (fun ls hl => ?_)
  refine lv_dload cx.1 cx.2.1 dL_law_987 (lv_at hl 1 rfl) ?_
  refine lv_dload cx.1 cx.2.1 dL_law_989 (lv_at hl 0 rfl) ?_
  refine lv_dcmp cx.1 cx.2.1 dL_law_991 ?_
  rw [show Op.cmpValue (FP.dcmp 0 0) .l = q_i 0 from by decide +kernel]
  refine q_ifeq (tgt := 1013) cx ⟨by decide, by decide⟩ dL_law_992 (by decide) (fun c32 => ?_) (fun c32 => ?_)
  · refine lv_goto (tgt := 2394) cx.1 cx.2.1 dL_law_1013 (by decide) ?_
    refine q_iinc (lv' := [(5, .int (q_i (0 + 6))), (8, .double 0), (6, .double 0), (0, .ref b), (1, .ref x), (2, .ref mo), (3, .ref out), (4, .ref outD)]) cx dL_law_2394 hl (k := 2) rfl (by decide) rfl (fun ls hl => ?_)
    refine lv_goto (tgt := 28) cx.1 cx.2.1 dL_law_2397 (by decide) ?_
    refine lv_iload cx.1 cx.2.1 dL_law_28 (lv_at hl 0 rfl) ?_
    refine q_ald_n cx dL_law_30 rfl (lv_at hl 3 rfl) ?_
    refine va_slen cx.1 cx.2.1 hXs hbl hbA hB.1.2.2.2 dL_law_31 ?_
    rw [show Int32.ofNat 6 = q_i 6 from by decide]
    refine q_bipush cx dL_law_32 rfl ?_
    refine q_isub cx dL_law_34 ?_
    refine q_icgt (tgt := 2400) cx ⟨by decide, by decide⟩ ⟨by decide, by decide⟩ dL_law_35 (by decide) (fun c33 => ?_) (fun c33 => ?_)
    · refine q_iconst cx dL_law_2400 ?_
      exact q_lawret C0 hB (by decide) (by decide) dL_law_2401
    · exact absurd c33 (by omega)
  · exact absurd c32 (by omega)
set_option maxHeartbeats 4000000 in
set_option maxRecDepth 100000 in
theorem law_c1016 {p : Program} {l : Launch} {e : Env} {s : State} {m : MethodId} {below : List Frame} {meth : Method} {c : Code} {b : Nat} {xs : Nat → Int32} (hfl : l.stackTraces = false) (C0 : lw_At p s m meth c b 6 xs) (cx : CallFix p m c cL_law 10 s #[Value.ref b] q_al RL) {g : q_G} {K : Nat → Nat} {L : List Nat} {f : Nat → va_E} {H : Heap} {locs : List Loc} {ls : Array Slot} (hN : L.Nodup) (hLA : ∀ q, q ∈ L → s.heap.size ≤ q) (hX : q_X (fun q => q ∈ L) s) (hB : q_B g K L (fun q => s.heap.size ≤ q) [(2, 1, 2), (6, 1, 1), (7, 1, 4), (8, 1, 9), (9, 0, 2), (10, 3, 15), (11, 9, 9), (12, 0, 40), (13, 3, 15), (14, 3, 15), (15, 3, 15), (16, 3, 15), (142, 0, 599), (150, 0, 599), (151, 0, 657), (152, 0, 657), (153, 0, 657), (154, 0, 657), (155, 0, 3947), (156, 0, 9), (157, 0, 9), (158, 0, 9), (168, 0, 0), (169, 0, 0)] f f s H locs) {x : Nat} (hx : x ∈ L) (kx : K x = 11) {src : Nat} (hsrc : src ∈ L) (ksrc : K src = 8) {rdr : Nat} (hrdr : rdr ∈ L) (krdr : K rdr = 9) {scr : Nat} (hscr : scr ∈ L) (kscr : K scr = 7) {fc : Nat} (hfc : fc ∈ L) (kfc : K fc = 1) {hist : Nat} (hhist : hist ∈ L) (khist : K hist = 2) {rep : Nat} (hrep : rep ∈ L) (krep : K rep = 6) {now : Nat} (hnow : now ∈ L) (know : K now = 10) {dr : Nat} (hdr : dr ∈ L) (kdr : K dr = 13) {sv : Nat} (hsv : sv ∈ L) (ksv : K sv = 14) {tr : Nat} (htr : tr ∈ L) (ktr : K tr = 15) {mo : Nat} (hmo : mo ∈ L) (kmo : K mo = 12) {bu : Nat} (hbu : bu ∈ L) (kbu : K bu = 150) {sr : Nat} (hsr : sr ∈ L) (ksr : K sr = 151) {sd : Nat} (hsd : sd ∈ L) (ksd : K sd = 152) {as : Nat} (has : as ∈ L) (kas : K as = 153) {aw : Nat} (haw : aw ∈ L) (kaw : K aw = 154) {pa : Nat} (hpa : pa ∈ L) (kpa : K pa = 155) {nm : Nat} (hnm : nm ∈ L) (knm : K nm = 156) {snm : Nat} (hsnm : snm ∈ L) (ksnm : K snm = 157) {anm : Nat} (hanm : anm ∈ L) (kanm : K anm = 158) {out : Nat} (hout : out ∈ L) (kout : K out = 168) {outD : Nat} (houtD : outD ∈ L) (koutD : K outD = 169) (hf0 : q_z f x 9 = 0) (hf1 : q_z f src 1 = 0) (hf2 : q_z f src 2 = 0) (hf3 : q_z f src 3 = (-1)) (hf4 : q_z f hist 1 = 0) (hf5 : q_z f hist 2 = 0) (hf6 : q_z f rep 1 = 0) (hf7 : q_z f now 3 = 0) (hf8 : q_z f now 4 = 0) (hf9 : q_z f now 5 = 0) (hf10 : q_z f now 6 = 12) (hf11 : q_z f now 10 = 3) (hf12 : q_z f now 11 = 0) (hf13 : q_z f now 12 = 0) (hf14 : q_z f mo 2 = 0) (hf15 : q_z f mo 8 = 0) (hf16 : q_z f mo 9 = (-1)) (hf17 : q_z f mo 10 = 0) (hf18 : q_z f mo 11 = (-1)) (hf19 : q_z f mo 21 = 0) (hf20 : q_z f mo 22 = 0) (hf21 : q_z f mo 40 = 0) (hf22 : q_z f sr 0 = 0) (hf23 : q_z f sr 1 = 0) (hf24 : q_z f sr 2 = 12) (hf25 : q_z f sr 3 = 0) (hf26 : q_z f sr 4 = 0) (hf27 : q_z f sr 5 = 1) (hf28 : q_z f sr 6 = 2) (hf29 : q_z f sr 7 = 5) (hf30 : q_z f sr 8 = 3) (hf31 : q_z f sr 9 = 0) (hr0 : q_r f x 0 = src) (hr1 : q_r f x 1 = rdr) (hr2 : q_r f x 2 = scr) (hr3 : q_r f x 3 = fc) (hr4 : q_r f x 4 = hist) (hr5 : q_r f x 5 = rep) (hr6 : q_r f x 6 = now) (hr7 : q_r f x 7 = dr) (hr8 : q_r f x 8 = sv) (hr9 : q_r f fc 0 = tr) (hr10 : q_r f mo 1 = bu) (hr11 : q_r f mo 13 = sr) (hr12 : q_r f mo 14 = sd) (hr13 : q_r f mo 15 = as) (hr14 : q_r f mo 16 = aw) (hr15 : q_r f mo 17 = pa) (hr16 : q_r f mo 18 = nm) (hr17 : q_r f mo 19 = snm) (hr18 : q_r f mo 20 = anm) (hl : lv_has ls 10 [(5, .int (q_i 0)), (0, .ref b), (1, .ref x), (2, .ref mo), (3, .ref out), (4, .ref outD)]) : W p l e room_1 s m #[Value.ref b] below meth c H locs 1100 20000 (lw_Z below #[Value.ref b] s) (F0 m 1016 ls []) := by
  have hXs := C0.2.2.2.2.2.2.1
  have hbl := C0.2.2.2.2.2.2.2.1
  have hbA := q_bA hbl
  obtain ⟨x0, rx0, ex0⟩ : ∃ z : Int, q_R z ∧ xs 0 = q_i z := ⟨_, q_rng _, (q_of _).symm⟩
  have lx0 := rx0.1
  have ux0 := rx0.2
  obtain ⟨x1, rx1, ex1⟩ : ∃ z : Int, q_R z ∧ xs 1 = q_i z := ⟨_, q_rng _, (q_of _).symm⟩
  have lx1 := rx1.1
  have ux1 := rx1.2
  obtain ⟨x2, rx2, ex2⟩ : ∃ z : Int, q_R z ∧ xs 2 = q_i z := ⟨_, q_rng _, (q_of _).symm⟩
  have lx2 := rx2.1
  have ux2 := rx2.2
  obtain ⟨x3, rx3, ex3⟩ : ∃ z : Int, q_R z ∧ xs 3 = q_i z := ⟨_, q_rng _, (q_of _).symm⟩
  have lx3 := rx3.1
  have ux3 := rx3.2
  obtain ⟨x4, rx4, ex4⟩ : ∃ z : Int, q_R z ∧ xs 4 = q_i z := ⟨_, q_rng _, (q_of _).symm⟩
  have lx4 := rx4.1
  have ux4 := rx4.2
  obtain ⟨x5, rx5, ex5⟩ : ∃ z : Int, q_R z ∧ xs 5 = q_i z := ⟨_, q_rng _, (q_of _).symm⟩
  have lx5 := rx5.1
  have ux5 := rx5.2
  refine q_ald_n cx dL_law_1016 rfl (lv_at hl 2 rfl) ?_
  refine q_ald_n cx dL_law_1017 rfl (lv_at hl 1 rfl) ?_
  refine lv_iload cx.1 cx.2.1 dL_law_1018 (lv_at hl 0 rfl) ?_
  refine q_iconst cx dL_law_1020 ?_
  refine q_iadd cx dL_law_1021 ?_
  refine va_sld cx.1 cx.2.1 hXs hbl hbA hB.1.2.2.2 (q_in (by decide) (by decide) (by decide)) dL_law_1022 ?_
  rw [show (q_i (0 + 1)).toNatClampNeg = 1 from by decide, ex1]
  refine q_ald_n cx dL_law_1023 rfl (lv_at hl 4 rfl) ?_
  by_cases c1 : x1 ≤ (-1)
  · refine q_cWS (As := [.ref x, .int (q_i x1), .ref out]) (rest := []) cx hX hB (fun q h => hLA q h) (fun q h1 h2 => absurd h1 (Nat.not_le_of_lt h2)) hN (w_awakeIna l g hN hB.2.1 hfl x hx kx x1 (by omega) (by omega) out hout kout src hsrc ksrc rdr hrdr krdr scr hscr kscr fc hfc kfc hist hhist khist rep hrep krep now hnow know dr hdr kdr sv hsv ksv tr htr ktr hf0 hf1 hf2 hf3 hf4 hf5 hf6 hf7 hf8 hf9 hf10 hf11 hf12 hf13 hr0 hr1 hr2 hr3 hr4 hr5 hr6 hr7 hr8 hr9) q_cL_174 q_dL_awakeIn (by decide) rfl rfl hl.1 rfl (Nat.le_of_ble_eq_true rfl) dL_law_1024 (fun v9 H locs f2 h4 hF hB => ?_)
    obtain ⟨y3, rfl, ry3, h4⟩ := h4
    refine W.eq (g2 := F0 m 1027 ls [.int (q_i y3)]) rfl ?_
    have qy3 := h4
    have z5 : q_z f2 x 9 = 0 := (hF.z hx (by rw [kx]; rfl)).trans hf0
    have z6 : q_z f2 src 1 = 0 := (hF.z hsrc (by rw [ksrc]; rfl)).trans hf1
    have z7 : q_z f2 src 2 = 0 := (hF.z hsrc (by rw [ksrc]; rfl)).trans hf2
    have z8 : q_z f2 src 3 = (-1) := (hF.z hsrc (by rw [ksrc]; rfl)).trans hf3
    have z9 : q_z f2 hist 1 = 0 := (hF.z hhist (by rw [khist]; rfl)).trans hf4
    have z10 : q_z f2 hist 2 = 0 := (hF.z hhist (by rw [khist]; rfl)).trans hf5
    have z11 : q_z f2 rep 1 = 0 := (hF.z hrep (by rw [krep]; rfl)).trans hf6
    have z12 : q_z f2 now 3 = 0 := (hF.z hnow (by rw [know]; rfl)).trans hf7
    have z13 : q_z f2 now 4 = 0 := (hF.z hnow (by rw [know]; rfl)).trans hf8
    have z14 : q_z f2 now 5 = 0 := (hF.z hnow (by rw [know]; rfl)).trans hf9
    have z15 : q_z f2 now 6 = 12 := (hF.z hnow (by rw [know]; rfl)).trans hf10
    have z16 : q_z f2 now 10 = 3 := (hF.z hnow (by rw [know]; rfl)).trans hf11
    have z17 : q_z f2 now 11 = 0 := (hF.z hnow (by rw [know]; rfl)).trans hf12
    have z18 : q_z f2 now 12 = 0 := (hF.z hnow (by rw [know]; rfl)).trans hf13
    have z19 : q_z f2 mo 2 = 0 := (hF.z hmo (by rw [kmo]; rfl)).trans hf14
    have z20 : q_z f2 mo 8 = 0 := (hF.z hmo (by rw [kmo]; rfl)).trans hf15
    have z21 : q_z f2 mo 9 = (-1) := (hF.z hmo (by rw [kmo]; rfl)).trans hf16
    have z22 : q_z f2 mo 10 = 0 := (hF.z hmo (by rw [kmo]; rfl)).trans hf17
    have z23 : q_z f2 mo 11 = (-1) := (hF.z hmo (by rw [kmo]; rfl)).trans hf18
    have z24 : q_z f2 mo 21 = 0 := (hF.z hmo (by rw [kmo]; rfl)).trans hf19
    have z25 : q_z f2 mo 22 = 0 := (hF.z hmo (by rw [kmo]; rfl)).trans hf20
    have z26 : q_z f2 mo 40 = 0 := (hF.z hmo (by rw [kmo]; rfl)).trans hf21
    have z27 : q_z f2 sr 0 = 0 := (hF.z hsr (by rw [ksr]; rfl)).trans hf22
    have z28 : q_z f2 sr 1 = 0 := (hF.z hsr (by rw [ksr]; rfl)).trans hf23
    have z29 : q_z f2 sr 2 = 12 := (hF.z hsr (by rw [ksr]; rfl)).trans hf24
    have z30 : q_z f2 sr 3 = 0 := (hF.z hsr (by rw [ksr]; rfl)).trans hf25
    have z31 : q_z f2 sr 4 = 0 := (hF.z hsr (by rw [ksr]; rfl)).trans hf26
    have z32 : q_z f2 sr 5 = 1 := (hF.z hsr (by rw [ksr]; rfl)).trans hf27
    have z33 : q_z f2 sr 6 = 2 := (hF.z hsr (by rw [ksr]; rfl)).trans hf28
    have z34 : q_z f2 sr 7 = 5 := (hF.z hsr (by rw [ksr]; rfl)).trans hf29
    have z35 : q_z f2 sr 8 = 3 := (hF.z hsr (by rw [ksr]; rfl)).trans hf30
    have z36 : q_z f2 sr 9 = 0 := (hF.z hsr (by rw [ksr]; rfl)).trans hf31
    have z37 : q_r f2 x 0 = src := (hF.r hx (by rw [kx]; rfl)).trans hr0
    have z38 : q_r f2 x 1 = rdr := (hF.r hx (by rw [kx]; rfl)).trans hr1
    have z39 : q_r f2 x 2 = scr := (hF.r hx (by rw [kx]; rfl)).trans hr2
    have z40 : q_r f2 x 3 = fc := (hF.r hx (by rw [kx]; rfl)).trans hr3
    have z41 : q_r f2 x 4 = hist := (hF.r hx (by rw [kx]; rfl)).trans hr4
    have z42 : q_r f2 x 5 = rep := (hF.r hx (by rw [kx]; rfl)).trans hr5
    have z43 : q_r f2 x 6 = now := (hF.r hx (by rw [kx]; rfl)).trans hr6
    have z44 : q_r f2 x 7 = dr := (hF.r hx (by rw [kx]; rfl)).trans hr7
    have z45 : q_r f2 x 8 = sv := (hF.r hx (by rw [kx]; rfl)).trans hr8
    have z46 : q_r f2 fc 0 = tr := (hF.r hfc (by rw [kfc]; rfl)).trans hr9
    have z47 : q_r f2 mo 1 = bu := (hF.r hmo (by rw [kmo]; rfl)).trans hr10
    have z48 : q_r f2 mo 13 = sr := (hF.r hmo (by rw [kmo]; rfl)).trans hr11
    have z49 : q_r f2 mo 14 = sd := (hF.r hmo (by rw [kmo]; rfl)).trans hr12
    have z50 : q_r f2 mo 15 = as := (hF.r hmo (by rw [kmo]; rfl)).trans hr13
    have z51 : q_r f2 mo 16 = aw := (hF.r hmo (by rw [kmo]; rfl)).trans hr14
    have z52 : q_r f2 mo 17 = pa := (hF.r hmo (by rw [kmo]; rfl)).trans hr15
    have z53 : q_r f2 mo 18 = nm := (hF.r hmo (by rw [kmo]; rfl)).trans hr16
    have z54 : q_r f2 mo 19 = snm := (hF.r hmo (by rw [kmo]; rfl)).trans hr17
    have z55 : q_r f2 mo 20 = anm := (hF.r hmo (by rw [kmo]; rfl)).trans hr18
    subst qy3
    refine lv_istore (lv' := [(6, .int (q_i 1)), (5, .int (q_i 0)), (0, .ref b), (1, .ref x), (2, .ref mo), (3, .ref out), (4, .ref outD)]) cx.1 cx.2.1 dL_law_1027 hl (by decide) rfl (fun ls hl => ?_)
    refine q_ald_n cx dL_law_1029 rfl (lv_at hl 4 rfl) ?_
    refine q_ald_n cx dL_law_1030 rfl (lv_at hl 2 rfl) ?_
    refine lv_iload cx.1 cx.2.1 dL_law_1031 (lv_at hl 1 rfl) ?_
    refine q_iconst cx dL_law_1033 ?_
    refine q_iadd cx dL_law_1034 ?_
    refine va_sld cx.1 cx.2.1 hXs hbl hbA hB.1.2.2.2 (q_in (by decide) (by decide) (by decide)) dL_law_1035 ?_
    rw [show (q_i (0 + 1)).toNatClampNeg = 1 from by decide, ex1]
    refine q_cVi (As := [.int (q_i x1)]) (rest := []) cx hB (fun q h => hLA q h) hN hmo kmo (by decide) rfl (p_awakeIna l g hN hB.2.1 mo hmo kmo x1 (by omega) (by omega) bu hbu kbu sr hsr ksr sd hsd ksd as has kas aw haw kaw pa hpa kpa nm hnm knm snm hsnm ksnm anm hanm kanm z19 z20 z21 z22 z23 z24 z25 z26 z27 z28 z29 z30 z31 z32 z33 z34 z35 z36 z47 z48 z49 z50 z51 z52 z53 z54 z55) q_cL_176 q_dX12_awakeIn (by decide) rfl rfl hl.1 rfl (Nat.le_of_ble_eq_true rfl) dL_law_1036 (fun y57 H locs f56 ry57 h58 hF hB => ?_)
    obtain ⟨qy57, z59⟩ := h58
    have z60 : q_z f56 x 9 = 0 := (hF.z hx (by rw [kx]; rfl)).trans z5
    have z61 : q_z f56 src 1 = 0 := (hF.z hsrc (by rw [ksrc]; rfl)).trans z6
    have z62 : q_z f56 src 2 = 0 := (hF.z hsrc (by rw [ksrc]; rfl)).trans z7
    have z63 : q_z f56 src 3 = (-1) := (hF.z hsrc (by rw [ksrc]; rfl)).trans z8
    have z64 : q_z f56 hist 1 = 0 := (hF.z hhist (by rw [khist]; rfl)).trans z9
    have z65 : q_z f56 hist 2 = 0 := (hF.z hhist (by rw [khist]; rfl)).trans z10
    have z66 : q_z f56 rep 1 = 0 := (hF.z hrep (by rw [krep]; rfl)).trans z11
    have z67 : q_z f56 now 3 = 0 := (hF.z hnow (by rw [know]; rfl)).trans z12
    have z68 : q_z f56 now 4 = 0 := (hF.z hnow (by rw [know]; rfl)).trans z13
    have z69 : q_z f56 now 5 = 0 := (hF.z hnow (by rw [know]; rfl)).trans z14
    have z70 : q_z f56 now 6 = 12 := (hF.z hnow (by rw [know]; rfl)).trans z15
    have z71 : q_z f56 now 10 = 3 := (hF.z hnow (by rw [know]; rfl)).trans z16
    have z72 : q_z f56 now 11 = 0 := (hF.z hnow (by rw [know]; rfl)).trans z17
    have z73 : q_z f56 now 12 = 0 := (hF.z hnow (by rw [know]; rfl)).trans z18
    have z74 : q_r f56 x 0 = src := (hF.r hx (by rw [kx]; rfl)).trans z37
    have z75 : q_r f56 x 1 = rdr := (hF.r hx (by rw [kx]; rfl)).trans z38
    have z76 : q_r f56 x 2 = scr := (hF.r hx (by rw [kx]; rfl)).trans z39
    have z77 : q_r f56 x 3 = fc := (hF.r hx (by rw [kx]; rfl)).trans z40
    have z78 : q_r f56 x 4 = hist := (hF.r hx (by rw [kx]; rfl)).trans z41
    have z79 : q_r f56 x 5 = rep := (hF.r hx (by rw [kx]; rfl)).trans z42
    have z80 : q_r f56 x 6 = now := (hF.r hx (by rw [kx]; rfl)).trans z43
    have z81 : q_r f56 x 7 = dr := (hF.r hx (by rw [kx]; rfl)).trans z44
    have z82 : q_r f56 x 8 = sv := (hF.r hx (by rw [kx]; rfl)).trans z45
    have z83 : q_r f56 fc 0 = tr := (hF.r hfc (by rw [kfc]; rfl)).trans z46
    subst qy57
    refine lv_istore (lv' := [(7, .int (q_i 0)), (6, .int (q_i 1)), (5, .int (q_i 0)), (0, .ref b), (1, .ref x), (2, .ref mo), (3, .ref out), (4, .ref outD)]) cx.1 cx.2.1 dL_law_1039 hl (by decide) rfl (fun ls hl => ?_)
    refine q_ald_n cx dL_law_1041 rfl (lv_at hl 5 rfl) ?_
    refine q_cVi (As := []) (rest := []) cx hB (fun q h => hLA q h) hN hmo kmo (by decide) rfl (r_thrown l g hN hB.2.1 mo hmo kmo 1 (by decide) (by decide) z59) q_cL_124 q_dX12_thrown (by decide) rfl rfl hl.1 rfl (Nat.le_of_ble_eq_true rfl) dL_law_1042 (fun y85 H locs f84 ry85 h86 hF hB => ?_)
    obtain ⟨rfl, qy85⟩ := h86
    subst qy85
    refine lv_iload cx.1 cx.2.1 dL_law_1045 (lv_at hl 1 rfl) ?_
    refine q_iceq (tgt := 1052) cx ⟨by decide, by decide⟩ ⟨by decide, by decide⟩ dL_law_1047 (by decide) (fun c87 => ?_) (fun c87 => ?_)
    · refine lv_iload cx.1 cx.2.1 dL_law_1052 (lv_at hl 1 rfl) ?_
      refine q_ifne (tgt := 1069) cx ⟨by decide, by decide⟩ dL_law_1054 (by decide) (fun c88 => ?_) (fun c88 => ?_)
      · refine lv_goto (tgt := 2394) cx.1 cx.2.1 dL_law_1069 (by decide) ?_
        refine q_iinc (lv' := [(5, .int (q_i (0 + 6))), (7, .int (q_i 0)), (6, .int (q_i 1)), (0, .ref b), (1, .ref x), (2, .ref mo), (3, .ref out), (4, .ref outD)]) cx dL_law_2394 hl (k := 2) rfl (by decide) rfl (fun ls hl => ?_)
        refine lv_goto (tgt := 28) cx.1 cx.2.1 dL_law_2397 (by decide) ?_
        refine lv_iload cx.1 cx.2.1 dL_law_28 (lv_at hl 0 rfl) ?_
        refine q_ald_n cx dL_law_30 rfl (lv_at hl 3 rfl) ?_
        refine va_slen cx.1 cx.2.1 hXs hbl hbA hB.1.2.2.2 dL_law_31 ?_
        rw [show Int32.ofNat 6 = q_i 6 from by decide]
        refine q_bipush cx dL_law_32 rfl ?_
        refine q_isub cx dL_law_34 ?_
        refine q_icgt (tgt := 2400) cx ⟨by decide, by decide⟩ ⟨by decide, by decide⟩ dL_law_35 (by decide) (fun c89 => ?_) (fun c89 => ?_)
        · refine q_iconst cx dL_law_2400 ?_
          exact q_lawret C0 hB (by decide) (by decide) dL_law_2401
        · exact absurd c89 (by omega)
      · exact absurd c88 (by omega)
    · exact absurd c87 (by omega)
  · by_cases c90 : x1 ≤ 99
    · refine q_cWS (As := [.ref x, .int (q_i x1), .ref out]) (rest := []) cx hX hB (fun q h => hLA q h) (fun q h1 h2 => absurd h1 (Nat.not_le_of_lt h2)) hN (w_awakeInb l g hN hB.2.1 hfl x hx kx x1 (by omega) (by omega) out hout kout src hsrc ksrc rdr hrdr krdr scr hscr kscr fc hfc kfc hist hhist khist rep hrep krep now hnow know dr hdr kdr sv hsv ksv tr htr ktr hf0 hf1 hf2 hf3 hf4 hf5 hf6 hf7 hf8 hf9 hf10 hf11 hf12 hf13 hr0 hr1 hr2 hr3 hr4 hr5 hr6 hr7 hr8 hr9) q_cL_174 q_dL_awakeIn (by decide) rfl rfl hl.1 rfl (Nat.le_of_ble_eq_true rfl) dL_law_1024 (fun v9 H locs f91 h93 hF hB => ?_)
      obtain ⟨y92, rfl, ry92, h93⟩ := h93
      refine W.eq (g2 := F0 m 1027 ls [.int (q_i y92)]) rfl ?_
      obtain ⟨qy92, z94⟩ := h93
      have z95 : q_z f91 mo 2 = 0 := (hF.z hmo (by rw [kmo]; rfl)).trans hf14
      have z96 : q_z f91 mo 8 = 0 := (hF.z hmo (by rw [kmo]; rfl)).trans hf15
      have z97 : q_z f91 mo 9 = (-1) := (hF.z hmo (by rw [kmo]; rfl)).trans hf16
      have z98 : q_z f91 mo 10 = 0 := (hF.z hmo (by rw [kmo]; rfl)).trans hf17
      have z99 : q_z f91 mo 11 = (-1) := (hF.z hmo (by rw [kmo]; rfl)).trans hf18
      have z100 : q_z f91 mo 21 = 0 := (hF.z hmo (by rw [kmo]; rfl)).trans hf19
      have z101 : q_z f91 mo 22 = 0 := (hF.z hmo (by rw [kmo]; rfl)).trans hf20
      have z102 : q_z f91 mo 40 = 0 := (hF.z hmo (by rw [kmo]; rfl)).trans hf21
      have z103 : q_z f91 sr 0 = 0 := (hF.z hsr (by rw [ksr]; rfl)).trans hf22
      have z104 : q_z f91 sr 1 = 0 := (hF.z hsr (by rw [ksr]; rfl)).trans hf23
      have z105 : q_z f91 sr 2 = 12 := (hF.z hsr (by rw [ksr]; rfl)).trans hf24
      have z106 : q_z f91 sr 3 = 0 := (hF.z hsr (by rw [ksr]; rfl)).trans hf25
      have z107 : q_z f91 sr 4 = 0 := (hF.z hsr (by rw [ksr]; rfl)).trans hf26
      have z108 : q_z f91 sr 5 = 1 := (hF.z hsr (by rw [ksr]; rfl)).trans hf27
      have z109 : q_z f91 sr 6 = 2 := (hF.z hsr (by rw [ksr]; rfl)).trans hf28
      have z110 : q_z f91 sr 7 = 5 := (hF.z hsr (by rw [ksr]; rfl)).trans hf29
      have z111 : q_z f91 sr 8 = 3 := (hF.z hsr (by rw [ksr]; rfl)).trans hf30
      have z112 : q_z f91 sr 9 = 0 := (hF.z hsr (by rw [ksr]; rfl)).trans hf31
      have z113 : q_r f91 x 0 = src := (hF.r hx (by rw [kx]; rfl)).trans hr0
      have z114 : q_r f91 x 1 = rdr := (hF.r hx (by rw [kx]; rfl)).trans hr1
      have z115 : q_r f91 x 2 = scr := (hF.r hx (by rw [kx]; rfl)).trans hr2
      have z116 : q_r f91 x 3 = fc := (hF.r hx (by rw [kx]; rfl)).trans hr3
      have z117 : q_r f91 x 4 = hist := (hF.r hx (by rw [kx]; rfl)).trans hr4
      have z118 : q_r f91 x 5 = rep := (hF.r hx (by rw [kx]; rfl)).trans hr5
      have z119 : q_r f91 x 6 = now := (hF.r hx (by rw [kx]; rfl)).trans hr6
      have z120 : q_r f91 x 7 = dr := (hF.r hx (by rw [kx]; rfl)).trans hr7
      have z121 : q_r f91 x 8 = sv := (hF.r hx (by rw [kx]; rfl)).trans hr8
      have z122 : q_r f91 fc 0 = tr := (hF.r hfc (by rw [kfc]; rfl)).trans hr9
      have z123 : q_r f91 mo 1 = bu := (hF.r hmo (by rw [kmo]; rfl)).trans hr10
      have z124 : q_r f91 mo 13 = sr := (hF.r hmo (by rw [kmo]; rfl)).trans hr11
      have z125 : q_r f91 mo 14 = sd := (hF.r hmo (by rw [kmo]; rfl)).trans hr12
      have z126 : q_r f91 mo 15 = as := (hF.r hmo (by rw [kmo]; rfl)).trans hr13
      have z127 : q_r f91 mo 16 = aw := (hF.r hmo (by rw [kmo]; rfl)).trans hr14
      have z128 : q_r f91 mo 17 = pa := (hF.r hmo (by rw [kmo]; rfl)).trans hr15
      have z129 : q_r f91 mo 18 = nm := (hF.r hmo (by rw [kmo]; rfl)).trans hr16
      have z130 : q_r f91 mo 19 = snm := (hF.r hmo (by rw [kmo]; rfl)).trans hr17
      have z131 : q_r f91 mo 20 = anm := (hF.r hmo (by rw [kmo]; rfl)).trans hr18
      subst qy92
      refine lv_istore (lv' := [(6, .int (q_i 0)), (5, .int (q_i 0)), (0, .ref b), (1, .ref x), (2, .ref mo), (3, .ref out), (4, .ref outD)]) cx.1 cx.2.1 dL_law_1027 hl (by decide) rfl (fun ls hl => ?_)
      refine q_ald_n cx dL_law_1029 rfl (lv_at hl 4 rfl) ?_
      refine q_ald_n cx dL_law_1030 rfl (lv_at hl 2 rfl) ?_
      refine lv_iload cx.1 cx.2.1 dL_law_1031 (lv_at hl 1 rfl) ?_
      refine q_iconst cx dL_law_1033 ?_
      refine q_iadd cx dL_law_1034 ?_
      refine va_sld cx.1 cx.2.1 hXs hbl hbA hB.1.2.2.2 (q_in (by decide) (by decide) (by decide)) dL_law_1035 ?_
      rw [show (q_i (0 + 1)).toNatClampNeg = 1 from by decide, ex1]
      refine q_cVi (As := [.int (q_i x1)]) (rest := []) cx hB (fun q h => hLA q h) hN hmo kmo (by decide) rfl (p_awakeInb l g hN hB.2.1 mo hmo kmo x1 (by omega) (by omega) bu hbu kbu sr hsr ksr sd hsd ksd as has kas aw haw kaw pa hpa kpa nm hnm knm snm hsnm ksnm anm hanm kanm z95 z96 z97 z98 z99 z100 z101 z102 z103 z104 z105 z106 z107 z108 z109 z110 z111 z112 z123 z124 z125 z126 z127 z128 z129 z130 z131) q_cL_176 q_dX12_awakeIn (by decide) rfl rfl hl.1 rfl (Nat.le_of_ble_eq_true rfl) dL_law_1036 (fun y133 H locs f132 ry133 h134 hF hB => ?_)
      obtain ⟨qy133, z135⟩ := h134
      have z136 : q_j f132 out 0 = (q_l 0) := (hF.j hout (by rw [kout]; rfl)).trans z94
      have z137 : q_r f132 x 0 = src := (hF.r hx (by rw [kx]; rfl)).trans z113
      have z138 : q_r f132 x 1 = rdr := (hF.r hx (by rw [kx]; rfl)).trans z114
      have z139 : q_r f132 x 2 = scr := (hF.r hx (by rw [kx]; rfl)).trans z115
      have z140 : q_r f132 x 3 = fc := (hF.r hx (by rw [kx]; rfl)).trans z116
      have z141 : q_r f132 x 4 = hist := (hF.r hx (by rw [kx]; rfl)).trans z117
      have z142 : q_r f132 x 5 = rep := (hF.r hx (by rw [kx]; rfl)).trans z118
      have z143 : q_r f132 x 6 = now := (hF.r hx (by rw [kx]; rfl)).trans z119
      have z144 : q_r f132 x 7 = dr := (hF.r hx (by rw [kx]; rfl)).trans z120
      have z145 : q_r f132 x 8 = sv := (hF.r hx (by rw [kx]; rfl)).trans z121
      have z146 : q_r f132 fc 0 = tr := (hF.r hfc (by rw [kfc]; rfl)).trans z122
      subst qy133
      refine lv_istore (lv' := [(7, .int (q_i 0)), (6, .int (q_i 0)), (5, .int (q_i 0)), (0, .ref b), (1, .ref x), (2, .ref mo), (3, .ref out), (4, .ref outD)]) cx.1 cx.2.1 dL_law_1039 hl (by decide) rfl (fun ls hl => ?_)
      refine q_ald_n cx dL_law_1041 rfl (lv_at hl 5 rfl) ?_
      refine q_cVi (As := []) (rest := []) cx hB (fun q h => hLA q h) hN hmo kmo (by decide) rfl (r_thrown l g hN hB.2.1 mo hmo kmo 0 (by decide) (by decide) z135) q_cL_124 q_dX12_thrown (by decide) rfl rfl hl.1 rfl (Nat.le_of_ble_eq_true rfl) dL_law_1042 (fun y148 H locs f147 ry148 h149 hF hB => ?_)
      obtain ⟨rfl, qy148⟩ := h149
      subst qy148
      refine lv_iload cx.1 cx.2.1 dL_law_1045 (lv_at hl 1 rfl) ?_
      refine q_iceq (tgt := 1052) cx ⟨by decide, by decide⟩ ⟨by decide, by decide⟩ dL_law_1047 (by decide) (fun c150 => ?_) (fun c150 => ?_)
      · refine lv_iload cx.1 cx.2.1 dL_law_1052 (lv_at hl 1 rfl) ?_
        refine q_ifne (tgt := 1069) cx ⟨by decide, by decide⟩ dL_law_1054 (by decide) (fun c151 => ?_) (fun c151 => ?_)
        · exact absurd c151 (by omega)
        · refine q_ald_n cx dL_law_1057 rfl (lv_at hl 6 rfl) ?_
          refine q_iconst cx dL_law_1058 ?_
          refine q_lald (n := 1) cx hB hout kout (by decide) rfl rfl (by decide) (by decide) (by decide) rfl z136 dL_law_1059 ?_
          refine lv_iload cx.1 cx.2.1 dL_law_1060 (lv_at hl 0 rfl) ?_
          refine q_i2l cx ⟨by decide, by decide⟩ dL_law_1062 ?_
          refine q_lcmp cx dL_law_1063 (fun y152 ly152 uy152 ey152 gy152 hy152 => ?_)
          rw [q_lInt ⟨by decide, by decide⟩] at ey152 hy152
          refine q_ifeq (tgt := 1069) cx ⟨by omega, by omega⟩ dL_law_1064 (by decide) (fun c153 => ?_) (fun c153 => ?_)
          · refine lv_goto (tgt := 2394) cx.1 cx.2.1 dL_law_1069 (by decide) ?_
            refine q_iinc (lv' := [(5, .int (q_i (0 + 6))), (7, .int (q_i 0)), (6, .int (q_i 0)), (0, .ref b), (1, .ref x), (2, .ref mo), (3, .ref out), (4, .ref outD)]) cx dL_law_2394 hl (k := 2) rfl (by decide) rfl (fun ls hl => ?_)
            refine lv_goto (tgt := 28) cx.1 cx.2.1 dL_law_2397 (by decide) ?_
            refine lv_iload cx.1 cx.2.1 dL_law_28 (lv_at hl 0 rfl) ?_
            refine q_ald_n cx dL_law_30 rfl (lv_at hl 3 rfl) ?_
            refine va_slen cx.1 cx.2.1 hXs hbl hbA hB.1.2.2.2 dL_law_31 ?_
            rw [show Int32.ofNat 6 = q_i 6 from by decide]
            refine q_bipush cx dL_law_32 rfl ?_
            refine q_isub cx dL_law_34 ?_
            refine q_icgt (tgt := 2400) cx ⟨by decide, by decide⟩ ⟨by decide, by decide⟩ dL_law_35 (by decide) (fun c154 => ?_) (fun c154 => ?_)
            · refine q_iconst cx dL_law_2400 ?_
              exact q_lawret C0 hB (by decide) (by decide) dL_law_2401
            · exact absurd c154 (by omega)
          · exact absurd c153 (by omega)
      · exact absurd c150 (by omega)
    · refine q_cWS (As := [.ref x, .int (q_i x1), .ref out]) (rest := []) cx hX hB (fun q h => hLA q h) (fun q h1 h2 => absurd h1 (Nat.not_le_of_lt h2)) hN (w_awakeInc l g hN hB.2.1 hfl x hx kx x1 (by omega) (by omega) out hout kout src hsrc ksrc rdr hrdr krdr scr hscr kscr fc hfc kfc hist hhist khist rep hrep krep now hnow know dr hdr kdr sv hsv ksv tr htr ktr hf0 hf1 hf2 hf3 hf4 hf5 hf6 hf7 hf8 hf9 hf10 hf11 hf12 hf13 hr0 hr1 hr2 hr3 hr4 hr5 hr6 hr7 hr8 hr9) q_cL_174 q_dL_awakeIn (by decide) rfl rfl hl.1 rfl (Nat.le_of_ble_eq_true rfl) dL_law_1024 (fun v9 H locs f155 h157 hF hB => ?_)
      obtain ⟨y156, rfl, ry156, h157⟩ := h157
      refine W.eq (g2 := F0 m 1027 ls [.int (q_i y156)]) rfl ?_
      have qy156 := h157
      have z158 : q_z f155 x 9 = 0 := (hF.z hx (by rw [kx]; rfl)).trans hf0
      have z159 : q_z f155 src 1 = 0 := (hF.z hsrc (by rw [ksrc]; rfl)).trans hf1
      have z160 : q_z f155 src 2 = 0 := (hF.z hsrc (by rw [ksrc]; rfl)).trans hf2
      have z161 : q_z f155 src 3 = (-1) := (hF.z hsrc (by rw [ksrc]; rfl)).trans hf3
      have z162 : q_z f155 hist 1 = 0 := (hF.z hhist (by rw [khist]; rfl)).trans hf4
      have z163 : q_z f155 hist 2 = 0 := (hF.z hhist (by rw [khist]; rfl)).trans hf5
      have z164 : q_z f155 rep 1 = 0 := (hF.z hrep (by rw [krep]; rfl)).trans hf6
      have z165 : q_z f155 now 3 = 0 := (hF.z hnow (by rw [know]; rfl)).trans hf7
      have z166 : q_z f155 now 4 = 0 := (hF.z hnow (by rw [know]; rfl)).trans hf8
      have z167 : q_z f155 now 5 = 0 := (hF.z hnow (by rw [know]; rfl)).trans hf9
      have z168 : q_z f155 now 6 = 12 := (hF.z hnow (by rw [know]; rfl)).trans hf10
      have z169 : q_z f155 now 10 = 3 := (hF.z hnow (by rw [know]; rfl)).trans hf11
      have z170 : q_z f155 now 11 = 0 := (hF.z hnow (by rw [know]; rfl)).trans hf12
      have z171 : q_z f155 now 12 = 0 := (hF.z hnow (by rw [know]; rfl)).trans hf13
      have z172 : q_z f155 mo 2 = 0 := (hF.z hmo (by rw [kmo]; rfl)).trans hf14
      have z173 : q_z f155 mo 8 = 0 := (hF.z hmo (by rw [kmo]; rfl)).trans hf15
      have z174 : q_z f155 mo 9 = (-1) := (hF.z hmo (by rw [kmo]; rfl)).trans hf16
      have z175 : q_z f155 mo 10 = 0 := (hF.z hmo (by rw [kmo]; rfl)).trans hf17
      have z176 : q_z f155 mo 11 = (-1) := (hF.z hmo (by rw [kmo]; rfl)).trans hf18
      have z177 : q_z f155 mo 21 = 0 := (hF.z hmo (by rw [kmo]; rfl)).trans hf19
      have z178 : q_z f155 mo 22 = 0 := (hF.z hmo (by rw [kmo]; rfl)).trans hf20
      have z179 : q_z f155 mo 40 = 0 := (hF.z hmo (by rw [kmo]; rfl)).trans hf21
      have z180 : q_z f155 sr 0 = 0 := (hF.z hsr (by rw [ksr]; rfl)).trans hf22
      have z181 : q_z f155 sr 1 = 0 := (hF.z hsr (by rw [ksr]; rfl)).trans hf23
      have z182 : q_z f155 sr 2 = 12 := (hF.z hsr (by rw [ksr]; rfl)).trans hf24
      have z183 : q_z f155 sr 3 = 0 := (hF.z hsr (by rw [ksr]; rfl)).trans hf25
      have z184 : q_z f155 sr 4 = 0 := (hF.z hsr (by rw [ksr]; rfl)).trans hf26
      have z185 : q_z f155 sr 5 = 1 := (hF.z hsr (by rw [ksr]; rfl)).trans hf27
      have z186 : q_z f155 sr 6 = 2 := (hF.z hsr (by rw [ksr]; rfl)).trans hf28
      have z187 : q_z f155 sr 7 = 5 := (hF.z hsr (by rw [ksr]; rfl)).trans hf29
      have z188 : q_z f155 sr 8 = 3 := (hF.z hsr (by rw [ksr]; rfl)).trans hf30
      have z189 : q_z f155 sr 9 = 0 := (hF.z hsr (by rw [ksr]; rfl)).trans hf31
      have z190 : q_r f155 x 0 = src := (hF.r hx (by rw [kx]; rfl)).trans hr0
      have z191 : q_r f155 x 1 = rdr := (hF.r hx (by rw [kx]; rfl)).trans hr1
      have z192 : q_r f155 x 2 = scr := (hF.r hx (by rw [kx]; rfl)).trans hr2
      have z193 : q_r f155 x 3 = fc := (hF.r hx (by rw [kx]; rfl)).trans hr3
      have z194 : q_r f155 x 4 = hist := (hF.r hx (by rw [kx]; rfl)).trans hr4
      have z195 : q_r f155 x 5 = rep := (hF.r hx (by rw [kx]; rfl)).trans hr5
      have z196 : q_r f155 x 6 = now := (hF.r hx (by rw [kx]; rfl)).trans hr6
      have z197 : q_r f155 x 7 = dr := (hF.r hx (by rw [kx]; rfl)).trans hr7
      have z198 : q_r f155 x 8 = sv := (hF.r hx (by rw [kx]; rfl)).trans hr8
      have z199 : q_r f155 fc 0 = tr := (hF.r hfc (by rw [kfc]; rfl)).trans hr9
      have z200 : q_r f155 mo 1 = bu := (hF.r hmo (by rw [kmo]; rfl)).trans hr10
      have z201 : q_r f155 mo 13 = sr := (hF.r hmo (by rw [kmo]; rfl)).trans hr11
      have z202 : q_r f155 mo 14 = sd := (hF.r hmo (by rw [kmo]; rfl)).trans hr12
      have z203 : q_r f155 mo 15 = as := (hF.r hmo (by rw [kmo]; rfl)).trans hr13
      have z204 : q_r f155 mo 16 = aw := (hF.r hmo (by rw [kmo]; rfl)).trans hr14
      have z205 : q_r f155 mo 17 = pa := (hF.r hmo (by rw [kmo]; rfl)).trans hr15
      have z206 : q_r f155 mo 18 = nm := (hF.r hmo (by rw [kmo]; rfl)).trans hr16
      have z207 : q_r f155 mo 19 = snm := (hF.r hmo (by rw [kmo]; rfl)).trans hr17
      have z208 : q_r f155 mo 20 = anm := (hF.r hmo (by rw [kmo]; rfl)).trans hr18
      subst qy156
      refine lv_istore (lv' := [(6, .int (q_i 1)), (5, .int (q_i 0)), (0, .ref b), (1, .ref x), (2, .ref mo), (3, .ref out), (4, .ref outD)]) cx.1 cx.2.1 dL_law_1027 hl (by decide) rfl (fun ls hl => ?_)
      refine q_ald_n cx dL_law_1029 rfl (lv_at hl 4 rfl) ?_
      refine q_ald_n cx dL_law_1030 rfl (lv_at hl 2 rfl) ?_
      refine lv_iload cx.1 cx.2.1 dL_law_1031 (lv_at hl 1 rfl) ?_
      refine q_iconst cx dL_law_1033 ?_
      refine q_iadd cx dL_law_1034 ?_
      refine va_sld cx.1 cx.2.1 hXs hbl hbA hB.1.2.2.2 (q_in (by decide) (by decide) (by decide)) dL_law_1035 ?_
      rw [show (q_i (0 + 1)).toNatClampNeg = 1 from by decide, ex1]
      refine q_cVi (As := [.int (q_i x1)]) (rest := []) cx hB (fun q h => hLA q h) hN hmo kmo (by decide) rfl (p_awakeInc l g hN hB.2.1 mo hmo kmo x1 (by omega) (by omega) bu hbu kbu sr hsr ksr sd hsd ksd as has kas aw haw kaw pa hpa kpa nm hnm knm snm hsnm ksnm anm hanm kanm z172 z173 z174 z175 z176 z177 z178 z179 z180 z181 z182 z183 z184 z185 z186 z187 z188 z189 z200 z201 z202 z203 z204 z205 z206 z207 z208) q_cL_176 q_dX12_awakeIn (by decide) rfl rfl hl.1 rfl (Nat.le_of_ble_eq_true rfl) dL_law_1036 (fun y210 H locs f209 ry210 h211 hF hB => ?_)
      obtain ⟨qy210, z212⟩ := h211
      have z213 : q_z f209 x 9 = 0 := (hF.z hx (by rw [kx]; rfl)).trans z158
      have z214 : q_z f209 src 1 = 0 := (hF.z hsrc (by rw [ksrc]; rfl)).trans z159
      have z215 : q_z f209 src 2 = 0 := (hF.z hsrc (by rw [ksrc]; rfl)).trans z160
      have z216 : q_z f209 src 3 = (-1) := (hF.z hsrc (by rw [ksrc]; rfl)).trans z161
      have z217 : q_z f209 hist 1 = 0 := (hF.z hhist (by rw [khist]; rfl)).trans z162
      have z218 : q_z f209 hist 2 = 0 := (hF.z hhist (by rw [khist]; rfl)).trans z163
      have z219 : q_z f209 rep 1 = 0 := (hF.z hrep (by rw [krep]; rfl)).trans z164
      have z220 : q_z f209 now 3 = 0 := (hF.z hnow (by rw [know]; rfl)).trans z165
      have z221 : q_z f209 now 4 = 0 := (hF.z hnow (by rw [know]; rfl)).trans z166
      have z222 : q_z f209 now 5 = 0 := (hF.z hnow (by rw [know]; rfl)).trans z167
      have z223 : q_z f209 now 6 = 12 := (hF.z hnow (by rw [know]; rfl)).trans z168
      have z224 : q_z f209 now 10 = 3 := (hF.z hnow (by rw [know]; rfl)).trans z169
      have z225 : q_z f209 now 11 = 0 := (hF.z hnow (by rw [know]; rfl)).trans z170
      have z226 : q_z f209 now 12 = 0 := (hF.z hnow (by rw [know]; rfl)).trans z171
      have z227 : q_r f209 x 0 = src := (hF.r hx (by rw [kx]; rfl)).trans z190
      have z228 : q_r f209 x 1 = rdr := (hF.r hx (by rw [kx]; rfl)).trans z191
      have z229 : q_r f209 x 2 = scr := (hF.r hx (by rw [kx]; rfl)).trans z192
      have z230 : q_r f209 x 3 = fc := (hF.r hx (by rw [kx]; rfl)).trans z193
      have z231 : q_r f209 x 4 = hist := (hF.r hx (by rw [kx]; rfl)).trans z194
      have z232 : q_r f209 x 5 = rep := (hF.r hx (by rw [kx]; rfl)).trans z195
      have z233 : q_r f209 x 6 = now := (hF.r hx (by rw [kx]; rfl)).trans z196
      have z234 : q_r f209 x 7 = dr := (hF.r hx (by rw [kx]; rfl)).trans z197
      have z235 : q_r f209 x 8 = sv := (hF.r hx (by rw [kx]; rfl)).trans z198
      have z236 : q_r f209 fc 0 = tr := (hF.r hfc (by rw [kfc]; rfl)).trans z199
      subst qy210
      refine lv_istore (lv' := [(7, .int (q_i 0)), (6, .int (q_i 1)), (5, .int (q_i 0)), (0, .ref b), (1, .ref x), (2, .ref mo), (3, .ref out), (4, .ref outD)]) cx.1 cx.2.1 dL_law_1039 hl (by decide) rfl (fun ls hl => ?_)
      refine q_ald_n cx dL_law_1041 rfl (lv_at hl 5 rfl) ?_
      refine q_cVi (As := []) (rest := []) cx hB (fun q h => hLA q h) hN hmo kmo (by decide) rfl (r_thrown l g hN hB.2.1 mo hmo kmo 1 (by decide) (by decide) z212) q_cL_124 q_dX12_thrown (by decide) rfl rfl hl.1 rfl (Nat.le_of_ble_eq_true rfl) dL_law_1042 (fun y238 H locs f237 ry238 h239 hF hB => ?_)
      obtain ⟨rfl, qy238⟩ := h239
      subst qy238
      refine lv_iload cx.1 cx.2.1 dL_law_1045 (lv_at hl 1 rfl) ?_
      refine q_iceq (tgt := 1052) cx ⟨by decide, by decide⟩ ⟨by decide, by decide⟩ dL_law_1047 (by decide) (fun c240 => ?_) (fun c240 => ?_)
      · refine lv_iload cx.1 cx.2.1 dL_law_1052 (lv_at hl 1 rfl) ?_
        refine q_ifne (tgt := 1069) cx ⟨by decide, by decide⟩ dL_law_1054 (by decide) (fun c241 => ?_) (fun c241 => ?_)
        · refine lv_goto (tgt := 2394) cx.1 cx.2.1 dL_law_1069 (by decide) ?_
          refine q_iinc (lv' := [(5, .int (q_i (0 + 6))), (7, .int (q_i 0)), (6, .int (q_i 1)), (0, .ref b), (1, .ref x), (2, .ref mo), (3, .ref out), (4, .ref outD)]) cx dL_law_2394 hl (k := 2) rfl (by decide) rfl (fun ls hl => ?_)
          refine lv_goto (tgt := 28) cx.1 cx.2.1 dL_law_2397 (by decide) ?_
          refine lv_iload cx.1 cx.2.1 dL_law_28 (lv_at hl 0 rfl) ?_
          refine q_ald_n cx dL_law_30 rfl (lv_at hl 3 rfl) ?_
          refine va_slen cx.1 cx.2.1 hXs hbl hbA hB.1.2.2.2 dL_law_31 ?_
          rw [show Int32.ofNat 6 = q_i 6 from by decide]
          refine q_bipush cx dL_law_32 rfl ?_
          refine q_isub cx dL_law_34 ?_
          refine q_icgt (tgt := 2400) cx ⟨by decide, by decide⟩ ⟨by decide, by decide⟩ dL_law_35 (by decide) (fun c242 => ?_) (fun c242 => ?_)
          · refine q_iconst cx dL_law_2400 ?_
            exact q_lawret C0 hB (by decide) (by decide) dL_law_2401
          · exact absurd c242 (by omega)
        · exact absurd c241 (by omega)
      · exact absurd c240 (by omega)
set_option maxHeartbeats 4000000 in
set_option maxRecDepth 100000 in
theorem law_c1072 {p : Program} {l : Launch} {e : Env} {s : State} {m : MethodId} {below : List Frame} {meth : Method} {c : Code} {b : Nat} {xs : Nat → Int32} (hfl : l.stackTraces = false) (C0 : lw_At p s m meth c b 6 xs) (cx : CallFix p m c cL_law 10 s #[Value.ref b] q_al RL) {g : q_G} {K : Nat → Nat} {L : List Nat} {f : Nat → va_E} {H : Heap} {locs : List Loc} {ls : Array Slot} (hN : L.Nodup) (hLA : ∀ q, q ∈ L → s.heap.size ≤ q) (hX : q_X (fun q => q ∈ L) s) (hB : q_B g K L (fun q => s.heap.size ≤ q) [(2, 1, 2), (6, 1, 1), (7, 1, 4), (8, 1, 9), (9, 0, 2), (10, 3, 15), (11, 9, 9), (12, 0, 40), (13, 3, 15), (14, 3, 15), (15, 3, 15), (16, 3, 15), (142, 0, 599), (150, 0, 599), (151, 0, 657), (152, 0, 657), (153, 0, 657), (154, 0, 657), (155, 0, 3947), (156, 0, 9), (157, 0, 9), (158, 0, 9), (168, 0, 0), (169, 0, 0)] f f s H locs) {x : Nat} (hx : x ∈ L) (kx : K x = 11) {src : Nat} (hsrc : src ∈ L) (ksrc : K src = 8) {rdr : Nat} (hrdr : rdr ∈ L) (krdr : K rdr = 9) {scr : Nat} (hscr : scr ∈ L) (kscr : K scr = 7) {fc : Nat} (hfc : fc ∈ L) (kfc : K fc = 1) {hist : Nat} (hhist : hist ∈ L) (khist : K hist = 2) {rep : Nat} (hrep : rep ∈ L) (krep : K rep = 6) {now : Nat} (hnow : now ∈ L) (know : K now = 10) {dr : Nat} (hdr : dr ∈ L) (kdr : K dr = 13) {sv : Nat} (hsv : sv ∈ L) (ksv : K sv = 14) {tr : Nat} (htr : tr ∈ L) (ktr : K tr = 15) {mo : Nat} (hmo : mo ∈ L) (kmo : K mo = 12) {bu : Nat} (hbu : bu ∈ L) (kbu : K bu = 150) {sr : Nat} (hsr : sr ∈ L) (ksr : K sr = 151) {sd : Nat} (hsd : sd ∈ L) (ksd : K sd = 152) {as : Nat} (has : as ∈ L) (kas : K as = 153) {aw : Nat} (haw : aw ∈ L) (kaw : K aw = 154) {pa : Nat} (hpa : pa ∈ L) (kpa : K pa = 155) {nm : Nat} (hnm : nm ∈ L) (knm : K nm = 156) {snm : Nat} (hsnm : snm ∈ L) (ksnm : K snm = 157) {anm : Nat} (hanm : anm ∈ L) (kanm : K anm = 158) {out : Nat} (hout : out ∈ L) (kout : K out = 168) {outD : Nat} (houtD : outD ∈ L) (koutD : K outD = 169) (hf0 : q_z f x 9 = 0) (hf1 : q_z f src 1 = 0) (hf2 : q_z f src 2 = 0) (hf3 : q_z f src 3 = (-1)) (hf4 : q_z f hist 1 = 0) (hf5 : q_z f hist 2 = 0) (hf6 : q_z f rep 1 = 0) (hf7 : q_z f now 3 = 0) (hf8 : q_z f now 4 = 0) (hf9 : q_z f now 5 = 0) (hf10 : q_z f now 6 = 12) (hf11 : q_z f now 10 = 3) (hf12 : q_z f now 11 = 0) (hf13 : q_z f now 12 = 0) (hf14 : q_z f mo 2 = 0) (hf15 : q_z f mo 8 = 0) (hf16 : q_z f mo 9 = (-1)) (hf17 : q_z f mo 10 = 0) (hf18 : q_z f mo 11 = (-1)) (hf19 : q_z f mo 21 = 0) (hf20 : q_z f mo 22 = 0) (hf21 : q_z f mo 40 = 0) (hf22 : q_z f sr 0 = 0) (hf23 : q_z f sr 1 = 0) (hf24 : q_z f sr 2 = 12) (hf25 : q_z f sr 3 = 0) (hf26 : q_z f sr 4 = 0) (hf27 : q_z f sr 5 = 1) (hf28 : q_z f sr 6 = 2) (hf29 : q_z f sr 7 = 5) (hf30 : q_z f sr 8 = 3) (hf31 : q_z f sr 9 = 0) (hr0 : q_r f x 0 = src) (hr1 : q_r f x 1 = rdr) (hr2 : q_r f x 2 = scr) (hr3 : q_r f x 3 = fc) (hr4 : q_r f x 4 = hist) (hr5 : q_r f x 5 = rep) (hr6 : q_r f x 6 = now) (hr7 : q_r f x 7 = dr) (hr8 : q_r f x 8 = sv) (hr9 : q_r f fc 0 = tr) (hr10 : q_r f mo 1 = bu) (hr11 : q_r f mo 13 = sr) (hr12 : q_r f mo 14 = sd) (hr13 : q_r f mo 15 = as) (hr14 : q_r f mo 16 = aw) (hr15 : q_r f mo 17 = pa) (hr16 : q_r f mo 18 = nm) (hr17 : q_r f mo 19 = snm) (hr18 : q_r f mo 20 = anm) (hl : lv_has ls 10 [(5, .int (q_i 0)), (0, .ref b), (1, .ref x), (2, .ref mo), (3, .ref out), (4, .ref outD)]) : W p l e room_1 s m #[Value.ref b] below meth c H locs 1100 20000 (lw_Z below #[Value.ref b] s) (F0 m 1072 ls []) := by
  have hXs := C0.2.2.2.2.2.2.1
  have hbl := C0.2.2.2.2.2.2.2.1
  have hbA := q_bA hbl
  obtain ⟨x0, rx0, ex0⟩ : ∃ z : Int, q_R z ∧ xs 0 = q_i z := ⟨_, q_rng _, (q_of _).symm⟩
  have lx0 := rx0.1
  have ux0 := rx0.2
  obtain ⟨x1, rx1, ex1⟩ : ∃ z : Int, q_R z ∧ xs 1 = q_i z := ⟨_, q_rng _, (q_of _).symm⟩
  have lx1 := rx1.1
  have ux1 := rx1.2
  obtain ⟨x2, rx2, ex2⟩ : ∃ z : Int, q_R z ∧ xs 2 = q_i z := ⟨_, q_rng _, (q_of _).symm⟩
  have lx2 := rx2.1
  have ux2 := rx2.2
  obtain ⟨x3, rx3, ex3⟩ : ∃ z : Int, q_R z ∧ xs 3 = q_i z := ⟨_, q_rng _, (q_of _).symm⟩
  have lx3 := rx3.1
  have ux3 := rx3.2
  obtain ⟨x4, rx4, ex4⟩ : ∃ z : Int, q_R z ∧ xs 4 = q_i z := ⟨_, q_rng _, (q_of _).symm⟩
  have lx4 := rx4.1
  have ux4 := rx4.2
  obtain ⟨x5, rx5, ex5⟩ : ∃ z : Int, q_R z ∧ xs 5 = q_i z := ⟨_, q_rng _, (q_of _).symm⟩
  have lx5 := rx5.1
  have ux5 := rx5.2
  refine q_ald_n cx dL_law_1072 rfl (lv_at hl 2 rfl) ?_
  refine q_ald_n cx dL_law_1073 rfl (lv_at hl 1 rfl) ?_
  refine lv_iload cx.1 cx.2.1 dL_law_1074 (lv_at hl 0 rfl) ?_
  refine q_iconst cx dL_law_1076 ?_
  refine q_iadd cx dL_law_1077 ?_
  refine va_sld cx.1 cx.2.1 hXs hbl hbA hB.1.2.2.2 (q_in (by decide) (by decide) (by decide)) dL_law_1078 ?_
  rw [show (q_i (0 + 1)).toNatClampNeg = 1 from by decide, ex1]
  refine q_ald_n cx dL_law_1079 rfl (lv_at hl 1 rfl) ?_
  refine lv_iload cx.1 cx.2.1 dL_law_1080 (lv_at hl 0 rfl) ?_
  refine q_iconst cx dL_law_1082 ?_
  refine q_iadd cx dL_law_1083 ?_
  refine va_sld cx.1 cx.2.1 hXs hbl hbA hB.1.2.2.2 (q_in (by decide) (by decide) (by decide)) dL_law_1084 ?_
  rw [show (q_i (0 + 2)).toNatClampNeg = 2 from by decide, ex2]
  refine q_ald_n cx dL_law_1085 rfl (lv_at hl 4 rfl) ?_
  refine q_cWS (As := [.ref x, .int (q_i x1), .int (q_i x2), .ref out]) (rest := []) cx hX hB (fun q h => hLA q h) (fun q h1 h2 => absurd h1 (Nat.not_le_of_lt h2)) hN (w_meetsIn l g hN hB.2.1 hfl x hx kx x1 (by omega) (by omega) x2 (by omega) (by omega) out hout kout src hsrc ksrc rdr hrdr krdr scr hscr kscr fc hfc kfc hist hhist khist rep hrep krep now hnow know dr hdr kdr sv hsv ksv tr htr ktr hf0 hf1 hf2 hf3 hf4 hf5 hf6 hf7 hf8 hf9 hf10 hf11 hf12 hf13 hr0 hr1 hr2 hr3 hr4 hr5 hr6 hr7 hr8 hr9) q_cL_177 q_dL_meetsIn (by decide) rfl rfl hl.1 rfl (Nat.le_of_ble_eq_true rfl) dL_law_1086 (fun v9 H locs f1 h3 hF hB => ?_)
  obtain ⟨y2, rfl, ry2, h3⟩ := h3
  refine W.eq (g2 := F0 m 1089 ls [.int (q_i y2)]) rfl ?_
  have qy2 := h3
  have z4 : q_z f1 x 9 = 0 := (hF.z hx (by rw [kx]; rfl)).trans hf0
  have z5 : q_z f1 src 1 = 0 := (hF.z hsrc (by rw [ksrc]; rfl)).trans hf1
  have z6 : q_z f1 src 2 = 0 := (hF.z hsrc (by rw [ksrc]; rfl)).trans hf2
  have z7 : q_z f1 src 3 = (-1) := (hF.z hsrc (by rw [ksrc]; rfl)).trans hf3
  have z8 : q_z f1 hist 1 = 0 := (hF.z hhist (by rw [khist]; rfl)).trans hf4
  have z9 : q_z f1 hist 2 = 0 := (hF.z hhist (by rw [khist]; rfl)).trans hf5
  have z10 : q_z f1 rep 1 = 0 := (hF.z hrep (by rw [krep]; rfl)).trans hf6
  have z11 : q_z f1 now 3 = 0 := (hF.z hnow (by rw [know]; rfl)).trans hf7
  have z12 : q_z f1 now 4 = 0 := (hF.z hnow (by rw [know]; rfl)).trans hf8
  have z13 : q_z f1 now 5 = 0 := (hF.z hnow (by rw [know]; rfl)).trans hf9
  have z14 : q_z f1 now 6 = 12 := (hF.z hnow (by rw [know]; rfl)).trans hf10
  have z15 : q_z f1 now 10 = 3 := (hF.z hnow (by rw [know]; rfl)).trans hf11
  have z16 : q_z f1 now 11 = 0 := (hF.z hnow (by rw [know]; rfl)).trans hf12
  have z17 : q_z f1 now 12 = 0 := (hF.z hnow (by rw [know]; rfl)).trans hf13
  have z18 : q_z f1 mo 2 = 0 := (hF.z hmo (by rw [kmo]; rfl)).trans hf14
  have z19 : q_z f1 mo 8 = 0 := (hF.z hmo (by rw [kmo]; rfl)).trans hf15
  have z20 : q_z f1 mo 9 = (-1) := (hF.z hmo (by rw [kmo]; rfl)).trans hf16
  have z21 : q_z f1 mo 10 = 0 := (hF.z hmo (by rw [kmo]; rfl)).trans hf17
  have z22 : q_z f1 mo 11 = (-1) := (hF.z hmo (by rw [kmo]; rfl)).trans hf18
  have z23 : q_z f1 mo 21 = 0 := (hF.z hmo (by rw [kmo]; rfl)).trans hf19
  have z24 : q_z f1 mo 22 = 0 := (hF.z hmo (by rw [kmo]; rfl)).trans hf20
  have z25 : q_z f1 mo 40 = 0 := (hF.z hmo (by rw [kmo]; rfl)).trans hf21
  have z26 : q_z f1 sr 0 = 0 := (hF.z hsr (by rw [ksr]; rfl)).trans hf22
  have z27 : q_z f1 sr 1 = 0 := (hF.z hsr (by rw [ksr]; rfl)).trans hf23
  have z28 : q_z f1 sr 2 = 12 := (hF.z hsr (by rw [ksr]; rfl)).trans hf24
  have z29 : q_z f1 sr 3 = 0 := (hF.z hsr (by rw [ksr]; rfl)).trans hf25
  have z30 : q_z f1 sr 4 = 0 := (hF.z hsr (by rw [ksr]; rfl)).trans hf26
  have z31 : q_z f1 sr 5 = 1 := (hF.z hsr (by rw [ksr]; rfl)).trans hf27
  have z32 : q_z f1 sr 6 = 2 := (hF.z hsr (by rw [ksr]; rfl)).trans hf28
  have z33 : q_z f1 sr 7 = 5 := (hF.z hsr (by rw [ksr]; rfl)).trans hf29
  have z34 : q_z f1 sr 8 = 3 := (hF.z hsr (by rw [ksr]; rfl)).trans hf30
  have z35 : q_z f1 sr 9 = 0 := (hF.z hsr (by rw [ksr]; rfl)).trans hf31
  have z36 : q_r f1 x 0 = src := (hF.r hx (by rw [kx]; rfl)).trans hr0
  have z37 : q_r f1 x 1 = rdr := (hF.r hx (by rw [kx]; rfl)).trans hr1
  have z38 : q_r f1 x 2 = scr := (hF.r hx (by rw [kx]; rfl)).trans hr2
  have z39 : q_r f1 x 3 = fc := (hF.r hx (by rw [kx]; rfl)).trans hr3
  have z40 : q_r f1 x 4 = hist := (hF.r hx (by rw [kx]; rfl)).trans hr4
  have z41 : q_r f1 x 5 = rep := (hF.r hx (by rw [kx]; rfl)).trans hr5
  have z42 : q_r f1 x 6 = now := (hF.r hx (by rw [kx]; rfl)).trans hr6
  have z43 : q_r f1 x 7 = dr := (hF.r hx (by rw [kx]; rfl)).trans hr7
  have z44 : q_r f1 x 8 = sv := (hF.r hx (by rw [kx]; rfl)).trans hr8
  have z45 : q_r f1 fc 0 = tr := (hF.r hfc (by rw [kfc]; rfl)).trans hr9
  have z46 : q_r f1 mo 1 = bu := (hF.r hmo (by rw [kmo]; rfl)).trans hr10
  have z47 : q_r f1 mo 13 = sr := (hF.r hmo (by rw [kmo]; rfl)).trans hr11
  have z48 : q_r f1 mo 14 = sd := (hF.r hmo (by rw [kmo]; rfl)).trans hr12
  have z49 : q_r f1 mo 15 = as := (hF.r hmo (by rw [kmo]; rfl)).trans hr13
  have z50 : q_r f1 mo 16 = aw := (hF.r hmo (by rw [kmo]; rfl)).trans hr14
  have z51 : q_r f1 mo 17 = pa := (hF.r hmo (by rw [kmo]; rfl)).trans hr15
  have z52 : q_r f1 mo 18 = nm := (hF.r hmo (by rw [kmo]; rfl)).trans hr16
  have z53 : q_r f1 mo 19 = snm := (hF.r hmo (by rw [kmo]; rfl)).trans hr17
  have z54 : q_r f1 mo 20 = anm := (hF.r hmo (by rw [kmo]; rfl)).trans hr18
  subst qy2
  refine lv_istore (lv' := [(6, .int (q_i 1)), (5, .int (q_i 0)), (0, .ref b), (1, .ref x), (2, .ref mo), (3, .ref out), (4, .ref outD)]) cx.1 cx.2.1 dL_law_1089 hl (by decide) rfl (fun ls hl => ?_)
  refine q_ald_n cx dL_law_1091 rfl (lv_at hl 4 rfl) ?_
  refine q_ald_n cx dL_law_1092 rfl (lv_at hl 2 rfl) ?_
  refine lv_iload cx.1 cx.2.1 dL_law_1093 (lv_at hl 1 rfl) ?_
  refine q_iconst cx dL_law_1095 ?_
  refine q_iadd cx dL_law_1096 ?_
  refine va_sld cx.1 cx.2.1 hXs hbl hbA hB.1.2.2.2 (q_in (by decide) (by decide) (by decide)) dL_law_1097 ?_
  rw [show (q_i (0 + 1)).toNatClampNeg = 1 from by decide, ex1]
  refine q_ald_n cx dL_law_1098 rfl (lv_at hl 2 rfl) ?_
  refine lv_iload cx.1 cx.2.1 dL_law_1099 (lv_at hl 1 rfl) ?_
  refine q_iconst cx dL_law_1101 ?_
  refine q_iadd cx dL_law_1102 ?_
  refine va_sld cx.1 cx.2.1 hXs hbl hbA hB.1.2.2.2 (q_in (by decide) (by decide) (by decide)) dL_law_1103 ?_
  rw [show (q_i (0 + 2)).toNatClampNeg = 2 from by decide, ex2]
  refine q_cVi (As := [.int (q_i x1), .int (q_i x2)]) (rest := []) cx hB (fun q h => hLA q h) hN hmo kmo (by decide) rfl (p_meetsIn l g hN hB.2.1 mo hmo kmo x1 (by omega) (by omega) x2 (by omega) (by omega) bu hbu kbu sr hsr ksr sd hsd ksd as has kas aw haw kaw pa hpa kpa nm hnm knm snm hsnm ksnm anm hanm kanm z18 z19 z20 z21 z22 z23 z24 z25 z26 z27 z28 z29 z30 z31 z32 z33 z34 z35 z46 z47 z48 z49 z50 z51 z52 z53 z54) q_cL_179 q_dX12_meetsIn (by decide) rfl rfl hl.1 rfl (Nat.le_of_ble_eq_true rfl) dL_law_1104 (fun y56 H locs f55 ry56 h57 hF hB => ?_)
  obtain ⟨qy56, z58⟩ := h57
  have z59 : q_z f55 x 9 = 0 := (hF.z hx (by rw [kx]; rfl)).trans z4
  have z60 : q_z f55 src 1 = 0 := (hF.z hsrc (by rw [ksrc]; rfl)).trans z5
  have z61 : q_z f55 src 2 = 0 := (hF.z hsrc (by rw [ksrc]; rfl)).trans z6
  have z62 : q_z f55 src 3 = (-1) := (hF.z hsrc (by rw [ksrc]; rfl)).trans z7
  have z63 : q_z f55 hist 1 = 0 := (hF.z hhist (by rw [khist]; rfl)).trans z8
  have z64 : q_z f55 hist 2 = 0 := (hF.z hhist (by rw [khist]; rfl)).trans z9
  have z65 : q_z f55 rep 1 = 0 := (hF.z hrep (by rw [krep]; rfl)).trans z10
  have z66 : q_z f55 now 3 = 0 := (hF.z hnow (by rw [know]; rfl)).trans z11
  have z67 : q_z f55 now 4 = 0 := (hF.z hnow (by rw [know]; rfl)).trans z12
  have z68 : q_z f55 now 5 = 0 := (hF.z hnow (by rw [know]; rfl)).trans z13
  have z69 : q_z f55 now 6 = 12 := (hF.z hnow (by rw [know]; rfl)).trans z14
  have z70 : q_z f55 now 10 = 3 := (hF.z hnow (by rw [know]; rfl)).trans z15
  have z71 : q_z f55 now 11 = 0 := (hF.z hnow (by rw [know]; rfl)).trans z16
  have z72 : q_z f55 now 12 = 0 := (hF.z hnow (by rw [know]; rfl)).trans z17
  have z73 : q_r f55 x 0 = src := (hF.r hx (by rw [kx]; rfl)).trans z36
  have z74 : q_r f55 x 1 = rdr := (hF.r hx (by rw [kx]; rfl)).trans z37
  have z75 : q_r f55 x 2 = scr := (hF.r hx (by rw [kx]; rfl)).trans z38
  have z76 : q_r f55 x 3 = fc := (hF.r hx (by rw [kx]; rfl)).trans z39
  have z77 : q_r f55 x 4 = hist := (hF.r hx (by rw [kx]; rfl)).trans z40
  have z78 : q_r f55 x 5 = rep := (hF.r hx (by rw [kx]; rfl)).trans z41
  have z79 : q_r f55 x 6 = now := (hF.r hx (by rw [kx]; rfl)).trans z42
  have z80 : q_r f55 x 7 = dr := (hF.r hx (by rw [kx]; rfl)).trans z43
  have z81 : q_r f55 x 8 = sv := (hF.r hx (by rw [kx]; rfl)).trans z44
  have z82 : q_r f55 fc 0 = tr := (hF.r hfc (by rw [kfc]; rfl)).trans z45
  subst qy56
  refine lv_istore (lv' := [(7, .int (q_i 0)), (6, .int (q_i 1)), (5, .int (q_i 0)), (0, .ref b), (1, .ref x), (2, .ref mo), (3, .ref out), (4, .ref outD)]) cx.1 cx.2.1 dL_law_1107 hl (by decide) rfl (fun ls hl => ?_)
  refine q_ald_n cx dL_law_1109 rfl (lv_at hl 5 rfl) ?_
  refine q_cVi (As := []) (rest := []) cx hB (fun q h => hLA q h) hN hmo kmo (by decide) rfl (r_thrown l g hN hB.2.1 mo hmo kmo 1 (by decide) (by decide) z58) q_cL_124 q_dX12_thrown (by decide) rfl rfl hl.1 rfl (Nat.le_of_ble_eq_true rfl) dL_law_1110 (fun y84 H locs f83 ry84 h85 hF hB => ?_)
  obtain ⟨rfl, qy84⟩ := h85
  subst qy84
  refine lv_iload cx.1 cx.2.1 dL_law_1113 (lv_at hl 1 rfl) ?_
  refine q_iceq (tgt := 1120) cx ⟨by decide, by decide⟩ ⟨by decide, by decide⟩ dL_law_1115 (by decide) (fun c86 => ?_) (fun c86 => ?_)
  · refine lv_iload cx.1 cx.2.1 dL_law_1120 (lv_at hl 1 rfl) ?_
    refine q_ifne (tgt := 1137) cx ⟨by decide, by decide⟩ dL_law_1122 (by decide) (fun c87 => ?_) (fun c87 => ?_)
    · refine lv_goto (tgt := 2394) cx.1 cx.2.1 dL_law_1137 (by decide) ?_
      refine q_iinc (lv' := [(5, .int (q_i (0 + 6))), (7, .int (q_i 0)), (6, .int (q_i 1)), (0, .ref b), (1, .ref x), (2, .ref mo), (3, .ref out), (4, .ref outD)]) cx dL_law_2394 hl (k := 2) rfl (by decide) rfl (fun ls hl => ?_)
      refine lv_goto (tgt := 28) cx.1 cx.2.1 dL_law_2397 (by decide) ?_
      refine lv_iload cx.1 cx.2.1 dL_law_28 (lv_at hl 0 rfl) ?_
      refine q_ald_n cx dL_law_30 rfl (lv_at hl 3 rfl) ?_
      refine va_slen cx.1 cx.2.1 hXs hbl hbA hB.1.2.2.2 dL_law_31 ?_
      rw [show Int32.ofNat 6 = q_i 6 from by decide]
      refine q_bipush cx dL_law_32 rfl ?_
      refine q_isub cx dL_law_34 ?_
      refine q_icgt (tgt := 2400) cx ⟨by decide, by decide⟩ ⟨by decide, by decide⟩ dL_law_35 (by decide) (fun c88 => ?_) (fun c88 => ?_)
      · refine q_iconst cx dL_law_2400 ?_
        exact q_lawret C0 hB (by decide) (by decide) dL_law_2401
      · exact absurd c88 (by omega)
    · exact absurd c87 (by omega)
  · exact absurd c86 (by omega)
set_option maxHeartbeats 4000000 in
set_option maxRecDepth 100000 in
theorem law_c1140 {p : Program} {l : Launch} {e : Env} {s : State} {m : MethodId} {below : List Frame} {meth : Method} {c : Code} {b : Nat} {xs : Nat → Int32} (hfl : l.stackTraces = false) (C0 : lw_At p s m meth c b 6 xs) (cx : CallFix p m c cL_law 10 s #[Value.ref b] q_al RL) {g : q_G} {K : Nat → Nat} {L : List Nat} {f : Nat → va_E} {H : Heap} {locs : List Loc} {ls : Array Slot} (hN : L.Nodup) (hLA : ∀ q, q ∈ L → s.heap.size ≤ q) (hX : q_X (fun q => q ∈ L) s) (hB : q_B g K L (fun q => s.heap.size ≤ q) [(2, 1, 2), (6, 1, 1), (7, 1, 4), (8, 1, 9), (9, 0, 2), (10, 3, 15), (11, 9, 9), (12, 0, 40), (13, 3, 15), (14, 3, 15), (15, 3, 15), (16, 3, 15), (142, 0, 599), (150, 0, 599), (151, 0, 657), (152, 0, 657), (153, 0, 657), (154, 0, 657), (155, 0, 3947), (156, 0, 9), (157, 0, 9), (158, 0, 9), (168, 0, 0), (169, 0, 0)] f f s H locs) {x : Nat} (hx : x ∈ L) (kx : K x = 11) {src : Nat} (hsrc : src ∈ L) (ksrc : K src = 8) {rdr : Nat} (hrdr : rdr ∈ L) (krdr : K rdr = 9) {scr : Nat} (hscr : scr ∈ L) (kscr : K scr = 7) {fc : Nat} (hfc : fc ∈ L) (kfc : K fc = 1) {hist : Nat} (hhist : hist ∈ L) (khist : K hist = 2) {rep : Nat} (hrep : rep ∈ L) (krep : K rep = 6) {now : Nat} (hnow : now ∈ L) (know : K now = 10) {dr : Nat} (hdr : dr ∈ L) (kdr : K dr = 13) {sv : Nat} (hsv : sv ∈ L) (ksv : K sv = 14) {tr : Nat} (htr : tr ∈ L) (ktr : K tr = 15) {mo : Nat} (hmo : mo ∈ L) (kmo : K mo = 12) {bu : Nat} (hbu : bu ∈ L) (kbu : K bu = 150) {sr : Nat} (hsr : sr ∈ L) (ksr : K sr = 151) {sd : Nat} (hsd : sd ∈ L) (ksd : K sd = 152) {as : Nat} (has : as ∈ L) (kas : K as = 153) {aw : Nat} (haw : aw ∈ L) (kaw : K aw = 154) {pa : Nat} (hpa : pa ∈ L) (kpa : K pa = 155) {nm : Nat} (hnm : nm ∈ L) (knm : K nm = 156) {snm : Nat} (hsnm : snm ∈ L) (ksnm : K snm = 157) {anm : Nat} (hanm : anm ∈ L) (kanm : K anm = 158) {out : Nat} (hout : out ∈ L) (kout : K out = 168) {outD : Nat} (houtD : outD ∈ L) (koutD : K outD = 169) (hf0 : q_z f x 9 = 0) (hf1 : q_z f src 1 = 0) (hf2 : q_z f src 2 = 0) (hf3 : q_z f src 3 = (-1)) (hf4 : q_z f hist 1 = 0) (hf5 : q_z f hist 2 = 0) (hf6 : q_z f rep 1 = 0) (hf7 : q_z f now 3 = 0) (hf8 : q_z f now 4 = 0) (hf9 : q_z f now 5 = 0) (hf10 : q_z f now 6 = 12) (hf11 : q_z f now 10 = 3) (hf12 : q_z f now 11 = 0) (hf13 : q_z f now 12 = 0) (hf14 : q_z f mo 2 = 0) (hf15 : q_z f mo 8 = 0) (hf16 : q_z f mo 9 = (-1)) (hf17 : q_z f mo 10 = 0) (hf18 : q_z f mo 11 = (-1)) (hf19 : q_z f mo 21 = 0) (hf20 : q_z f mo 22 = 0) (hf21 : q_z f mo 40 = 0) (hf22 : q_z f sr 0 = 0) (hf23 : q_z f sr 1 = 0) (hf24 : q_z f sr 2 = 12) (hf25 : q_z f sr 3 = 0) (hf26 : q_z f sr 4 = 0) (hf27 : q_z f sr 5 = 1) (hf28 : q_z f sr 6 = 2) (hf29 : q_z f sr 7 = 5) (hf30 : q_z f sr 8 = 3) (hf31 : q_z f sr 9 = 0) (hr0 : q_r f x 0 = src) (hr1 : q_r f x 1 = rdr) (hr2 : q_r f x 2 = scr) (hr3 : q_r f x 3 = fc) (hr4 : q_r f x 4 = hist) (hr5 : q_r f x 5 = rep) (hr6 : q_r f x 6 = now) (hr7 : q_r f x 7 = dr) (hr8 : q_r f x 8 = sv) (hr9 : q_r f fc 0 = tr) (hr10 : q_r f mo 1 = bu) (hr11 : q_r f mo 13 = sr) (hr12 : q_r f mo 14 = sd) (hr13 : q_r f mo 15 = as) (hr14 : q_r f mo 16 = aw) (hr15 : q_r f mo 17 = pa) (hr16 : q_r f mo 18 = nm) (hr17 : q_r f mo 19 = snm) (hr18 : q_r f mo 20 = anm) (hl : lv_has ls 10 [(5, .int (q_i 0)), (0, .ref b), (1, .ref x), (2, .ref mo), (3, .ref out), (4, .ref outD)]) : W p l e room_1 s m #[Value.ref b] below meth c H locs 1100 20000 (lw_Z below #[Value.ref b] s) (F0 m 1140 ls []) := by
  have hXs := C0.2.2.2.2.2.2.1
  have hbl := C0.2.2.2.2.2.2.2.1
  have hbA := q_bA hbl
  obtain ⟨x0, rx0, ex0⟩ : ∃ z : Int, q_R z ∧ xs 0 = q_i z := ⟨_, q_rng _, (q_of _).symm⟩
  have lx0 := rx0.1
  have ux0 := rx0.2
  obtain ⟨x1, rx1, ex1⟩ : ∃ z : Int, q_R z ∧ xs 1 = q_i z := ⟨_, q_rng _, (q_of _).symm⟩
  have lx1 := rx1.1
  have ux1 := rx1.2
  obtain ⟨x2, rx2, ex2⟩ : ∃ z : Int, q_R z ∧ xs 2 = q_i z := ⟨_, q_rng _, (q_of _).symm⟩
  have lx2 := rx2.1
  have ux2 := rx2.2
  obtain ⟨x3, rx3, ex3⟩ : ∃ z : Int, q_R z ∧ xs 3 = q_i z := ⟨_, q_rng _, (q_of _).symm⟩
  have lx3 := rx3.1
  have ux3 := rx3.2
  obtain ⟨x4, rx4, ex4⟩ : ∃ z : Int, q_R z ∧ xs 4 = q_i z := ⟨_, q_rng _, (q_of _).symm⟩
  have lx4 := rx4.1
  have ux4 := rx4.2
  obtain ⟨x5, rx5, ex5⟩ : ∃ z : Int, q_R z ∧ xs 5 = q_i z := ⟨_, q_rng _, (q_of _).symm⟩
  have lx5 := rx5.1
  have ux5 := rx5.2
  refine q_ald_n cx dL_law_1140 rfl (lv_at hl 2 rfl) ?_
  refine q_cVi (As := []) (rest := []) cx hB (fun q h => hLA q h) hN hx kx (by decide) rfl (x_worstLink l g hN hB.2.1 x hx kx src hsrc ksrc rdr hrdr krdr scr hscr kscr fc hfc kfc hist hhist khist rep hrep krep now hnow know dr hdr kdr sv hsv ksv tr htr ktr hf0 hf1 hf2 hf3 hf4 hf5 hf6 hf7 hf8 hf9 hf10 hf11 hf12 hf13 hr0 hr1 hr2 hr3 hr4 hr5 hr6 hr7 hr8 hr9) q_cL_180 q_dX11_worstLink (by decide) rfl rfl hl.1 rfl (Nat.le_of_ble_eq_true rfl) dL_law_1141 (fun y2 H locs f1 ry2 h3 hF hB => ?_)
  obtain ⟨rfl, qy2⟩ := h3
  subst qy2
  refine q_ald_n cx dL_law_1144 rfl (lv_at hl 3 rfl) ?_
  refine q_cVi (As := []) (rest := [.int (q_i (-1))]) cx hB (fun q h => hLA q h) hN hmo kmo (by decide) rfl (p_worstLink l g hN hB.2.1 mo hmo kmo bu hbu kbu sr hsr ksr sd hsd ksd as has kas aw haw kaw pa hpa kpa nm hnm knm snm hsnm ksnm anm hanm kanm hf14 hf15 hf16 hf17 hf18 hf19 hf20 hf21 hf22 hf23 hf24 hf25 hf26 hf27 hf28 hf29 hf30 hf31 hr10 hr11 hr12 hr13 hr14 hr15 hr16 hr17 hr18) q_cL_183 q_dX12_worstLink (by decide) rfl rfl hl.1 rfl (Nat.le_of_ble_eq_true rfl) dL_law_1145 (fun y5 H locs f4 ry5 h6 hF hB => ?_)
  obtain ⟨qy5, z7⟩ := h6
  have z8 : q_z f4 x 9 = 0 := (hF.z hx (by rw [kx]; rfl)).trans hf0
  have z9 : q_z f4 src 1 = 0 := (hF.z hsrc (by rw [ksrc]; rfl)).trans hf1
  have z10 : q_z f4 src 2 = 0 := (hF.z hsrc (by rw [ksrc]; rfl)).trans hf2
  have z11 : q_z f4 src 3 = (-1) := (hF.z hsrc (by rw [ksrc]; rfl)).trans hf3
  have z12 : q_z f4 hist 1 = 0 := (hF.z hhist (by rw [khist]; rfl)).trans hf4
  have z13 : q_z f4 hist 2 = 0 := (hF.z hhist (by rw [khist]; rfl)).trans hf5
  have z14 : q_z f4 rep 1 = 0 := (hF.z hrep (by rw [krep]; rfl)).trans hf6
  have z15 : q_z f4 now 3 = 0 := (hF.z hnow (by rw [know]; rfl)).trans hf7
  have z16 : q_z f4 now 4 = 0 := (hF.z hnow (by rw [know]; rfl)).trans hf8
  have z17 : q_z f4 now 5 = 0 := (hF.z hnow (by rw [know]; rfl)).trans hf9
  have z18 : q_z f4 now 6 = 12 := (hF.z hnow (by rw [know]; rfl)).trans hf10
  have z19 : q_z f4 now 10 = 3 := (hF.z hnow (by rw [know]; rfl)).trans hf11
  have z20 : q_z f4 now 11 = 0 := (hF.z hnow (by rw [know]; rfl)).trans hf12
  have z21 : q_z f4 now 12 = 0 := (hF.z hnow (by rw [know]; rfl)).trans hf13
  have z22 : q_r f4 x 0 = src := (hF.r hx (by rw [kx]; rfl)).trans hr0
  have z23 : q_r f4 x 1 = rdr := (hF.r hx (by rw [kx]; rfl)).trans hr1
  have z24 : q_r f4 x 2 = scr := (hF.r hx (by rw [kx]; rfl)).trans hr2
  have z25 : q_r f4 x 3 = fc := (hF.r hx (by rw [kx]; rfl)).trans hr3
  have z26 : q_r f4 x 4 = hist := (hF.r hx (by rw [kx]; rfl)).trans hr4
  have z27 : q_r f4 x 5 = rep := (hF.r hx (by rw [kx]; rfl)).trans hr5
  have z28 : q_r f4 x 6 = now := (hF.r hx (by rw [kx]; rfl)).trans hr6
  have z29 : q_r f4 x 7 = dr := (hF.r hx (by rw [kx]; rfl)).trans hr7
  have z30 : q_r f4 x 8 = sv := (hF.r hx (by rw [kx]; rfl)).trans hr8
  have z31 : q_r f4 fc 0 = tr := (hF.r hfc (by rw [kfc]; rfl)).trans hr9
  subst qy5
  refine q_iceq (tgt := 2394) cx ⟨by decide, by decide⟩ ⟨by decide, by decide⟩ dL_law_1148 (by decide) (fun c32 => ?_) (fun c32 => ?_)
  · refine q_iinc (lv' := [(5, .int (q_i (0 + 6))), (0, .ref b), (1, .ref x), (2, .ref mo), (3, .ref out), (4, .ref outD)]) cx dL_law_2394 hl (k := 0) rfl (by decide) rfl (fun ls hl => ?_)
    refine lv_goto (tgt := 28) cx.1 cx.2.1 dL_law_2397 (by decide) ?_
    refine lv_iload cx.1 cx.2.1 dL_law_28 (lv_at hl 0 rfl) ?_
    refine q_ald_n cx dL_law_30 rfl (lv_at hl 1 rfl) ?_
    refine va_slen cx.1 cx.2.1 hXs hbl hbA hB.1.2.2.2 dL_law_31 ?_
    rw [show Int32.ofNat 6 = q_i 6 from by decide]
    refine q_bipush cx dL_law_32 rfl ?_
    refine q_isub cx dL_law_34 ?_
    refine q_icgt (tgt := 2400) cx ⟨by decide, by decide⟩ ⟨by decide, by decide⟩ dL_law_35 (by decide) (fun c33 => ?_) (fun c33 => ?_)
    · refine q_iconst cx dL_law_2400 ?_
      exact q_lawret C0 hB (by decide) (by decide) dL_law_2401
    · exact absurd c33 (by omega)
  · exact absurd c32 (by omega)
set_option maxHeartbeats 4000000 in
set_option maxRecDepth 100000 in
theorem law_c1153 {p : Program} {l : Launch} {e : Env} {s : State} {m : MethodId} {below : List Frame} {meth : Method} {c : Code} {b : Nat} {xs : Nat → Int32} (hfl : l.stackTraces = false) (C0 : lw_At p s m meth c b 6 xs) (cx : CallFix p m c cL_law 10 s #[Value.ref b] q_al RL) {g : q_G} {K : Nat → Nat} {L : List Nat} {f : Nat → va_E} {H : Heap} {locs : List Loc} {ls : Array Slot} (hN : L.Nodup) (hLA : ∀ q, q ∈ L → s.heap.size ≤ q) (hX : q_X (fun q => q ∈ L) s) (hB : q_B g K L (fun q => s.heap.size ≤ q) [(2, 1, 2), (6, 1, 1), (7, 1, 4), (8, 1, 9), (9, 0, 2), (10, 3, 15), (11, 9, 9), (12, 0, 40), (13, 3, 15), (14, 3, 15), (15, 3, 15), (16, 3, 15), (142, 0, 599), (150, 0, 599), (151, 0, 657), (152, 0, 657), (153, 0, 657), (154, 0, 657), (155, 0, 3947), (156, 0, 9), (157, 0, 9), (158, 0, 9), (168, 0, 0), (169, 0, 0)] f f s H locs) {x : Nat} (hx : x ∈ L) (kx : K x = 11) {src : Nat} (hsrc : src ∈ L) (ksrc : K src = 8) {rdr : Nat} (hrdr : rdr ∈ L) (krdr : K rdr = 9) {scr : Nat} (hscr : scr ∈ L) (kscr : K scr = 7) {fc : Nat} (hfc : fc ∈ L) (kfc : K fc = 1) {hist : Nat} (hhist : hist ∈ L) (khist : K hist = 2) {rep : Nat} (hrep : rep ∈ L) (krep : K rep = 6) {now : Nat} (hnow : now ∈ L) (know : K now = 10) {dr : Nat} (hdr : dr ∈ L) (kdr : K dr = 13) {sv : Nat} (hsv : sv ∈ L) (ksv : K sv = 14) {tr : Nat} (htr : tr ∈ L) (ktr : K tr = 15) {mo : Nat} (hmo : mo ∈ L) (kmo : K mo = 12) {bu : Nat} (hbu : bu ∈ L) (kbu : K bu = 150) {sr : Nat} (hsr : sr ∈ L) (ksr : K sr = 151) {sd : Nat} (hsd : sd ∈ L) (ksd : K sd = 152) {as : Nat} (has : as ∈ L) (kas : K as = 153) {aw : Nat} (haw : aw ∈ L) (kaw : K aw = 154) {pa : Nat} (hpa : pa ∈ L) (kpa : K pa = 155) {nm : Nat} (hnm : nm ∈ L) (knm : K nm = 156) {snm : Nat} (hsnm : snm ∈ L) (ksnm : K snm = 157) {anm : Nat} (hanm : anm ∈ L) (kanm : K anm = 158) {out : Nat} (hout : out ∈ L) (kout : K out = 168) {outD : Nat} (houtD : outD ∈ L) (koutD : K outD = 169) (hf0 : q_z f x 9 = 0) (hf1 : q_z f src 1 = 0) (hf2 : q_z f src 2 = 0) (hf3 : q_z f src 3 = (-1)) (hf4 : q_z f hist 1 = 0) (hf5 : q_z f hist 2 = 0) (hf6 : q_z f rep 1 = 0) (hf7 : q_z f now 3 = 0) (hf8 : q_z f now 4 = 0) (hf9 : q_z f now 5 = 0) (hf10 : q_z f now 6 = 12) (hf11 : q_z f now 10 = 3) (hf12 : q_z f now 11 = 0) (hf13 : q_z f now 12 = 0) (hf14 : q_z f mo 2 = 0) (hf15 : q_z f mo 8 = 0) (hf16 : q_z f mo 9 = (-1)) (hf17 : q_z f mo 10 = 0) (hf18 : q_z f mo 11 = (-1)) (hf19 : q_z f mo 21 = 0) (hf20 : q_z f mo 22 = 0) (hf21 : q_z f mo 40 = 0) (hf22 : q_z f sr 0 = 0) (hf23 : q_z f sr 1 = 0) (hf24 : q_z f sr 2 = 12) (hf25 : q_z f sr 3 = 0) (hf26 : q_z f sr 4 = 0) (hf27 : q_z f sr 5 = 1) (hf28 : q_z f sr 6 = 2) (hf29 : q_z f sr 7 = 5) (hf30 : q_z f sr 8 = 3) (hf31 : q_z f sr 9 = 0) (hr0 : q_r f x 0 = src) (hr1 : q_r f x 1 = rdr) (hr2 : q_r f x 2 = scr) (hr3 : q_r f x 3 = fc) (hr4 : q_r f x 4 = hist) (hr5 : q_r f x 5 = rep) (hr6 : q_r f x 6 = now) (hr7 : q_r f x 7 = dr) (hr8 : q_r f x 8 = sv) (hr9 : q_r f fc 0 = tr) (hr10 : q_r f mo 1 = bu) (hr11 : q_r f mo 13 = sr) (hr12 : q_r f mo 14 = sd) (hr13 : q_r f mo 15 = as) (hr14 : q_r f mo 16 = aw) (hr15 : q_r f mo 17 = pa) (hr16 : q_r f mo 18 = nm) (hr17 : q_r f mo 19 = snm) (hr18 : q_r f mo 20 = anm) (hl : lv_has ls 10 [(5, .int (q_i 0)), (0, .ref b), (1, .ref x), (2, .ref mo), (3, .ref out), (4, .ref outD)]) : W p l e room_1 s m #[Value.ref b] below meth c H locs 1100 20000 (lw_Z below #[Value.ref b] s) (F0 m 1153 ls []) := by
  have hXs := C0.2.2.2.2.2.2.1
  have hbl := C0.2.2.2.2.2.2.2.1
  have hbA := q_bA hbl
  obtain ⟨x0, rx0, ex0⟩ : ∃ z : Int, q_R z ∧ xs 0 = q_i z := ⟨_, q_rng _, (q_of _).symm⟩
  have lx0 := rx0.1
  have ux0 := rx0.2
  obtain ⟨x1, rx1, ex1⟩ : ∃ z : Int, q_R z ∧ xs 1 = q_i z := ⟨_, q_rng _, (q_of _).symm⟩
  have lx1 := rx1.1
  have ux1 := rx1.2
  obtain ⟨x2, rx2, ex2⟩ : ∃ z : Int, q_R z ∧ xs 2 = q_i z := ⟨_, q_rng _, (q_of _).symm⟩
  have lx2 := rx2.1
  have ux2 := rx2.2
  obtain ⟨x3, rx3, ex3⟩ : ∃ z : Int, q_R z ∧ xs 3 = q_i z := ⟨_, q_rng _, (q_of _).symm⟩
  have lx3 := rx3.1
  have ux3 := rx3.2
  obtain ⟨x4, rx4, ex4⟩ : ∃ z : Int, q_R z ∧ xs 4 = q_i z := ⟨_, q_rng _, (q_of _).symm⟩
  have lx4 := rx4.1
  have ux4 := rx4.2
  obtain ⟨x5, rx5, ex5⟩ : ∃ z : Int, q_R z ∧ xs 5 = q_i z := ⟨_, q_rng _, (q_of _).symm⟩
  have lx5 := rx5.1
  have ux5 := rx5.2
  refine q_ald_n cx dL_law_1153 rfl (lv_at hl 2 rfl) ?_
  refine q_cVi (As := []) (rest := []) cx hB (fun q h => hLA q h) hN hx kx (by decide) rfl (x_busiest l g hN hB.2.1 x hx kx src hsrc ksrc rdr hrdr krdr scr hscr kscr fc hfc kfc hist hhist khist rep hrep krep now hnow know dr hdr kdr sv hsv ksv tr htr ktr hf0 hf1 hf2 hf3 hf4 hf5 hf6 hf7 hf8 hf9 hf10 hf11 hf12 hf13 hr0 hr1 hr2 hr3 hr4 hr5 hr6 hr7 hr8 hr9) q_cL_184 q_dX11_busiest (by decide) rfl rfl hl.1 rfl (Nat.le_of_ble_eq_true rfl) dL_law_1154 (fun y2 H locs f1 ry2 h3 hF hB => ?_)
  obtain ⟨rfl, qy2⟩ := h3
  subst qy2
  refine q_ald_n cx dL_law_1157 rfl (lv_at hl 3 rfl) ?_
  refine q_cVi (As := []) (rest := [.int (q_i 1)]) cx hB (fun q h => hLA q h) hN hmo kmo (by decide) rfl (p_busiest l g hN hB.2.1 mo hmo kmo bu hbu kbu sr hsr ksr sd hsd ksd as has kas aw haw kaw pa hpa kpa nm hnm knm snm hsnm ksnm anm hanm kanm hf14 hf15 hf16 hf17 hf18 hf19 hf20 hf21 hf22 hf23 hf24 hf25 hf26 hf27 hf28 hf29 hf30 hf31 hr10 hr11 hr12 hr13 hr14 hr15 hr16 hr17 hr18) q_cL_187 q_dX12_busiest (by decide) rfl rfl hl.1 rfl (Nat.le_of_ble_eq_true rfl) dL_law_1158 (fun y5 H locs f4 ry5 h6 hF hB => ?_)
  obtain ⟨qy5, z7⟩ := h6
  have z8 : q_z f4 x 9 = 0 := (hF.z hx (by rw [kx]; rfl)).trans hf0
  have z9 : q_z f4 src 1 = 0 := (hF.z hsrc (by rw [ksrc]; rfl)).trans hf1
  have z10 : q_z f4 src 2 = 0 := (hF.z hsrc (by rw [ksrc]; rfl)).trans hf2
  have z11 : q_z f4 src 3 = (-1) := (hF.z hsrc (by rw [ksrc]; rfl)).trans hf3
  have z12 : q_z f4 hist 1 = 0 := (hF.z hhist (by rw [khist]; rfl)).trans hf4
  have z13 : q_z f4 hist 2 = 0 := (hF.z hhist (by rw [khist]; rfl)).trans hf5
  have z14 : q_z f4 rep 1 = 0 := (hF.z hrep (by rw [krep]; rfl)).trans hf6
  have z15 : q_z f4 now 3 = 0 := (hF.z hnow (by rw [know]; rfl)).trans hf7
  have z16 : q_z f4 now 4 = 0 := (hF.z hnow (by rw [know]; rfl)).trans hf8
  have z17 : q_z f4 now 5 = 0 := (hF.z hnow (by rw [know]; rfl)).trans hf9
  have z18 : q_z f4 now 6 = 12 := (hF.z hnow (by rw [know]; rfl)).trans hf10
  have z19 : q_z f4 now 10 = 3 := (hF.z hnow (by rw [know]; rfl)).trans hf11
  have z20 : q_z f4 now 11 = 0 := (hF.z hnow (by rw [know]; rfl)).trans hf12
  have z21 : q_z f4 now 12 = 0 := (hF.z hnow (by rw [know]; rfl)).trans hf13
  have z22 : q_r f4 x 0 = src := (hF.r hx (by rw [kx]; rfl)).trans hr0
  have z23 : q_r f4 x 1 = rdr := (hF.r hx (by rw [kx]; rfl)).trans hr1
  have z24 : q_r f4 x 2 = scr := (hF.r hx (by rw [kx]; rfl)).trans hr2
  have z25 : q_r f4 x 3 = fc := (hF.r hx (by rw [kx]; rfl)).trans hr3
  have z26 : q_r f4 x 4 = hist := (hF.r hx (by rw [kx]; rfl)).trans hr4
  have z27 : q_r f4 x 5 = rep := (hF.r hx (by rw [kx]; rfl)).trans hr5
  have z28 : q_r f4 x 6 = now := (hF.r hx (by rw [kx]; rfl)).trans hr6
  have z29 : q_r f4 x 7 = dr := (hF.r hx (by rw [kx]; rfl)).trans hr7
  have z30 : q_r f4 x 8 = sv := (hF.r hx (by rw [kx]; rfl)).trans hr8
  have z31 : q_r f4 fc 0 = tr := (hF.r hfc (by rw [kfc]; rfl)).trans hr9
  subst qy5
  refine q_iceq (tgt := 2394) cx ⟨by decide, by decide⟩ ⟨by decide, by decide⟩ dL_law_1161 (by decide) (fun c32 => ?_) (fun c32 => ?_)
  · refine q_iinc (lv' := [(5, .int (q_i (0 + 6))), (0, .ref b), (1, .ref x), (2, .ref mo), (3, .ref out), (4, .ref outD)]) cx dL_law_2394 hl (k := 0) rfl (by decide) rfl (fun ls hl => ?_)
    refine lv_goto (tgt := 28) cx.1 cx.2.1 dL_law_2397 (by decide) ?_
    refine lv_iload cx.1 cx.2.1 dL_law_28 (lv_at hl 0 rfl) ?_
    refine q_ald_n cx dL_law_30 rfl (lv_at hl 1 rfl) ?_
    refine va_slen cx.1 cx.2.1 hXs hbl hbA hB.1.2.2.2 dL_law_31 ?_
    rw [show Int32.ofNat 6 = q_i 6 from by decide]
    refine q_bipush cx dL_law_32 rfl ?_
    refine q_isub cx dL_law_34 ?_
    refine q_icgt (tgt := 2400) cx ⟨by decide, by decide⟩ ⟨by decide, by decide⟩ dL_law_35 (by decide) (fun c33 => ?_) (fun c33 => ?_)
    · refine q_iconst cx dL_law_2400 ?_
      exact q_lawret C0 hB (by decide) (by decide) dL_law_2401
    · exact absurd c33 (by omega)
  · exact absurd c32 (by omega)
set_option maxHeartbeats 4000000 in
set_option maxRecDepth 100000 in
theorem law_c1166 {p : Program} {l : Launch} {e : Env} {s : State} {m : MethodId} {below : List Frame} {meth : Method} {c : Code} {b : Nat} {xs : Nat → Int32} (hfl : l.stackTraces = false) (C0 : lw_At p s m meth c b 6 xs) (cx : CallFix p m c cL_law 10 s #[Value.ref b] q_al RL) {g : q_G} {K : Nat → Nat} {L : List Nat} {f : Nat → va_E} {H : Heap} {locs : List Loc} {ls : Array Slot} (hN : L.Nodup) (hLA : ∀ q, q ∈ L → s.heap.size ≤ q) (hX : q_X (fun q => q ∈ L) s) (hB : q_B g K L (fun q => s.heap.size ≤ q) [(2, 1, 2), (6, 1, 1), (7, 1, 4), (8, 1, 9), (9, 0, 2), (10, 3, 15), (11, 9, 9), (12, 0, 40), (13, 3, 15), (14, 3, 15), (15, 3, 15), (16, 3, 15), (142, 0, 599), (150, 0, 599), (151, 0, 657), (152, 0, 657), (153, 0, 657), (154, 0, 657), (155, 0, 3947), (156, 0, 9), (157, 0, 9), (158, 0, 9), (168, 0, 0), (169, 0, 0)] f f s H locs) {x : Nat} (hx : x ∈ L) (kx : K x = 11) {src : Nat} (hsrc : src ∈ L) (ksrc : K src = 8) {rdr : Nat} (hrdr : rdr ∈ L) (krdr : K rdr = 9) {scr : Nat} (hscr : scr ∈ L) (kscr : K scr = 7) {fc : Nat} (hfc : fc ∈ L) (kfc : K fc = 1) {hist : Nat} (hhist : hist ∈ L) (khist : K hist = 2) {rep : Nat} (hrep : rep ∈ L) (krep : K rep = 6) {now : Nat} (hnow : now ∈ L) (know : K now = 10) {dr : Nat} (hdr : dr ∈ L) (kdr : K dr = 13) {sv : Nat} (hsv : sv ∈ L) (ksv : K sv = 14) {tr : Nat} (htr : tr ∈ L) (ktr : K tr = 15) {mo : Nat} (hmo : mo ∈ L) (kmo : K mo = 12) {bu : Nat} (hbu : bu ∈ L) (kbu : K bu = 150) {sr : Nat} (hsr : sr ∈ L) (ksr : K sr = 151) {sd : Nat} (hsd : sd ∈ L) (ksd : K sd = 152) {as : Nat} (has : as ∈ L) (kas : K as = 153) {aw : Nat} (haw : aw ∈ L) (kaw : K aw = 154) {pa : Nat} (hpa : pa ∈ L) (kpa : K pa = 155) {nm : Nat} (hnm : nm ∈ L) (knm : K nm = 156) {snm : Nat} (hsnm : snm ∈ L) (ksnm : K snm = 157) {anm : Nat} (hanm : anm ∈ L) (kanm : K anm = 158) {out : Nat} (hout : out ∈ L) (kout : K out = 168) {outD : Nat} (houtD : outD ∈ L) (koutD : K outD = 169) (hf0 : q_z f x 9 = 0) (hf1 : q_z f src 1 = 0) (hf2 : q_z f src 2 = 0) (hf3 : q_z f src 3 = (-1)) (hf4 : q_z f hist 1 = 0) (hf5 : q_z f hist 2 = 0) (hf6 : q_z f rep 1 = 0) (hf7 : q_z f now 3 = 0) (hf8 : q_z f now 4 = 0) (hf9 : q_z f now 5 = 0) (hf10 : q_z f now 6 = 12) (hf11 : q_z f now 10 = 3) (hf12 : q_z f now 11 = 0) (hf13 : q_z f now 12 = 0) (hf14 : q_z f mo 2 = 0) (hf15 : q_z f mo 8 = 0) (hf16 : q_z f mo 9 = (-1)) (hf17 : q_z f mo 10 = 0) (hf18 : q_z f mo 11 = (-1)) (hf19 : q_z f mo 21 = 0) (hf20 : q_z f mo 22 = 0) (hf21 : q_z f mo 40 = 0) (hf22 : q_z f sr 0 = 0) (hf23 : q_z f sr 1 = 0) (hf24 : q_z f sr 2 = 12) (hf25 : q_z f sr 3 = 0) (hf26 : q_z f sr 4 = 0) (hf27 : q_z f sr 5 = 1) (hf28 : q_z f sr 6 = 2) (hf29 : q_z f sr 7 = 5) (hf30 : q_z f sr 8 = 3) (hf31 : q_z f sr 9 = 0) (hr0 : q_r f x 0 = src) (hr1 : q_r f x 1 = rdr) (hr2 : q_r f x 2 = scr) (hr3 : q_r f x 3 = fc) (hr4 : q_r f x 4 = hist) (hr5 : q_r f x 5 = rep) (hr6 : q_r f x 6 = now) (hr7 : q_r f x 7 = dr) (hr8 : q_r f x 8 = sv) (hr9 : q_r f fc 0 = tr) (hr10 : q_r f mo 1 = bu) (hr11 : q_r f mo 13 = sr) (hr12 : q_r f mo 14 = sd) (hr13 : q_r f mo 15 = as) (hr14 : q_r f mo 16 = aw) (hr15 : q_r f mo 17 = pa) (hr16 : q_r f mo 18 = nm) (hr17 : q_r f mo 19 = snm) (hr18 : q_r f mo 20 = anm) (hl : lv_has ls 10 [(5, .int (q_i 0)), (0, .ref b), (1, .ref x), (2, .ref mo), (3, .ref out), (4, .ref outD)]) : W p l e room_1 s m #[Value.ref b] below meth c H locs 1100 20000 (lw_Z below #[Value.ref b] s) (F0 m 1166 ls []) := by
  have hXs := C0.2.2.2.2.2.2.1
  have hbl := C0.2.2.2.2.2.2.2.1
  have hbA := q_bA hbl
  obtain ⟨x0, rx0, ex0⟩ : ∃ z : Int, q_R z ∧ xs 0 = q_i z := ⟨_, q_rng _, (q_of _).symm⟩
  have lx0 := rx0.1
  have ux0 := rx0.2
  obtain ⟨x1, rx1, ex1⟩ : ∃ z : Int, q_R z ∧ xs 1 = q_i z := ⟨_, q_rng _, (q_of _).symm⟩
  have lx1 := rx1.1
  have ux1 := rx1.2
  obtain ⟨x2, rx2, ex2⟩ : ∃ z : Int, q_R z ∧ xs 2 = q_i z := ⟨_, q_rng _, (q_of _).symm⟩
  have lx2 := rx2.1
  have ux2 := rx2.2
  obtain ⟨x3, rx3, ex3⟩ : ∃ z : Int, q_R z ∧ xs 3 = q_i z := ⟨_, q_rng _, (q_of _).symm⟩
  have lx3 := rx3.1
  have ux3 := rx3.2
  obtain ⟨x4, rx4, ex4⟩ : ∃ z : Int, q_R z ∧ xs 4 = q_i z := ⟨_, q_rng _, (q_of _).symm⟩
  have lx4 := rx4.1
  have ux4 := rx4.2
  obtain ⟨x5, rx5, ex5⟩ : ∃ z : Int, q_R z ∧ xs 5 = q_i z := ⟨_, q_rng _, (q_of _).symm⟩
  have lx5 := rx5.1
  have ux5 := rx5.2
  refine q_ald_n cx dL_law_1166 rfl (lv_at hl 2 rfl) ?_
  refine q_ald_n cx dL_law_1167 rfl (lv_at hl 1 rfl) ?_
  refine lv_iload cx.1 cx.2.1 dL_law_1168 (lv_at hl 0 rfl) ?_
  refine q_iconst cx dL_law_1170 ?_
  refine q_iadd cx dL_law_1171 ?_
  refine va_sld cx.1 cx.2.1 hXs hbl hbA hB.1.2.2.2 (q_in (by decide) (by decide) (by decide)) dL_law_1172 ?_
  rw [show (q_i (0 + 1)).toNatClampNeg = 1 from by decide, ex1]
  refine q_ald_n cx dL_law_1173 rfl (lv_at hl 1 rfl) ?_
  refine lv_iload cx.1 cx.2.1 dL_law_1174 (lv_at hl 0 rfl) ?_
  refine q_iconst cx dL_law_1176 ?_
  refine q_iadd cx dL_law_1177 ?_
  refine va_sld cx.1 cx.2.1 hXs hbl hbA hB.1.2.2.2 (q_in (by decide) (by decide) (by decide)) dL_law_1178 ?_
  rw [show (q_i (0 + 2)).toNatClampNeg = 2 from by decide, ex2]
  refine q_ald_n cx dL_law_1179 rfl (lv_at hl 4 rfl) ?_
  refine q_cWS (As := [.ref x, .int (q_i x1), .int (q_i x2), .ref out]) (rest := []) cx hX hB (fun q h => hLA q h) (fun q h1 h2 => absurd h1 (Nat.not_le_of_lt h2)) hN (w_hops l g hN hB.2.1 hfl x hx kx x1 (by omega) (by omega) x2 (by omega) (by omega) out hout kout src hsrc ksrc rdr hrdr krdr scr hscr kscr fc hfc kfc hist hhist khist rep hrep krep now hnow know dr hdr kdr sv hsv ksv tr htr ktr hf0 hf1 hf2 hf3 hf4 hf5 hf6 hf7 hf8 hf9 hf10 hf11 hf12 hf13 hr0 hr1 hr2 hr3 hr4 hr5 hr6 hr7 hr8 hr9) q_cL_188 q_dL_hops (by decide) rfl rfl hl.1 rfl (Nat.le_of_ble_eq_true rfl) dL_law_1180 (fun v9 H locs f1 h3 hF hB => ?_)
  obtain ⟨y2, rfl, ry2, h3⟩ := h3
  refine W.eq (g2 := F0 m 1183 ls [.int (q_i y2)]) rfl ?_
  have qy2 := h3
  have z4 : q_z f1 x 9 = 0 := (hF.z hx (by rw [kx]; rfl)).trans hf0
  have z5 : q_z f1 src 1 = 0 := (hF.z hsrc (by rw [ksrc]; rfl)).trans hf1
  have z6 : q_z f1 src 2 = 0 := (hF.z hsrc (by rw [ksrc]; rfl)).trans hf2
  have z7 : q_z f1 src 3 = (-1) := (hF.z hsrc (by rw [ksrc]; rfl)).trans hf3
  have z8 : q_z f1 hist 1 = 0 := (hF.z hhist (by rw [khist]; rfl)).trans hf4
  have z9 : q_z f1 hist 2 = 0 := (hF.z hhist (by rw [khist]; rfl)).trans hf5
  have z10 : q_z f1 rep 1 = 0 := (hF.z hrep (by rw [krep]; rfl)).trans hf6
  have z11 : q_z f1 now 3 = 0 := (hF.z hnow (by rw [know]; rfl)).trans hf7
  have z12 : q_z f1 now 4 = 0 := (hF.z hnow (by rw [know]; rfl)).trans hf8
  have z13 : q_z f1 now 5 = 0 := (hF.z hnow (by rw [know]; rfl)).trans hf9
  have z14 : q_z f1 now 6 = 12 := (hF.z hnow (by rw [know]; rfl)).trans hf10
  have z15 : q_z f1 now 10 = 3 := (hF.z hnow (by rw [know]; rfl)).trans hf11
  have z16 : q_z f1 now 11 = 0 := (hF.z hnow (by rw [know]; rfl)).trans hf12
  have z17 : q_z f1 now 12 = 0 := (hF.z hnow (by rw [know]; rfl)).trans hf13
  have z18 : q_z f1 mo 2 = 0 := (hF.z hmo (by rw [kmo]; rfl)).trans hf14
  have z19 : q_z f1 mo 8 = 0 := (hF.z hmo (by rw [kmo]; rfl)).trans hf15
  have z20 : q_z f1 mo 9 = (-1) := (hF.z hmo (by rw [kmo]; rfl)).trans hf16
  have z21 : q_z f1 mo 10 = 0 := (hF.z hmo (by rw [kmo]; rfl)).trans hf17
  have z22 : q_z f1 mo 11 = (-1) := (hF.z hmo (by rw [kmo]; rfl)).trans hf18
  have z23 : q_z f1 mo 21 = 0 := (hF.z hmo (by rw [kmo]; rfl)).trans hf19
  have z24 : q_z f1 mo 22 = 0 := (hF.z hmo (by rw [kmo]; rfl)).trans hf20
  have z25 : q_z f1 mo 40 = 0 := (hF.z hmo (by rw [kmo]; rfl)).trans hf21
  have z26 : q_z f1 sr 0 = 0 := (hF.z hsr (by rw [ksr]; rfl)).trans hf22
  have z27 : q_z f1 sr 1 = 0 := (hF.z hsr (by rw [ksr]; rfl)).trans hf23
  have z28 : q_z f1 sr 2 = 12 := (hF.z hsr (by rw [ksr]; rfl)).trans hf24
  have z29 : q_z f1 sr 3 = 0 := (hF.z hsr (by rw [ksr]; rfl)).trans hf25
  have z30 : q_z f1 sr 4 = 0 := (hF.z hsr (by rw [ksr]; rfl)).trans hf26
  have z31 : q_z f1 sr 5 = 1 := (hF.z hsr (by rw [ksr]; rfl)).trans hf27
  have z32 : q_z f1 sr 6 = 2 := (hF.z hsr (by rw [ksr]; rfl)).trans hf28
  have z33 : q_z f1 sr 7 = 5 := (hF.z hsr (by rw [ksr]; rfl)).trans hf29
  have z34 : q_z f1 sr 8 = 3 := (hF.z hsr (by rw [ksr]; rfl)).trans hf30
  have z35 : q_z f1 sr 9 = 0 := (hF.z hsr (by rw [ksr]; rfl)).trans hf31
  have z36 : q_r f1 x 0 = src := (hF.r hx (by rw [kx]; rfl)).trans hr0
  have z37 : q_r f1 x 1 = rdr := (hF.r hx (by rw [kx]; rfl)).trans hr1
  have z38 : q_r f1 x 2 = scr := (hF.r hx (by rw [kx]; rfl)).trans hr2
  have z39 : q_r f1 x 3 = fc := (hF.r hx (by rw [kx]; rfl)).trans hr3
  have z40 : q_r f1 x 4 = hist := (hF.r hx (by rw [kx]; rfl)).trans hr4
  have z41 : q_r f1 x 5 = rep := (hF.r hx (by rw [kx]; rfl)).trans hr5
  have z42 : q_r f1 x 6 = now := (hF.r hx (by rw [kx]; rfl)).trans hr6
  have z43 : q_r f1 x 7 = dr := (hF.r hx (by rw [kx]; rfl)).trans hr7
  have z44 : q_r f1 x 8 = sv := (hF.r hx (by rw [kx]; rfl)).trans hr8
  have z45 : q_r f1 fc 0 = tr := (hF.r hfc (by rw [kfc]; rfl)).trans hr9
  have z46 : q_r f1 mo 1 = bu := (hF.r hmo (by rw [kmo]; rfl)).trans hr10
  have z47 : q_r f1 mo 13 = sr := (hF.r hmo (by rw [kmo]; rfl)).trans hr11
  have z48 : q_r f1 mo 14 = sd := (hF.r hmo (by rw [kmo]; rfl)).trans hr12
  have z49 : q_r f1 mo 15 = as := (hF.r hmo (by rw [kmo]; rfl)).trans hr13
  have z50 : q_r f1 mo 16 = aw := (hF.r hmo (by rw [kmo]; rfl)).trans hr14
  have z51 : q_r f1 mo 17 = pa := (hF.r hmo (by rw [kmo]; rfl)).trans hr15
  have z52 : q_r f1 mo 18 = nm := (hF.r hmo (by rw [kmo]; rfl)).trans hr16
  have z53 : q_r f1 mo 19 = snm := (hF.r hmo (by rw [kmo]; rfl)).trans hr17
  have z54 : q_r f1 mo 20 = anm := (hF.r hmo (by rw [kmo]; rfl)).trans hr18
  subst qy2
  refine lv_istore (lv' := [(6, .int (q_i 1)), (5, .int (q_i 0)), (0, .ref b), (1, .ref x), (2, .ref mo), (3, .ref out), (4, .ref outD)]) cx.1 cx.2.1 dL_law_1183 hl (by decide) rfl (fun ls hl => ?_)
  refine q_ald_n cx dL_law_1185 rfl (lv_at hl 4 rfl) ?_
  refine q_ald_n cx dL_law_1186 rfl (lv_at hl 2 rfl) ?_
  refine lv_iload cx.1 cx.2.1 dL_law_1187 (lv_at hl 1 rfl) ?_
  refine q_iconst cx dL_law_1189 ?_
  refine q_iadd cx dL_law_1190 ?_
  refine va_sld cx.1 cx.2.1 hXs hbl hbA hB.1.2.2.2 (q_in (by decide) (by decide) (by decide)) dL_law_1191 ?_
  rw [show (q_i (0 + 1)).toNatClampNeg = 1 from by decide, ex1]
  refine q_ald_n cx dL_law_1192 rfl (lv_at hl 2 rfl) ?_
  refine lv_iload cx.1 cx.2.1 dL_law_1193 (lv_at hl 1 rfl) ?_
  refine q_iconst cx dL_law_1195 ?_
  refine q_iadd cx dL_law_1196 ?_
  refine va_sld cx.1 cx.2.1 hXs hbl hbA hB.1.2.2.2 (q_in (by decide) (by decide) (by decide)) dL_law_1197 ?_
  rw [show (q_i (0 + 2)).toNatClampNeg = 2 from by decide, ex2]
  refine q_cVi (As := [.int (q_i x1), .int (q_i x2)]) (rest := []) cx hB (fun q h => hLA q h) hN hmo kmo (by decide) rfl (p_hops l g hN hB.2.1 mo hmo kmo x1 (by omega) (by omega) x2 (by omega) (by omega) bu hbu kbu sr hsr ksr sd hsd ksd as has kas aw haw kaw pa hpa kpa nm hnm knm snm hsnm ksnm anm hanm kanm z18 z19 z20 z21 z22 z23 z24 z25 z26 z27 z28 z29 z30 z31 z32 z33 z34 z35 z46 z47 z48 z49 z50 z51 z52 z53 z54) q_cL_190 q_dX12_hops (by decide) rfl rfl hl.1 rfl (Nat.le_of_ble_eq_true rfl) dL_law_1198 (fun y56 H locs f55 ry56 h57 hF hB => ?_)
  obtain ⟨qy56, z58⟩ := h57
  have z59 : q_z f55 x 9 = 0 := (hF.z hx (by rw [kx]; rfl)).trans z4
  have z60 : q_z f55 src 1 = 0 := (hF.z hsrc (by rw [ksrc]; rfl)).trans z5
  have z61 : q_z f55 src 2 = 0 := (hF.z hsrc (by rw [ksrc]; rfl)).trans z6
  have z62 : q_z f55 src 3 = (-1) := (hF.z hsrc (by rw [ksrc]; rfl)).trans z7
  have z63 : q_z f55 hist 1 = 0 := (hF.z hhist (by rw [khist]; rfl)).trans z8
  have z64 : q_z f55 hist 2 = 0 := (hF.z hhist (by rw [khist]; rfl)).trans z9
  have z65 : q_z f55 rep 1 = 0 := (hF.z hrep (by rw [krep]; rfl)).trans z10
  have z66 : q_z f55 now 3 = 0 := (hF.z hnow (by rw [know]; rfl)).trans z11
  have z67 : q_z f55 now 4 = 0 := (hF.z hnow (by rw [know]; rfl)).trans z12
  have z68 : q_z f55 now 5 = 0 := (hF.z hnow (by rw [know]; rfl)).trans z13
  have z69 : q_z f55 now 6 = 12 := (hF.z hnow (by rw [know]; rfl)).trans z14
  have z70 : q_z f55 now 10 = 3 := (hF.z hnow (by rw [know]; rfl)).trans z15
  have z71 : q_z f55 now 11 = 0 := (hF.z hnow (by rw [know]; rfl)).trans z16
  have z72 : q_z f55 now 12 = 0 := (hF.z hnow (by rw [know]; rfl)).trans z17
  have z73 : q_r f55 x 0 = src := (hF.r hx (by rw [kx]; rfl)).trans z36
  have z74 : q_r f55 x 1 = rdr := (hF.r hx (by rw [kx]; rfl)).trans z37
  have z75 : q_r f55 x 2 = scr := (hF.r hx (by rw [kx]; rfl)).trans z38
  have z76 : q_r f55 x 3 = fc := (hF.r hx (by rw [kx]; rfl)).trans z39
  have z77 : q_r f55 x 4 = hist := (hF.r hx (by rw [kx]; rfl)).trans z40
  have z78 : q_r f55 x 5 = rep := (hF.r hx (by rw [kx]; rfl)).trans z41
  have z79 : q_r f55 x 6 = now := (hF.r hx (by rw [kx]; rfl)).trans z42
  have z80 : q_r f55 x 7 = dr := (hF.r hx (by rw [kx]; rfl)).trans z43
  have z81 : q_r f55 x 8 = sv := (hF.r hx (by rw [kx]; rfl)).trans z44
  have z82 : q_r f55 fc 0 = tr := (hF.r hfc (by rw [kfc]; rfl)).trans z45
  subst qy56
  refine lv_istore (lv' := [(7, .int (q_i 0)), (6, .int (q_i 1)), (5, .int (q_i 0)), (0, .ref b), (1, .ref x), (2, .ref mo), (3, .ref out), (4, .ref outD)]) cx.1 cx.2.1 dL_law_1201 hl (by decide) rfl (fun ls hl => ?_)
  refine q_ald_n cx dL_law_1203 rfl (lv_at hl 5 rfl) ?_
  refine q_cVi (As := []) (rest := []) cx hB (fun q h => hLA q h) hN hmo kmo (by decide) rfl (r_thrown l g hN hB.2.1 mo hmo kmo 1 (by decide) (by decide) z58) q_cL_124 q_dX12_thrown (by decide) rfl rfl hl.1 rfl (Nat.le_of_ble_eq_true rfl) dL_law_1204 (fun y84 H locs f83 ry84 h85 hF hB => ?_)
  obtain ⟨rfl, qy84⟩ := h85
  subst qy84
  refine lv_iload cx.1 cx.2.1 dL_law_1207 (lv_at hl 1 rfl) ?_
  refine q_iceq (tgt := 1214) cx ⟨by decide, by decide⟩ ⟨by decide, by decide⟩ dL_law_1209 (by decide) (fun c86 => ?_) (fun c86 => ?_)
  · refine lv_iload cx.1 cx.2.1 dL_law_1214 (lv_at hl 1 rfl) ?_
    refine q_ifne (tgt := 1231) cx ⟨by decide, by decide⟩ dL_law_1216 (by decide) (fun c87 => ?_) (fun c87 => ?_)
    · refine lv_goto (tgt := 2394) cx.1 cx.2.1 dL_law_1231 (by decide) ?_
      refine q_iinc (lv' := [(5, .int (q_i (0 + 6))), (7, .int (q_i 0)), (6, .int (q_i 1)), (0, .ref b), (1, .ref x), (2, .ref mo), (3, .ref out), (4, .ref outD)]) cx dL_law_2394 hl (k := 2) rfl (by decide) rfl (fun ls hl => ?_)
      refine lv_goto (tgt := 28) cx.1 cx.2.1 dL_law_2397 (by decide) ?_
      refine lv_iload cx.1 cx.2.1 dL_law_28 (lv_at hl 0 rfl) ?_
      refine q_ald_n cx dL_law_30 rfl (lv_at hl 3 rfl) ?_
      refine va_slen cx.1 cx.2.1 hXs hbl hbA hB.1.2.2.2 dL_law_31 ?_
      rw [show Int32.ofNat 6 = q_i 6 from by decide]
      refine q_bipush cx dL_law_32 rfl ?_
      refine q_isub cx dL_law_34 ?_
      refine q_icgt (tgt := 2400) cx ⟨by decide, by decide⟩ ⟨by decide, by decide⟩ dL_law_35 (by decide) (fun c88 => ?_) (fun c88 => ?_)
      · refine q_iconst cx dL_law_2400 ?_
        exact q_lawret C0 hB (by decide) (by decide) dL_law_2401
      · exact absurd c88 (by omega)
    · exact absurd c87 (by omega)
  · exact absurd c86 (by omega)
set_option maxHeartbeats 4000000 in
set_option maxRecDepth 100000 in
theorem law_c1234 {p : Program} {l : Launch} {e : Env} {s : State} {m : MethodId} {below : List Frame} {meth : Method} {c : Code} {b : Nat} {xs : Nat → Int32} (hfl : l.stackTraces = false) (C0 : lw_At p s m meth c b 6 xs) (cx : CallFix p m c cL_law 10 s #[Value.ref b] q_al RL) {g : q_G} {K : Nat → Nat} {L : List Nat} {f : Nat → va_E} {H : Heap} {locs : List Loc} {ls : Array Slot} (hN : L.Nodup) (hLA : ∀ q, q ∈ L → s.heap.size ≤ q) (hX : q_X (fun q => q ∈ L) s) (hB : q_B g K L (fun q => s.heap.size ≤ q) [(2, 1, 2), (6, 1, 1), (7, 1, 4), (8, 1, 9), (9, 0, 2), (10, 3, 15), (11, 9, 9), (12, 0, 40), (13, 3, 15), (14, 3, 15), (15, 3, 15), (16, 3, 15), (142, 0, 599), (150, 0, 599), (151, 0, 657), (152, 0, 657), (153, 0, 657), (154, 0, 657), (155, 0, 3947), (156, 0, 9), (157, 0, 9), (158, 0, 9), (168, 0, 0), (169, 0, 0)] f f s H locs) {x : Nat} (hx : x ∈ L) (kx : K x = 11) {src : Nat} (hsrc : src ∈ L) (ksrc : K src = 8) {rdr : Nat} (hrdr : rdr ∈ L) (krdr : K rdr = 9) {scr : Nat} (hscr : scr ∈ L) (kscr : K scr = 7) {fc : Nat} (hfc : fc ∈ L) (kfc : K fc = 1) {hist : Nat} (hhist : hist ∈ L) (khist : K hist = 2) {rep : Nat} (hrep : rep ∈ L) (krep : K rep = 6) {now : Nat} (hnow : now ∈ L) (know : K now = 10) {dr : Nat} (hdr : dr ∈ L) (kdr : K dr = 13) {sv : Nat} (hsv : sv ∈ L) (ksv : K sv = 14) {tr : Nat} (htr : tr ∈ L) (ktr : K tr = 15) {mo : Nat} (hmo : mo ∈ L) (kmo : K mo = 12) {bu : Nat} (hbu : bu ∈ L) (kbu : K bu = 150) {sr : Nat} (hsr : sr ∈ L) (ksr : K sr = 151) {sd : Nat} (hsd : sd ∈ L) (ksd : K sd = 152) {as : Nat} (has : as ∈ L) (kas : K as = 153) {aw : Nat} (haw : aw ∈ L) (kaw : K aw = 154) {pa : Nat} (hpa : pa ∈ L) (kpa : K pa = 155) {nm : Nat} (hnm : nm ∈ L) (knm : K nm = 156) {snm : Nat} (hsnm : snm ∈ L) (ksnm : K snm = 157) {anm : Nat} (hanm : anm ∈ L) (kanm : K anm = 158) {out : Nat} (hout : out ∈ L) (kout : K out = 168) {outD : Nat} (houtD : outD ∈ L) (koutD : K outD = 169) (hf0 : q_z f x 9 = 0) (hf1 : q_z f src 1 = 0) (hf2 : q_z f src 2 = 0) (hf3 : q_z f src 3 = (-1)) (hf4 : q_z f hist 1 = 0) (hf5 : q_z f hist 2 = 0) (hf6 : q_z f rep 1 = 0) (hf7 : q_z f now 3 = 0) (hf8 : q_z f now 4 = 0) (hf9 : q_z f now 5 = 0) (hf10 : q_z f now 6 = 12) (hf11 : q_z f now 10 = 3) (hf12 : q_z f now 11 = 0) (hf13 : q_z f now 12 = 0) (hf14 : q_z f mo 2 = 0) (hf15 : q_z f mo 8 = 0) (hf16 : q_z f mo 9 = (-1)) (hf17 : q_z f mo 10 = 0) (hf18 : q_z f mo 11 = (-1)) (hf19 : q_z f mo 21 = 0) (hf20 : q_z f mo 22 = 0) (hf21 : q_z f mo 40 = 0) (hf22 : q_z f sr 0 = 0) (hf23 : q_z f sr 1 = 0) (hf24 : q_z f sr 2 = 12) (hf25 : q_z f sr 3 = 0) (hf26 : q_z f sr 4 = 0) (hf27 : q_z f sr 5 = 1) (hf28 : q_z f sr 6 = 2) (hf29 : q_z f sr 7 = 5) (hf30 : q_z f sr 8 = 3) (hf31 : q_z f sr 9 = 0) (hr0 : q_r f x 0 = src) (hr1 : q_r f x 1 = rdr) (hr2 : q_r f x 2 = scr) (hr3 : q_r f x 3 = fc) (hr4 : q_r f x 4 = hist) (hr5 : q_r f x 5 = rep) (hr6 : q_r f x 6 = now) (hr7 : q_r f x 7 = dr) (hr8 : q_r f x 8 = sv) (hr9 : q_r f fc 0 = tr) (hr10 : q_r f mo 1 = bu) (hr11 : q_r f mo 13 = sr) (hr12 : q_r f mo 14 = sd) (hr13 : q_r f mo 15 = as) (hr14 : q_r f mo 16 = aw) (hr15 : q_r f mo 17 = pa) (hr16 : q_r f mo 18 = nm) (hr17 : q_r f mo 19 = snm) (hr18 : q_r f mo 20 = anm) (hl : lv_has ls 10 [(5, .int (q_i 0)), (0, .ref b), (1, .ref x), (2, .ref mo), (3, .ref out), (4, .ref outD)]) : W p l e room_1 s m #[Value.ref b] below meth c H locs 1100 20000 (lw_Z below #[Value.ref b] s) (F0 m 1234 ls []) := by
  have hXs := C0.2.2.2.2.2.2.1
  have hbl := C0.2.2.2.2.2.2.2.1
  have hbA := q_bA hbl
  obtain ⟨x0, rx0, ex0⟩ : ∃ z : Int, q_R z ∧ xs 0 = q_i z := ⟨_, q_rng _, (q_of _).symm⟩
  have lx0 := rx0.1
  have ux0 := rx0.2
  obtain ⟨x1, rx1, ex1⟩ : ∃ z : Int, q_R z ∧ xs 1 = q_i z := ⟨_, q_rng _, (q_of _).symm⟩
  have lx1 := rx1.1
  have ux1 := rx1.2
  obtain ⟨x2, rx2, ex2⟩ : ∃ z : Int, q_R z ∧ xs 2 = q_i z := ⟨_, q_rng _, (q_of _).symm⟩
  have lx2 := rx2.1
  have ux2 := rx2.2
  obtain ⟨x3, rx3, ex3⟩ : ∃ z : Int, q_R z ∧ xs 3 = q_i z := ⟨_, q_rng _, (q_of _).symm⟩
  have lx3 := rx3.1
  have ux3 := rx3.2
  obtain ⟨x4, rx4, ex4⟩ : ∃ z : Int, q_R z ∧ xs 4 = q_i z := ⟨_, q_rng _, (q_of _).symm⟩
  have lx4 := rx4.1
  have ux4 := rx4.2
  obtain ⟨x5, rx5, ex5⟩ : ∃ z : Int, q_R z ∧ xs 5 = q_i z := ⟨_, q_rng _, (q_of _).symm⟩
  have lx5 := rx5.1
  have ux5 := rx5.2
  refine q_ald_n cx dL_law_1234 rfl (lv_at hl 2 rfl) ?_
  refine q_ald_n cx dL_law_1235 rfl (lv_at hl 1 rfl) ?_
  refine lv_iload cx.1 cx.2.1 dL_law_1236 (lv_at hl 0 rfl) ?_
  refine q_iconst cx dL_law_1238 ?_
  refine q_iadd cx dL_law_1239 ?_
  refine va_sld cx.1 cx.2.1 hXs hbl hbA hB.1.2.2.2 (q_in (by decide) (by decide) (by decide)) dL_law_1240 ?_
  rw [show (q_i (0 + 1)).toNatClampNeg = 1 from by decide, ex1]
  refine q_ald_n cx dL_law_1241 rfl (lv_at hl 1 rfl) ?_
  refine lv_iload cx.1 cx.2.1 dL_law_1242 (lv_at hl 0 rfl) ?_
  refine q_iconst cx dL_law_1244 ?_
  refine q_iadd cx dL_law_1245 ?_
  refine va_sld cx.1 cx.2.1 hXs hbl hbA hB.1.2.2.2 (q_in (by decide) (by decide) (by decide)) dL_law_1246 ?_
  rw [show (q_i (0 + 2)).toNatClampNeg = 2 from by decide, ex2]
  refine q_ald_n cx dL_law_1247 rfl (lv_at hl 4 rfl) ?_
  refine q_cWS (As := [.ref x, .int (q_i x1), .int (q_i x2), .ref out]) (rest := []) cx hX hB (fun q h => hLA q h) (fun q h1 h2 => absurd h1 (Nat.not_le_of_lt h2)) hN (w_nextNode l g hN hB.2.1 hfl x hx kx x1 (by omega) (by omega) x2 (by omega) (by omega) out hout kout src hsrc ksrc rdr hrdr krdr scr hscr kscr fc hfc kfc hist hhist khist rep hrep krep now hnow know dr hdr kdr sv hsv ksv tr htr ktr hf0 hf1 hf2 hf3 hf4 hf5 hf6 hf7 hf8 hf9 hf10 hf11 hf12 hf13 hr0 hr1 hr2 hr3 hr4 hr5 hr6 hr7 hr8 hr9) q_cL_191 q_dL_nextNode (by decide) rfl rfl hl.1 rfl (Nat.le_of_ble_eq_true rfl) dL_law_1248 (fun v9 H locs f1 h3 hF hB => ?_)
  obtain ⟨y2, rfl, ry2, h3⟩ := h3
  refine W.eq (g2 := F0 m 1251 ls [.int (q_i y2)]) rfl ?_
  have qy2 := h3
  have z4 : q_z f1 x 9 = 0 := (hF.z hx (by rw [kx]; rfl)).trans hf0
  have z5 : q_z f1 src 1 = 0 := (hF.z hsrc (by rw [ksrc]; rfl)).trans hf1
  have z6 : q_z f1 src 2 = 0 := (hF.z hsrc (by rw [ksrc]; rfl)).trans hf2
  have z7 : q_z f1 src 3 = (-1) := (hF.z hsrc (by rw [ksrc]; rfl)).trans hf3
  have z8 : q_z f1 hist 1 = 0 := (hF.z hhist (by rw [khist]; rfl)).trans hf4
  have z9 : q_z f1 hist 2 = 0 := (hF.z hhist (by rw [khist]; rfl)).trans hf5
  have z10 : q_z f1 rep 1 = 0 := (hF.z hrep (by rw [krep]; rfl)).trans hf6
  have z11 : q_z f1 now 3 = 0 := (hF.z hnow (by rw [know]; rfl)).trans hf7
  have z12 : q_z f1 now 4 = 0 := (hF.z hnow (by rw [know]; rfl)).trans hf8
  have z13 : q_z f1 now 5 = 0 := (hF.z hnow (by rw [know]; rfl)).trans hf9
  have z14 : q_z f1 now 6 = 12 := (hF.z hnow (by rw [know]; rfl)).trans hf10
  have z15 : q_z f1 now 10 = 3 := (hF.z hnow (by rw [know]; rfl)).trans hf11
  have z16 : q_z f1 now 11 = 0 := (hF.z hnow (by rw [know]; rfl)).trans hf12
  have z17 : q_z f1 now 12 = 0 := (hF.z hnow (by rw [know]; rfl)).trans hf13
  have z18 : q_z f1 mo 2 = 0 := (hF.z hmo (by rw [kmo]; rfl)).trans hf14
  have z19 : q_z f1 mo 8 = 0 := (hF.z hmo (by rw [kmo]; rfl)).trans hf15
  have z20 : q_z f1 mo 9 = (-1) := (hF.z hmo (by rw [kmo]; rfl)).trans hf16
  have z21 : q_z f1 mo 10 = 0 := (hF.z hmo (by rw [kmo]; rfl)).trans hf17
  have z22 : q_z f1 mo 11 = (-1) := (hF.z hmo (by rw [kmo]; rfl)).trans hf18
  have z23 : q_z f1 mo 21 = 0 := (hF.z hmo (by rw [kmo]; rfl)).trans hf19
  have z24 : q_z f1 mo 22 = 0 := (hF.z hmo (by rw [kmo]; rfl)).trans hf20
  have z25 : q_z f1 mo 40 = 0 := (hF.z hmo (by rw [kmo]; rfl)).trans hf21
  have z26 : q_z f1 sr 0 = 0 := (hF.z hsr (by rw [ksr]; rfl)).trans hf22
  have z27 : q_z f1 sr 1 = 0 := (hF.z hsr (by rw [ksr]; rfl)).trans hf23
  have z28 : q_z f1 sr 2 = 12 := (hF.z hsr (by rw [ksr]; rfl)).trans hf24
  have z29 : q_z f1 sr 3 = 0 := (hF.z hsr (by rw [ksr]; rfl)).trans hf25
  have z30 : q_z f1 sr 4 = 0 := (hF.z hsr (by rw [ksr]; rfl)).trans hf26
  have z31 : q_z f1 sr 5 = 1 := (hF.z hsr (by rw [ksr]; rfl)).trans hf27
  have z32 : q_z f1 sr 6 = 2 := (hF.z hsr (by rw [ksr]; rfl)).trans hf28
  have z33 : q_z f1 sr 7 = 5 := (hF.z hsr (by rw [ksr]; rfl)).trans hf29
  have z34 : q_z f1 sr 8 = 3 := (hF.z hsr (by rw [ksr]; rfl)).trans hf30
  have z35 : q_z f1 sr 9 = 0 := (hF.z hsr (by rw [ksr]; rfl)).trans hf31
  have z36 : q_r f1 x 0 = src := (hF.r hx (by rw [kx]; rfl)).trans hr0
  have z37 : q_r f1 x 1 = rdr := (hF.r hx (by rw [kx]; rfl)).trans hr1
  have z38 : q_r f1 x 2 = scr := (hF.r hx (by rw [kx]; rfl)).trans hr2
  have z39 : q_r f1 x 3 = fc := (hF.r hx (by rw [kx]; rfl)).trans hr3
  have z40 : q_r f1 x 4 = hist := (hF.r hx (by rw [kx]; rfl)).trans hr4
  have z41 : q_r f1 x 5 = rep := (hF.r hx (by rw [kx]; rfl)).trans hr5
  have z42 : q_r f1 x 6 = now := (hF.r hx (by rw [kx]; rfl)).trans hr6
  have z43 : q_r f1 x 7 = dr := (hF.r hx (by rw [kx]; rfl)).trans hr7
  have z44 : q_r f1 x 8 = sv := (hF.r hx (by rw [kx]; rfl)).trans hr8
  have z45 : q_r f1 fc 0 = tr := (hF.r hfc (by rw [kfc]; rfl)).trans hr9
  have z46 : q_r f1 mo 1 = bu := (hF.r hmo (by rw [kmo]; rfl)).trans hr10
  have z47 : q_r f1 mo 13 = sr := (hF.r hmo (by rw [kmo]; rfl)).trans hr11
  have z48 : q_r f1 mo 14 = sd := (hF.r hmo (by rw [kmo]; rfl)).trans hr12
  have z49 : q_r f1 mo 15 = as := (hF.r hmo (by rw [kmo]; rfl)).trans hr13
  have z50 : q_r f1 mo 16 = aw := (hF.r hmo (by rw [kmo]; rfl)).trans hr14
  have z51 : q_r f1 mo 17 = pa := (hF.r hmo (by rw [kmo]; rfl)).trans hr15
  have z52 : q_r f1 mo 18 = nm := (hF.r hmo (by rw [kmo]; rfl)).trans hr16
  have z53 : q_r f1 mo 19 = snm := (hF.r hmo (by rw [kmo]; rfl)).trans hr17
  have z54 : q_r f1 mo 20 = anm := (hF.r hmo (by rw [kmo]; rfl)).trans hr18
  subst qy2
  refine lv_istore (lv' := [(6, .int (q_i 1)), (5, .int (q_i 0)), (0, .ref b), (1, .ref x), (2, .ref mo), (3, .ref out), (4, .ref outD)]) cx.1 cx.2.1 dL_law_1251 hl (by decide) rfl (fun ls hl => ?_)
  refine q_ald_n cx dL_law_1253 rfl (lv_at hl 4 rfl) ?_
  refine q_ald_n cx dL_law_1254 rfl (lv_at hl 2 rfl) ?_
  refine lv_iload cx.1 cx.2.1 dL_law_1255 (lv_at hl 1 rfl) ?_
  refine q_iconst cx dL_law_1257 ?_
  refine q_iadd cx dL_law_1258 ?_
  refine va_sld cx.1 cx.2.1 hXs hbl hbA hB.1.2.2.2 (q_in (by decide) (by decide) (by decide)) dL_law_1259 ?_
  rw [show (q_i (0 + 1)).toNatClampNeg = 1 from by decide, ex1]
  refine q_ald_n cx dL_law_1260 rfl (lv_at hl 2 rfl) ?_
  refine lv_iload cx.1 cx.2.1 dL_law_1261 (lv_at hl 1 rfl) ?_
  refine q_iconst cx dL_law_1263 ?_
  refine q_iadd cx dL_law_1264 ?_
  refine va_sld cx.1 cx.2.1 hXs hbl hbA hB.1.2.2.2 (q_in (by decide) (by decide) (by decide)) dL_law_1265 ?_
  rw [show (q_i (0 + 2)).toNatClampNeg = 2 from by decide, ex2]
  refine q_cVi (As := [.int (q_i x1), .int (q_i x2)]) (rest := []) cx hB (fun q h => hLA q h) hN hmo kmo (by decide) rfl (p_nextNode l g hN hB.2.1 mo hmo kmo x1 (by omega) (by omega) x2 (by omega) (by omega) bu hbu kbu sr hsr ksr sd hsd ksd as has kas aw haw kaw pa hpa kpa nm hnm knm snm hsnm ksnm anm hanm kanm z18 z19 z20 z21 z22 z23 z24 z25 z26 z27 z28 z29 z30 z31 z32 z33 z34 z35 z46 z47 z48 z49 z50 z51 z52 z53 z54) q_cL_193 q_dX12_nextNode (by decide) rfl rfl hl.1 rfl (Nat.le_of_ble_eq_true rfl) dL_law_1266 (fun y56 H locs f55 ry56 h57 hF hB => ?_)
  obtain ⟨qy56, z58⟩ := h57
  have z59 : q_z f55 x 9 = 0 := (hF.z hx (by rw [kx]; rfl)).trans z4
  have z60 : q_z f55 src 1 = 0 := (hF.z hsrc (by rw [ksrc]; rfl)).trans z5
  have z61 : q_z f55 src 2 = 0 := (hF.z hsrc (by rw [ksrc]; rfl)).trans z6
  have z62 : q_z f55 src 3 = (-1) := (hF.z hsrc (by rw [ksrc]; rfl)).trans z7
  have z63 : q_z f55 hist 1 = 0 := (hF.z hhist (by rw [khist]; rfl)).trans z8
  have z64 : q_z f55 hist 2 = 0 := (hF.z hhist (by rw [khist]; rfl)).trans z9
  have z65 : q_z f55 rep 1 = 0 := (hF.z hrep (by rw [krep]; rfl)).trans z10
  have z66 : q_z f55 now 3 = 0 := (hF.z hnow (by rw [know]; rfl)).trans z11
  have z67 : q_z f55 now 4 = 0 := (hF.z hnow (by rw [know]; rfl)).trans z12
  have z68 : q_z f55 now 5 = 0 := (hF.z hnow (by rw [know]; rfl)).trans z13
  have z69 : q_z f55 now 6 = 12 := (hF.z hnow (by rw [know]; rfl)).trans z14
  have z70 : q_z f55 now 10 = 3 := (hF.z hnow (by rw [know]; rfl)).trans z15
  have z71 : q_z f55 now 11 = 0 := (hF.z hnow (by rw [know]; rfl)).trans z16
  have z72 : q_z f55 now 12 = 0 := (hF.z hnow (by rw [know]; rfl)).trans z17
  have z73 : q_r f55 x 0 = src := (hF.r hx (by rw [kx]; rfl)).trans z36
  have z74 : q_r f55 x 1 = rdr := (hF.r hx (by rw [kx]; rfl)).trans z37
  have z75 : q_r f55 x 2 = scr := (hF.r hx (by rw [kx]; rfl)).trans z38
  have z76 : q_r f55 x 3 = fc := (hF.r hx (by rw [kx]; rfl)).trans z39
  have z77 : q_r f55 x 4 = hist := (hF.r hx (by rw [kx]; rfl)).trans z40
  have z78 : q_r f55 x 5 = rep := (hF.r hx (by rw [kx]; rfl)).trans z41
  have z79 : q_r f55 x 6 = now := (hF.r hx (by rw [kx]; rfl)).trans z42
  have z80 : q_r f55 x 7 = dr := (hF.r hx (by rw [kx]; rfl)).trans z43
  have z81 : q_r f55 x 8 = sv := (hF.r hx (by rw [kx]; rfl)).trans z44
  have z82 : q_r f55 fc 0 = tr := (hF.r hfc (by rw [kfc]; rfl)).trans z45
  subst qy56
  refine lv_istore (lv' := [(7, .int (q_i 0)), (6, .int (q_i 1)), (5, .int (q_i 0)), (0, .ref b), (1, .ref x), (2, .ref mo), (3, .ref out), (4, .ref outD)]) cx.1 cx.2.1 dL_law_1269 hl (by decide) rfl (fun ls hl => ?_)
  refine q_ald_n cx dL_law_1271 rfl (lv_at hl 5 rfl) ?_
  refine q_cVi (As := []) (rest := []) cx hB (fun q h => hLA q h) hN hmo kmo (by decide) rfl (r_thrown l g hN hB.2.1 mo hmo kmo 1 (by decide) (by decide) z58) q_cL_124 q_dX12_thrown (by decide) rfl rfl hl.1 rfl (Nat.le_of_ble_eq_true rfl) dL_law_1272 (fun y84 H locs f83 ry84 h85 hF hB => ?_)
  obtain ⟨rfl, qy84⟩ := h85
  subst qy84
  refine lv_iload cx.1 cx.2.1 dL_law_1275 (lv_at hl 1 rfl) ?_
  refine q_iceq (tgt := 1282) cx ⟨by decide, by decide⟩ ⟨by decide, by decide⟩ dL_law_1277 (by decide) (fun c86 => ?_) (fun c86 => ?_)
  · refine lv_iload cx.1 cx.2.1 dL_law_1282 (lv_at hl 1 rfl) ?_
    refine q_ifne (tgt := 1299) cx ⟨by decide, by decide⟩ dL_law_1284 (by decide) (fun c87 => ?_) (fun c87 => ?_)
    · refine lv_goto (tgt := 2394) cx.1 cx.2.1 dL_law_1299 (by decide) ?_
      refine q_iinc (lv' := [(5, .int (q_i (0 + 6))), (7, .int (q_i 0)), (6, .int (q_i 1)), (0, .ref b), (1, .ref x), (2, .ref mo), (3, .ref out), (4, .ref outD)]) cx dL_law_2394 hl (k := 2) rfl (by decide) rfl (fun ls hl => ?_)
      refine lv_goto (tgt := 28) cx.1 cx.2.1 dL_law_2397 (by decide) ?_
      refine lv_iload cx.1 cx.2.1 dL_law_28 (lv_at hl 0 rfl) ?_
      refine q_ald_n cx dL_law_30 rfl (lv_at hl 3 rfl) ?_
      refine va_slen cx.1 cx.2.1 hXs hbl hbA hB.1.2.2.2 dL_law_31 ?_
      rw [show Int32.ofNat 6 = q_i 6 from by decide]
      refine q_bipush cx dL_law_32 rfl ?_
      refine q_isub cx dL_law_34 ?_
      refine q_icgt (tgt := 2400) cx ⟨by decide, by decide⟩ ⟨by decide, by decide⟩ dL_law_35 (by decide) (fun c88 => ?_) (fun c88 => ?_)
      · refine q_iconst cx dL_law_2400 ?_
        exact q_lawret C0 hB (by decide) (by decide) dL_law_2401
      · exact absurd c88 (by omega)
    · exact absurd c87 (by omega)
  · exact absurd c86 (by omega)
set_option maxHeartbeats 4000000 in
set_option maxRecDepth 100000 in
theorem law_c1302 {p : Program} {l : Launch} {e : Env} {s : State} {m : MethodId} {below : List Frame} {meth : Method} {c : Code} {b : Nat} {xs : Nat → Int32} (hfl : l.stackTraces = false) (C0 : lw_At p s m meth c b 6 xs) (cx : CallFix p m c cL_law 10 s #[Value.ref b] q_al RL) {g : q_G} {K : Nat → Nat} {L : List Nat} {f : Nat → va_E} {H : Heap} {locs : List Loc} {ls : Array Slot} (hN : L.Nodup) (hLA : ∀ q, q ∈ L → s.heap.size ≤ q) (hX : q_X (fun q => q ∈ L) s) (hB : q_B g K L (fun q => s.heap.size ≤ q) [(2, 1, 2), (6, 1, 1), (7, 1, 4), (8, 1, 9), (9, 0, 2), (10, 3, 15), (11, 9, 9), (12, 0, 40), (13, 3, 15), (14, 3, 15), (15, 3, 15), (16, 3, 15), (142, 0, 599), (150, 0, 599), (151, 0, 657), (152, 0, 657), (153, 0, 657), (154, 0, 657), (155, 0, 3947), (156, 0, 9), (157, 0, 9), (158, 0, 9), (168, 0, 0), (169, 0, 0)] f f s H locs) {x : Nat} (hx : x ∈ L) (kx : K x = 11) {src : Nat} (hsrc : src ∈ L) (ksrc : K src = 8) {rdr : Nat} (hrdr : rdr ∈ L) (krdr : K rdr = 9) {scr : Nat} (hscr : scr ∈ L) (kscr : K scr = 7) {fc : Nat} (hfc : fc ∈ L) (kfc : K fc = 1) {hist : Nat} (hhist : hist ∈ L) (khist : K hist = 2) {rep : Nat} (hrep : rep ∈ L) (krep : K rep = 6) {now : Nat} (hnow : now ∈ L) (know : K now = 10) {dr : Nat} (hdr : dr ∈ L) (kdr : K dr = 13) {sv : Nat} (hsv : sv ∈ L) (ksv : K sv = 14) {tr : Nat} (htr : tr ∈ L) (ktr : K tr = 15) {mo : Nat} (hmo : mo ∈ L) (kmo : K mo = 12) {bu : Nat} (hbu : bu ∈ L) (kbu : K bu = 150) {sr : Nat} (hsr : sr ∈ L) (ksr : K sr = 151) {sd : Nat} (hsd : sd ∈ L) (ksd : K sd = 152) {as : Nat} (has : as ∈ L) (kas : K as = 153) {aw : Nat} (haw : aw ∈ L) (kaw : K aw = 154) {pa : Nat} (hpa : pa ∈ L) (kpa : K pa = 155) {nm : Nat} (hnm : nm ∈ L) (knm : K nm = 156) {snm : Nat} (hsnm : snm ∈ L) (ksnm : K snm = 157) {anm : Nat} (hanm : anm ∈ L) (kanm : K anm = 158) {out : Nat} (hout : out ∈ L) (kout : K out = 168) {outD : Nat} (houtD : outD ∈ L) (koutD : K outD = 169) (hf0 : q_z f x 9 = 0) (hf1 : q_z f src 1 = 0) (hf2 : q_z f src 2 = 0) (hf3 : q_z f src 3 = (-1)) (hf4 : q_z f hist 1 = 0) (hf5 : q_z f hist 2 = 0) (hf6 : q_z f rep 1 = 0) (hf7 : q_z f now 3 = 0) (hf8 : q_z f now 4 = 0) (hf9 : q_z f now 5 = 0) (hf10 : q_z f now 6 = 12) (hf11 : q_z f now 10 = 3) (hf12 : q_z f now 11 = 0) (hf13 : q_z f now 12 = 0) (hf14 : q_z f mo 2 = 0) (hf15 : q_z f mo 8 = 0) (hf16 : q_z f mo 9 = (-1)) (hf17 : q_z f mo 10 = 0) (hf18 : q_z f mo 11 = (-1)) (hf19 : q_z f mo 21 = 0) (hf20 : q_z f mo 22 = 0) (hf21 : q_z f mo 40 = 0) (hf22 : q_z f sr 0 = 0) (hf23 : q_z f sr 1 = 0) (hf24 : q_z f sr 2 = 12) (hf25 : q_z f sr 3 = 0) (hf26 : q_z f sr 4 = 0) (hf27 : q_z f sr 5 = 1) (hf28 : q_z f sr 6 = 2) (hf29 : q_z f sr 7 = 5) (hf30 : q_z f sr 8 = 3) (hf31 : q_z f sr 9 = 0) (hr0 : q_r f x 0 = src) (hr1 : q_r f x 1 = rdr) (hr2 : q_r f x 2 = scr) (hr3 : q_r f x 3 = fc) (hr4 : q_r f x 4 = hist) (hr5 : q_r f x 5 = rep) (hr6 : q_r f x 6 = now) (hr7 : q_r f x 7 = dr) (hr8 : q_r f x 8 = sv) (hr9 : q_r f fc 0 = tr) (hr10 : q_r f mo 1 = bu) (hr11 : q_r f mo 13 = sr) (hr12 : q_r f mo 14 = sd) (hr13 : q_r f mo 15 = as) (hr14 : q_r f mo 16 = aw) (hr15 : q_r f mo 17 = pa) (hr16 : q_r f mo 18 = nm) (hr17 : q_r f mo 19 = snm) (hr18 : q_r f mo 20 = anm) (hl : lv_has ls 10 [(5, .int (q_i 0)), (0, .ref b), (1, .ref x), (2, .ref mo), (3, .ref out), (4, .ref outD)]) : W p l e room_1 s m #[Value.ref b] below meth c H locs 1100 20000 (lw_Z below #[Value.ref b] s) (F0 m 1302 ls []) := by
  have hXs := C0.2.2.2.2.2.2.1
  have hbl := C0.2.2.2.2.2.2.2.1
  have hbA := q_bA hbl
  obtain ⟨x0, rx0, ex0⟩ : ∃ z : Int, q_R z ∧ xs 0 = q_i z := ⟨_, q_rng _, (q_of _).symm⟩
  have lx0 := rx0.1
  have ux0 := rx0.2
  obtain ⟨x1, rx1, ex1⟩ : ∃ z : Int, q_R z ∧ xs 1 = q_i z := ⟨_, q_rng _, (q_of _).symm⟩
  have lx1 := rx1.1
  have ux1 := rx1.2
  obtain ⟨x2, rx2, ex2⟩ : ∃ z : Int, q_R z ∧ xs 2 = q_i z := ⟨_, q_rng _, (q_of _).symm⟩
  have lx2 := rx2.1
  have ux2 := rx2.2
  obtain ⟨x3, rx3, ex3⟩ : ∃ z : Int, q_R z ∧ xs 3 = q_i z := ⟨_, q_rng _, (q_of _).symm⟩
  have lx3 := rx3.1
  have ux3 := rx3.2
  obtain ⟨x4, rx4, ex4⟩ : ∃ z : Int, q_R z ∧ xs 4 = q_i z := ⟨_, q_rng _, (q_of _).symm⟩
  have lx4 := rx4.1
  have ux4 := rx4.2
  obtain ⟨x5, rx5, ex5⟩ : ∃ z : Int, q_R z ∧ xs 5 = q_i z := ⟨_, q_rng _, (q_of _).symm⟩
  have lx5 := rx5.1
  have ux5 := rx5.2
  refine q_ald_n cx dL_law_1302 rfl (lv_at hl 2 rfl) ?_
  refine q_cVi (As := []) (rest := []) cx hB (fun q h => hLA q h) hN hx kx (by decide) rfl (x_widest l g hN hB.2.1 x hx kx src hsrc ksrc rdr hrdr krdr scr hscr kscr fc hfc kfc hist hhist khist rep hrep krep now hnow know dr hdr kdr sv hsv ksv tr htr ktr hf0 hf1 hf2 hf3 hf4 hf5 hf6 hf7 hf8 hf9 hf10 hf11 hf12 hf13 hr0 hr1 hr2 hr3 hr4 hr5 hr6 hr7 hr8 hr9) q_cL_194 q_dX11_widest (by decide) rfl rfl hl.1 rfl (Nat.le_of_ble_eq_true rfl) dL_law_1303 (fun y2 H locs f1 ry2 h3 hF hB => ?_)
  obtain ⟨rfl, qy2⟩ := h3
  subst qy2
  refine q_ald_n cx dL_law_1306 rfl (lv_at hl 3 rfl) ?_
  refine q_cVi (As := []) (rest := [.int (q_i 0)]) cx hB (fun q h => hLA q h) hN hmo kmo (by decide) rfl (p_widest l g hN hB.2.1 mo hmo kmo bu hbu kbu sr hsr ksr sd hsd ksd as has kas aw haw kaw pa hpa kpa nm hnm knm snm hsnm ksnm anm hanm kanm hf14 hf15 hf16 hf17 hf18 hf19 hf20 hf21 hf22 hf23 hf24 hf25 hf26 hf27 hf28 hf29 hf30 hf31 hr10 hr11 hr12 hr13 hr14 hr15 hr16 hr17 hr18) q_cL_197 q_dX12_widest (by decide) rfl rfl hl.1 rfl (Nat.le_of_ble_eq_true rfl) dL_law_1307 (fun y5 H locs f4 ry5 h6 hF hB => ?_)
  obtain ⟨qy5, z7⟩ := h6
  have z8 : q_z f4 x 9 = 0 := (hF.z hx (by rw [kx]; rfl)).trans hf0
  have z9 : q_z f4 src 1 = 0 := (hF.z hsrc (by rw [ksrc]; rfl)).trans hf1
  have z10 : q_z f4 src 2 = 0 := (hF.z hsrc (by rw [ksrc]; rfl)).trans hf2
  have z11 : q_z f4 src 3 = (-1) := (hF.z hsrc (by rw [ksrc]; rfl)).trans hf3
  have z12 : q_z f4 hist 1 = 0 := (hF.z hhist (by rw [khist]; rfl)).trans hf4
  have z13 : q_z f4 hist 2 = 0 := (hF.z hhist (by rw [khist]; rfl)).trans hf5
  have z14 : q_z f4 rep 1 = 0 := (hF.z hrep (by rw [krep]; rfl)).trans hf6
  have z15 : q_z f4 now 3 = 0 := (hF.z hnow (by rw [know]; rfl)).trans hf7
  have z16 : q_z f4 now 4 = 0 := (hF.z hnow (by rw [know]; rfl)).trans hf8
  have z17 : q_z f4 now 5 = 0 := (hF.z hnow (by rw [know]; rfl)).trans hf9
  have z18 : q_z f4 now 6 = 12 := (hF.z hnow (by rw [know]; rfl)).trans hf10
  have z19 : q_z f4 now 10 = 3 := (hF.z hnow (by rw [know]; rfl)).trans hf11
  have z20 : q_z f4 now 11 = 0 := (hF.z hnow (by rw [know]; rfl)).trans hf12
  have z21 : q_z f4 now 12 = 0 := (hF.z hnow (by rw [know]; rfl)).trans hf13
  have z22 : q_r f4 x 0 = src := (hF.r hx (by rw [kx]; rfl)).trans hr0
  have z23 : q_r f4 x 1 = rdr := (hF.r hx (by rw [kx]; rfl)).trans hr1
  have z24 : q_r f4 x 2 = scr := (hF.r hx (by rw [kx]; rfl)).trans hr2
  have z25 : q_r f4 x 3 = fc := (hF.r hx (by rw [kx]; rfl)).trans hr3
  have z26 : q_r f4 x 4 = hist := (hF.r hx (by rw [kx]; rfl)).trans hr4
  have z27 : q_r f4 x 5 = rep := (hF.r hx (by rw [kx]; rfl)).trans hr5
  have z28 : q_r f4 x 6 = now := (hF.r hx (by rw [kx]; rfl)).trans hr6
  have z29 : q_r f4 x 7 = dr := (hF.r hx (by rw [kx]; rfl)).trans hr7
  have z30 : q_r f4 x 8 = sv := (hF.r hx (by rw [kx]; rfl)).trans hr8
  have z31 : q_r f4 fc 0 = tr := (hF.r hfc (by rw [kfc]; rfl)).trans hr9
  subst qy5
  refine q_iceq (tgt := 2394) cx ⟨by decide, by decide⟩ ⟨by decide, by decide⟩ dL_law_1310 (by decide) (fun c32 => ?_) (fun c32 => ?_)
  · refine q_iinc (lv' := [(5, .int (q_i (0 + 6))), (0, .ref b), (1, .ref x), (2, .ref mo), (3, .ref out), (4, .ref outD)]) cx dL_law_2394 hl (k := 0) rfl (by decide) rfl (fun ls hl => ?_)
    refine lv_goto (tgt := 28) cx.1 cx.2.1 dL_law_2397 (by decide) ?_
    refine lv_iload cx.1 cx.2.1 dL_law_28 (lv_at hl 0 rfl) ?_
    refine q_ald_n cx dL_law_30 rfl (lv_at hl 1 rfl) ?_
    refine va_slen cx.1 cx.2.1 hXs hbl hbA hB.1.2.2.2 dL_law_31 ?_
    rw [show Int32.ofNat 6 = q_i 6 from by decide]
    refine q_bipush cx dL_law_32 rfl ?_
    refine q_isub cx dL_law_34 ?_
    refine q_icgt (tgt := 2400) cx ⟨by decide, by decide⟩ ⟨by decide, by decide⟩ dL_law_35 (by decide) (fun c33 => ?_) (fun c33 => ?_)
    · refine q_iconst cx dL_law_2400 ?_
      exact q_lawret C0 hB (by decide) (by decide) dL_law_2401
    · exact absurd c33 (by omega)
  · exact absurd c32 (by omega)
set_option maxHeartbeats 4000000 in
set_option maxRecDepth 100000 in
theorem law_c1315 {p : Program} {l : Launch} {e : Env} {s : State} {m : MethodId} {below : List Frame} {meth : Method} {c : Code} {b : Nat} {xs : Nat → Int32} (hfl : l.stackTraces = false) (C0 : lw_At p s m meth c b 6 xs) (cx : CallFix p m c cL_law 10 s #[Value.ref b] q_al RL) {g : q_G} {K : Nat → Nat} {L : List Nat} {f : Nat → va_E} {H : Heap} {locs : List Loc} {ls : Array Slot} (hN : L.Nodup) (hLA : ∀ q, q ∈ L → s.heap.size ≤ q) (hX : q_X (fun q => q ∈ L) s) (hB : q_B g K L (fun q => s.heap.size ≤ q) [(2, 1, 2), (6, 1, 1), (7, 1, 4), (8, 1, 9), (9, 0, 2), (10, 3, 15), (11, 9, 9), (12, 0, 40), (13, 3, 15), (14, 3, 15), (15, 3, 15), (16, 3, 15), (142, 0, 599), (150, 0, 599), (151, 0, 657), (152, 0, 657), (153, 0, 657), (154, 0, 657), (155, 0, 3947), (156, 0, 9), (157, 0, 9), (158, 0, 9), (168, 0, 0), (169, 0, 0)] f f s H locs) {x : Nat} (hx : x ∈ L) (kx : K x = 11) {src : Nat} (hsrc : src ∈ L) (ksrc : K src = 8) {rdr : Nat} (hrdr : rdr ∈ L) (krdr : K rdr = 9) {scr : Nat} (hscr : scr ∈ L) (kscr : K scr = 7) {fc : Nat} (hfc : fc ∈ L) (kfc : K fc = 1) {hist : Nat} (hhist : hist ∈ L) (khist : K hist = 2) {rep : Nat} (hrep : rep ∈ L) (krep : K rep = 6) {now : Nat} (hnow : now ∈ L) (know : K now = 10) {dr : Nat} (hdr : dr ∈ L) (kdr : K dr = 13) {sv : Nat} (hsv : sv ∈ L) (ksv : K sv = 14) {tr : Nat} (htr : tr ∈ L) (ktr : K tr = 15) {mo : Nat} (hmo : mo ∈ L) (kmo : K mo = 12) {bu : Nat} (hbu : bu ∈ L) (kbu : K bu = 150) {sr : Nat} (hsr : sr ∈ L) (ksr : K sr = 151) {sd : Nat} (hsd : sd ∈ L) (ksd : K sd = 152) {as : Nat} (has : as ∈ L) (kas : K as = 153) {aw : Nat} (haw : aw ∈ L) (kaw : K aw = 154) {pa : Nat} (hpa : pa ∈ L) (kpa : K pa = 155) {nm : Nat} (hnm : nm ∈ L) (knm : K nm = 156) {snm : Nat} (hsnm : snm ∈ L) (ksnm : K snm = 157) {anm : Nat} (hanm : anm ∈ L) (kanm : K anm = 158) {out : Nat} (hout : out ∈ L) (kout : K out = 168) {outD : Nat} (houtD : outD ∈ L) (koutD : K outD = 169) (hf0 : q_z f x 9 = 0) (hf1 : q_z f src 1 = 0) (hf2 : q_z f src 2 = 0) (hf3 : q_z f src 3 = (-1)) (hf4 : q_z f hist 1 = 0) (hf5 : q_z f hist 2 = 0) (hf6 : q_z f rep 1 = 0) (hf7 : q_z f now 3 = 0) (hf8 : q_z f now 4 = 0) (hf9 : q_z f now 5 = 0) (hf10 : q_z f now 6 = 12) (hf11 : q_z f now 10 = 3) (hf12 : q_z f now 11 = 0) (hf13 : q_z f now 12 = 0) (hf14 : q_z f mo 2 = 0) (hf15 : q_z f mo 8 = 0) (hf16 : q_z f mo 9 = (-1)) (hf17 : q_z f mo 10 = 0) (hf18 : q_z f mo 11 = (-1)) (hf19 : q_z f mo 21 = 0) (hf20 : q_z f mo 22 = 0) (hf21 : q_z f mo 40 = 0) (hf22 : q_z f sr 0 = 0) (hf23 : q_z f sr 1 = 0) (hf24 : q_z f sr 2 = 12) (hf25 : q_z f sr 3 = 0) (hf26 : q_z f sr 4 = 0) (hf27 : q_z f sr 5 = 1) (hf28 : q_z f sr 6 = 2) (hf29 : q_z f sr 7 = 5) (hf30 : q_z f sr 8 = 3) (hf31 : q_z f sr 9 = 0) (hr0 : q_r f x 0 = src) (hr1 : q_r f x 1 = rdr) (hr2 : q_r f x 2 = scr) (hr3 : q_r f x 3 = fc) (hr4 : q_r f x 4 = hist) (hr5 : q_r f x 5 = rep) (hr6 : q_r f x 6 = now) (hr7 : q_r f x 7 = dr) (hr8 : q_r f x 8 = sv) (hr9 : q_r f fc 0 = tr) (hr10 : q_r f mo 1 = bu) (hr11 : q_r f mo 13 = sr) (hr12 : q_r f mo 14 = sd) (hr13 : q_r f mo 15 = as) (hr14 : q_r f mo 16 = aw) (hr15 : q_r f mo 17 = pa) (hr16 : q_r f mo 18 = nm) (hr17 : q_r f mo 19 = snm) (hr18 : q_r f mo 20 = anm) (hl : lv_has ls 10 [(5, .int (q_i 0)), (0, .ref b), (1, .ref x), (2, .ref mo), (3, .ref out), (4, .ref outD)]) : W p l e room_1 s m #[Value.ref b] below meth c H locs 1100 20000 (lw_Z below #[Value.ref b] s) (F0 m 1315 ls []) := by
  have hXs := C0.2.2.2.2.2.2.1
  have hbl := C0.2.2.2.2.2.2.2.1
  have hbA := q_bA hbl
  obtain ⟨x0, rx0, ex0⟩ : ∃ z : Int, q_R z ∧ xs 0 = q_i z := ⟨_, q_rng _, (q_of _).symm⟩
  have lx0 := rx0.1
  have ux0 := rx0.2
  obtain ⟨x1, rx1, ex1⟩ : ∃ z : Int, q_R z ∧ xs 1 = q_i z := ⟨_, q_rng _, (q_of _).symm⟩
  have lx1 := rx1.1
  have ux1 := rx1.2
  obtain ⟨x2, rx2, ex2⟩ : ∃ z : Int, q_R z ∧ xs 2 = q_i z := ⟨_, q_rng _, (q_of _).symm⟩
  have lx2 := rx2.1
  have ux2 := rx2.2
  obtain ⟨x3, rx3, ex3⟩ : ∃ z : Int, q_R z ∧ xs 3 = q_i z := ⟨_, q_rng _, (q_of _).symm⟩
  have lx3 := rx3.1
  have ux3 := rx3.2
  obtain ⟨x4, rx4, ex4⟩ : ∃ z : Int, q_R z ∧ xs 4 = q_i z := ⟨_, q_rng _, (q_of _).symm⟩
  have lx4 := rx4.1
  have ux4 := rx4.2
  obtain ⟨x5, rx5, ex5⟩ : ∃ z : Int, q_R z ∧ xs 5 = q_i z := ⟨_, q_rng _, (q_of _).symm⟩
  have lx5 := rx5.1
  have ux5 := rx5.2
  refine q_ald_n cx dL_law_1315 rfl (lv_at hl 2 rfl) ?_
  refine q_ald_n cx dL_law_1316 rfl (lv_at hl 1 rfl) ?_
  refine lv_iload cx.1 cx.2.1 dL_law_1317 (lv_at hl 0 rfl) ?_
  refine q_iconst cx dL_law_1319 ?_
  refine q_iadd cx dL_law_1320 ?_
  refine va_sld cx.1 cx.2.1 hXs hbl hbA hB.1.2.2.2 (q_in (by decide) (by decide) (by decide)) dL_law_1321 ?_
  rw [show (q_i (0 + 1)).toNatClampNeg = 1 from by decide, ex1]
  refine q_ald_n cx dL_law_1322 rfl (lv_at hl 4 rfl) ?_
  refine q_cWS (As := [.ref x, .int (q_i x1), .ref out]) (rest := []) cx hX hB (fun q h => hLA q h) (fun q h1 h2 => absurd h1 (Nat.not_le_of_lt h2)) hN (w_arrives l g hN hB.2.1 hfl x hx kx x1 (by omega) (by omega) out hout kout src hsrc ksrc rdr hrdr krdr scr hscr kscr fc hfc kfc hist hhist khist rep hrep krep now hnow know dr hdr kdr sv hsv ksv tr htr ktr hf0 hf1 hf2 hf3 hf4 hf5 hf6 hf7 hf8 hf9 hf10 hf11 hf12 hf13 hr0 hr1 hr2 hr3 hr4 hr5 hr6 hr7 hr8 hr9) q_cL_198 q_dL_arrives (by decide) rfl rfl hl.1 rfl (Nat.le_of_ble_eq_true rfl) dL_law_1323 (fun v9 H locs f1 h3 hF hB => ?_)
  obtain ⟨y2, rfl, ry2, h3⟩ := h3
  refine W.eq (g2 := F0 m 1326 ls [.int (q_i y2)]) rfl ?_
  have qy2 := h3
  have z4 : q_z f1 x 9 = 0 := (hF.z hx (by rw [kx]; rfl)).trans hf0
  have z5 : q_z f1 src 1 = 0 := (hF.z hsrc (by rw [ksrc]; rfl)).trans hf1
  have z6 : q_z f1 src 2 = 0 := (hF.z hsrc (by rw [ksrc]; rfl)).trans hf2
  have z7 : q_z f1 src 3 = (-1) := (hF.z hsrc (by rw [ksrc]; rfl)).trans hf3
  have z8 : q_z f1 hist 1 = 0 := (hF.z hhist (by rw [khist]; rfl)).trans hf4
  have z9 : q_z f1 hist 2 = 0 := (hF.z hhist (by rw [khist]; rfl)).trans hf5
  have z10 : q_z f1 rep 1 = 0 := (hF.z hrep (by rw [krep]; rfl)).trans hf6
  have z11 : q_z f1 now 3 = 0 := (hF.z hnow (by rw [know]; rfl)).trans hf7
  have z12 : q_z f1 now 4 = 0 := (hF.z hnow (by rw [know]; rfl)).trans hf8
  have z13 : q_z f1 now 5 = 0 := (hF.z hnow (by rw [know]; rfl)).trans hf9
  have z14 : q_z f1 now 6 = 12 := (hF.z hnow (by rw [know]; rfl)).trans hf10
  have z15 : q_z f1 now 10 = 3 := (hF.z hnow (by rw [know]; rfl)).trans hf11
  have z16 : q_z f1 now 11 = 0 := (hF.z hnow (by rw [know]; rfl)).trans hf12
  have z17 : q_z f1 now 12 = 0 := (hF.z hnow (by rw [know]; rfl)).trans hf13
  have z18 : q_z f1 mo 2 = 0 := (hF.z hmo (by rw [kmo]; rfl)).trans hf14
  have z19 : q_z f1 mo 8 = 0 := (hF.z hmo (by rw [kmo]; rfl)).trans hf15
  have z20 : q_z f1 mo 9 = (-1) := (hF.z hmo (by rw [kmo]; rfl)).trans hf16
  have z21 : q_z f1 mo 10 = 0 := (hF.z hmo (by rw [kmo]; rfl)).trans hf17
  have z22 : q_z f1 mo 11 = (-1) := (hF.z hmo (by rw [kmo]; rfl)).trans hf18
  have z23 : q_z f1 mo 21 = 0 := (hF.z hmo (by rw [kmo]; rfl)).trans hf19
  have z24 : q_z f1 mo 22 = 0 := (hF.z hmo (by rw [kmo]; rfl)).trans hf20
  have z25 : q_z f1 mo 40 = 0 := (hF.z hmo (by rw [kmo]; rfl)).trans hf21
  have z26 : q_z f1 sr 0 = 0 := (hF.z hsr (by rw [ksr]; rfl)).trans hf22
  have z27 : q_z f1 sr 1 = 0 := (hF.z hsr (by rw [ksr]; rfl)).trans hf23
  have z28 : q_z f1 sr 2 = 12 := (hF.z hsr (by rw [ksr]; rfl)).trans hf24
  have z29 : q_z f1 sr 3 = 0 := (hF.z hsr (by rw [ksr]; rfl)).trans hf25
  have z30 : q_z f1 sr 4 = 0 := (hF.z hsr (by rw [ksr]; rfl)).trans hf26
  have z31 : q_z f1 sr 5 = 1 := (hF.z hsr (by rw [ksr]; rfl)).trans hf27
  have z32 : q_z f1 sr 6 = 2 := (hF.z hsr (by rw [ksr]; rfl)).trans hf28
  have z33 : q_z f1 sr 7 = 5 := (hF.z hsr (by rw [ksr]; rfl)).trans hf29
  have z34 : q_z f1 sr 8 = 3 := (hF.z hsr (by rw [ksr]; rfl)).trans hf30
  have z35 : q_z f1 sr 9 = 0 := (hF.z hsr (by rw [ksr]; rfl)).trans hf31
  have z36 : q_r f1 x 0 = src := (hF.r hx (by rw [kx]; rfl)).trans hr0
  have z37 : q_r f1 x 1 = rdr := (hF.r hx (by rw [kx]; rfl)).trans hr1
  have z38 : q_r f1 x 2 = scr := (hF.r hx (by rw [kx]; rfl)).trans hr2
  have z39 : q_r f1 x 3 = fc := (hF.r hx (by rw [kx]; rfl)).trans hr3
  have z40 : q_r f1 x 4 = hist := (hF.r hx (by rw [kx]; rfl)).trans hr4
  have z41 : q_r f1 x 5 = rep := (hF.r hx (by rw [kx]; rfl)).trans hr5
  have z42 : q_r f1 x 6 = now := (hF.r hx (by rw [kx]; rfl)).trans hr6
  have z43 : q_r f1 x 7 = dr := (hF.r hx (by rw [kx]; rfl)).trans hr7
  have z44 : q_r f1 x 8 = sv := (hF.r hx (by rw [kx]; rfl)).trans hr8
  have z45 : q_r f1 fc 0 = tr := (hF.r hfc (by rw [kfc]; rfl)).trans hr9
  have z46 : q_r f1 mo 1 = bu := (hF.r hmo (by rw [kmo]; rfl)).trans hr10
  have z47 : q_r f1 mo 13 = sr := (hF.r hmo (by rw [kmo]; rfl)).trans hr11
  have z48 : q_r f1 mo 14 = sd := (hF.r hmo (by rw [kmo]; rfl)).trans hr12
  have z49 : q_r f1 mo 15 = as := (hF.r hmo (by rw [kmo]; rfl)).trans hr13
  have z50 : q_r f1 mo 16 = aw := (hF.r hmo (by rw [kmo]; rfl)).trans hr14
  have z51 : q_r f1 mo 17 = pa := (hF.r hmo (by rw [kmo]; rfl)).trans hr15
  have z52 : q_r f1 mo 18 = nm := (hF.r hmo (by rw [kmo]; rfl)).trans hr16
  have z53 : q_r f1 mo 19 = snm := (hF.r hmo (by rw [kmo]; rfl)).trans hr17
  have z54 : q_r f1 mo 20 = anm := (hF.r hmo (by rw [kmo]; rfl)).trans hr18
  subst qy2
  refine lv_istore (lv' := [(6, .int (q_i 1)), (5, .int (q_i 0)), (0, .ref b), (1, .ref x), (2, .ref mo), (3, .ref out), (4, .ref outD)]) cx.1 cx.2.1 dL_law_1326 hl (by decide) rfl (fun ls hl => ?_)
  refine q_ald_n cx dL_law_1328 rfl (lv_at hl 4 rfl) ?_
  refine q_ald_n cx dL_law_1329 rfl (lv_at hl 2 rfl) ?_
  refine lv_iload cx.1 cx.2.1 dL_law_1330 (lv_at hl 1 rfl) ?_
  refine q_iconst cx dL_law_1332 ?_
  refine q_iadd cx dL_law_1333 ?_
  refine va_sld cx.1 cx.2.1 hXs hbl hbA hB.1.2.2.2 (q_in (by decide) (by decide) (by decide)) dL_law_1334 ?_
  rw [show (q_i (0 + 1)).toNatClampNeg = 1 from by decide, ex1]
  refine q_cVi (As := [.int (q_i x1)]) (rest := []) cx hB (fun q h => hLA q h) hN hmo kmo (by decide) rfl (p_arrives l g hN hB.2.1 mo hmo kmo x1 (by omega) (by omega) bu hbu kbu sr hsr ksr sd hsd ksd as has kas aw haw kaw pa hpa kpa nm hnm knm snm hsnm ksnm anm hanm kanm z18 z19 z20 z21 z22 z23 z24 z25 z26 z27 z28 z29 z30 z31 z32 z33 z34 z35 z46 z47 z48 z49 z50 z51 z52 z53 z54) q_cL_200 q_dX12_arrives (by decide) rfl rfl hl.1 rfl (Nat.le_of_ble_eq_true rfl) dL_law_1335 (fun y56 H locs f55 ry56 h57 hF hB => ?_)
  obtain ⟨qy56, z58⟩ := h57
  have z59 : q_z f55 x 9 = 0 := (hF.z hx (by rw [kx]; rfl)).trans z4
  have z60 : q_z f55 src 1 = 0 := (hF.z hsrc (by rw [ksrc]; rfl)).trans z5
  have z61 : q_z f55 src 2 = 0 := (hF.z hsrc (by rw [ksrc]; rfl)).trans z6
  have z62 : q_z f55 src 3 = (-1) := (hF.z hsrc (by rw [ksrc]; rfl)).trans z7
  have z63 : q_z f55 hist 1 = 0 := (hF.z hhist (by rw [khist]; rfl)).trans z8
  have z64 : q_z f55 hist 2 = 0 := (hF.z hhist (by rw [khist]; rfl)).trans z9
  have z65 : q_z f55 rep 1 = 0 := (hF.z hrep (by rw [krep]; rfl)).trans z10
  have z66 : q_z f55 now 3 = 0 := (hF.z hnow (by rw [know]; rfl)).trans z11
  have z67 : q_z f55 now 4 = 0 := (hF.z hnow (by rw [know]; rfl)).trans z12
  have z68 : q_z f55 now 5 = 0 := (hF.z hnow (by rw [know]; rfl)).trans z13
  have z69 : q_z f55 now 6 = 12 := (hF.z hnow (by rw [know]; rfl)).trans z14
  have z70 : q_z f55 now 10 = 3 := (hF.z hnow (by rw [know]; rfl)).trans z15
  have z71 : q_z f55 now 11 = 0 := (hF.z hnow (by rw [know]; rfl)).trans z16
  have z72 : q_z f55 now 12 = 0 := (hF.z hnow (by rw [know]; rfl)).trans z17
  have z73 : q_r f55 x 0 = src := (hF.r hx (by rw [kx]; rfl)).trans z36
  have z74 : q_r f55 x 1 = rdr := (hF.r hx (by rw [kx]; rfl)).trans z37
  have z75 : q_r f55 x 2 = scr := (hF.r hx (by rw [kx]; rfl)).trans z38
  have z76 : q_r f55 x 3 = fc := (hF.r hx (by rw [kx]; rfl)).trans z39
  have z77 : q_r f55 x 4 = hist := (hF.r hx (by rw [kx]; rfl)).trans z40
  have z78 : q_r f55 x 5 = rep := (hF.r hx (by rw [kx]; rfl)).trans z41
  have z79 : q_r f55 x 6 = now := (hF.r hx (by rw [kx]; rfl)).trans z42
  have z80 : q_r f55 x 7 = dr := (hF.r hx (by rw [kx]; rfl)).trans z43
  have z81 : q_r f55 x 8 = sv := (hF.r hx (by rw [kx]; rfl)).trans z44
  have z82 : q_r f55 fc 0 = tr := (hF.r hfc (by rw [kfc]; rfl)).trans z45
  subst qy56
  refine lv_istore (lv' := [(7, .int (q_i 0)), (6, .int (q_i 1)), (5, .int (q_i 0)), (0, .ref b), (1, .ref x), (2, .ref mo), (3, .ref out), (4, .ref outD)]) cx.1 cx.2.1 dL_law_1338 hl (by decide) rfl (fun ls hl => ?_)
  refine q_ald_n cx dL_law_1340 rfl (lv_at hl 5 rfl) ?_
  refine q_cVi (As := []) (rest := []) cx hB (fun q h => hLA q h) hN hmo kmo (by decide) rfl (r_thrown l g hN hB.2.1 mo hmo kmo 1 (by decide) (by decide) z58) q_cL_124 q_dX12_thrown (by decide) rfl rfl hl.1 rfl (Nat.le_of_ble_eq_true rfl) dL_law_1341 (fun y84 H locs f83 ry84 h85 hF hB => ?_)
  obtain ⟨rfl, qy84⟩ := h85
  subst qy84
  refine lv_iload cx.1 cx.2.1 dL_law_1344 (lv_at hl 1 rfl) ?_
  refine q_iceq (tgt := 1351) cx ⟨by decide, by decide⟩ ⟨by decide, by decide⟩ dL_law_1346 (by decide) (fun c86 => ?_) (fun c86 => ?_)
  · refine lv_iload cx.1 cx.2.1 dL_law_1351 (lv_at hl 1 rfl) ?_
    refine q_ifne (tgt := 1368) cx ⟨by decide, by decide⟩ dL_law_1353 (by decide) (fun c87 => ?_) (fun c87 => ?_)
    · refine lv_goto (tgt := 2394) cx.1 cx.2.1 dL_law_1368 (by decide) ?_
      refine q_iinc (lv' := [(5, .int (q_i (0 + 6))), (7, .int (q_i 0)), (6, .int (q_i 1)), (0, .ref b), (1, .ref x), (2, .ref mo), (3, .ref out), (4, .ref outD)]) cx dL_law_2394 hl (k := 2) rfl (by decide) rfl (fun ls hl => ?_)
      refine lv_goto (tgt := 28) cx.1 cx.2.1 dL_law_2397 (by decide) ?_
      refine lv_iload cx.1 cx.2.1 dL_law_28 (lv_at hl 0 rfl) ?_
      refine q_ald_n cx dL_law_30 rfl (lv_at hl 3 rfl) ?_
      refine va_slen cx.1 cx.2.1 hXs hbl hbA hB.1.2.2.2 dL_law_31 ?_
      rw [show Int32.ofNat 6 = q_i 6 from by decide]
      refine q_bipush cx dL_law_32 rfl ?_
      refine q_isub cx dL_law_34 ?_
      refine q_icgt (tgt := 2400) cx ⟨by decide, by decide⟩ ⟨by decide, by decide⟩ dL_law_35 (by decide) (fun c88 => ?_) (fun c88 => ?_)
      · refine q_iconst cx dL_law_2400 ?_
        exact q_lawret C0 hB (by decide) (by decide) dL_law_2401
      · exact absurd c88 (by omega)
    · exact absurd c87 (by omega)
  · exact absurd c86 (by omega)
set_option maxHeartbeats 4000000 in
set_option maxRecDepth 100000 in
theorem law_c1371 {p : Program} {l : Launch} {e : Env} {s : State} {m : MethodId} {below : List Frame} {meth : Method} {c : Code} {b : Nat} {xs : Nat → Int32} (hfl : l.stackTraces = false) (C0 : lw_At p s m meth c b 6 xs) (cx : CallFix p m c cL_law 10 s #[Value.ref b] q_al RL) {g : q_G} {K : Nat → Nat} {L : List Nat} {f : Nat → va_E} {H : Heap} {locs : List Loc} {ls : Array Slot} (hN : L.Nodup) (hLA : ∀ q, q ∈ L → s.heap.size ≤ q) (hX : q_X (fun q => q ∈ L) s) (hB : q_B g K L (fun q => s.heap.size ≤ q) [(2, 1, 2), (6, 1, 1), (7, 1, 4), (8, 1, 9), (9, 0, 2), (10, 3, 15), (11, 9, 9), (12, 0, 40), (13, 3, 15), (14, 3, 15), (15, 3, 15), (16, 3, 15), (142, 0, 599), (150, 0, 599), (151, 0, 657), (152, 0, 657), (153, 0, 657), (154, 0, 657), (155, 0, 3947), (156, 0, 9), (157, 0, 9), (158, 0, 9), (168, 0, 0), (169, 0, 0)] f f s H locs) {x : Nat} (hx : x ∈ L) (kx : K x = 11) {src : Nat} (hsrc : src ∈ L) (ksrc : K src = 8) {rdr : Nat} (hrdr : rdr ∈ L) (krdr : K rdr = 9) {scr : Nat} (hscr : scr ∈ L) (kscr : K scr = 7) {fc : Nat} (hfc : fc ∈ L) (kfc : K fc = 1) {hist : Nat} (hhist : hist ∈ L) (khist : K hist = 2) {rep : Nat} (hrep : rep ∈ L) (krep : K rep = 6) {now : Nat} (hnow : now ∈ L) (know : K now = 10) {dr : Nat} (hdr : dr ∈ L) (kdr : K dr = 13) {sv : Nat} (hsv : sv ∈ L) (ksv : K sv = 14) {tr : Nat} (htr : tr ∈ L) (ktr : K tr = 15) {mo : Nat} (hmo : mo ∈ L) (kmo : K mo = 12) {bu : Nat} (hbu : bu ∈ L) (kbu : K bu = 150) {sr : Nat} (hsr : sr ∈ L) (ksr : K sr = 151) {sd : Nat} (hsd : sd ∈ L) (ksd : K sd = 152) {as : Nat} (has : as ∈ L) (kas : K as = 153) {aw : Nat} (haw : aw ∈ L) (kaw : K aw = 154) {pa : Nat} (hpa : pa ∈ L) (kpa : K pa = 155) {nm : Nat} (hnm : nm ∈ L) (knm : K nm = 156) {snm : Nat} (hsnm : snm ∈ L) (ksnm : K snm = 157) {anm : Nat} (hanm : anm ∈ L) (kanm : K anm = 158) {out : Nat} (hout : out ∈ L) (kout : K out = 168) {outD : Nat} (houtD : outD ∈ L) (koutD : K outD = 169) (hf0 : q_z f x 9 = 0) (hf1 : q_z f src 1 = 0) (hf2 : q_z f src 2 = 0) (hf3 : q_z f src 3 = (-1)) (hf4 : q_z f hist 1 = 0) (hf5 : q_z f hist 2 = 0) (hf6 : q_z f rep 1 = 0) (hf7 : q_z f now 3 = 0) (hf8 : q_z f now 4 = 0) (hf9 : q_z f now 5 = 0) (hf10 : q_z f now 6 = 12) (hf11 : q_z f now 10 = 3) (hf12 : q_z f now 11 = 0) (hf13 : q_z f now 12 = 0) (hf14 : q_z f mo 2 = 0) (hf15 : q_z f mo 8 = 0) (hf16 : q_z f mo 9 = (-1)) (hf17 : q_z f mo 10 = 0) (hf18 : q_z f mo 11 = (-1)) (hf19 : q_z f mo 21 = 0) (hf20 : q_z f mo 22 = 0) (hf21 : q_z f mo 40 = 0) (hf22 : q_z f sr 0 = 0) (hf23 : q_z f sr 1 = 0) (hf24 : q_z f sr 2 = 12) (hf25 : q_z f sr 3 = 0) (hf26 : q_z f sr 4 = 0) (hf27 : q_z f sr 5 = 1) (hf28 : q_z f sr 6 = 2) (hf29 : q_z f sr 7 = 5) (hf30 : q_z f sr 8 = 3) (hf31 : q_z f sr 9 = 0) (hr0 : q_r f x 0 = src) (hr1 : q_r f x 1 = rdr) (hr2 : q_r f x 2 = scr) (hr3 : q_r f x 3 = fc) (hr4 : q_r f x 4 = hist) (hr5 : q_r f x 5 = rep) (hr6 : q_r f x 6 = now) (hr7 : q_r f x 7 = dr) (hr8 : q_r f x 8 = sv) (hr9 : q_r f fc 0 = tr) (hr10 : q_r f mo 1 = bu) (hr11 : q_r f mo 13 = sr) (hr12 : q_r f mo 14 = sd) (hr13 : q_r f mo 15 = as) (hr14 : q_r f mo 16 = aw) (hr15 : q_r f mo 17 = pa) (hr16 : q_r f mo 18 = nm) (hr17 : q_r f mo 19 = snm) (hr18 : q_r f mo 20 = anm) (hl : lv_has ls 10 [(5, .int (q_i 0)), (0, .ref b), (1, .ref x), (2, .ref mo), (3, .ref out), (4, .ref outD)]) : W p l e room_1 s m #[Value.ref b] below meth c H locs 1100 20000 (lw_Z below #[Value.ref b] s) (F0 m 1371 ls []) := by
  have hXs := C0.2.2.2.2.2.2.1
  have hbl := C0.2.2.2.2.2.2.2.1
  have hbA := q_bA hbl
  obtain ⟨x0, rx0, ex0⟩ : ∃ z : Int, q_R z ∧ xs 0 = q_i z := ⟨_, q_rng _, (q_of _).symm⟩
  have lx0 := rx0.1
  have ux0 := rx0.2
  obtain ⟨x1, rx1, ex1⟩ : ∃ z : Int, q_R z ∧ xs 1 = q_i z := ⟨_, q_rng _, (q_of _).symm⟩
  have lx1 := rx1.1
  have ux1 := rx1.2
  obtain ⟨x2, rx2, ex2⟩ : ∃ z : Int, q_R z ∧ xs 2 = q_i z := ⟨_, q_rng _, (q_of _).symm⟩
  have lx2 := rx2.1
  have ux2 := rx2.2
  obtain ⟨x3, rx3, ex3⟩ : ∃ z : Int, q_R z ∧ xs 3 = q_i z := ⟨_, q_rng _, (q_of _).symm⟩
  have lx3 := rx3.1
  have ux3 := rx3.2
  obtain ⟨x4, rx4, ex4⟩ : ∃ z : Int, q_R z ∧ xs 4 = q_i z := ⟨_, q_rng _, (q_of _).symm⟩
  have lx4 := rx4.1
  have ux4 := rx4.2
  obtain ⟨x5, rx5, ex5⟩ : ∃ z : Int, q_R z ∧ xs 5 = q_i z := ⟨_, q_rng _, (q_of _).symm⟩
  have lx5 := rx5.1
  have ux5 := rx5.2
  refine q_ald_n cx dL_law_1371 rfl (lv_at hl 2 rfl) ?_
  refine q_ald_n cx dL_law_1372 rfl (lv_at hl 1 rfl) ?_
  refine lv_iload cx.1 cx.2.1 dL_law_1373 (lv_at hl 0 rfl) ?_
  refine q_iconst cx dL_law_1375 ?_
  refine q_iadd cx dL_law_1376 ?_
  refine va_sld cx.1 cx.2.1 hXs hbl hbA hB.1.2.2.2 (q_in (by decide) (by decide) (by decide)) dL_law_1377 ?_
  rw [show (q_i (0 + 1)).toNatClampNeg = 1 from by decide, ex1]
  refine q_ald_n cx dL_law_1378 rfl (lv_at hl 1 rfl) ?_
  refine lv_iload cx.1 cx.2.1 dL_law_1379 (lv_at hl 0 rfl) ?_
  refine q_iconst cx dL_law_1381 ?_
  refine q_iadd cx dL_law_1382 ?_
  refine va_sld cx.1 cx.2.1 hXs hbl hbA hB.1.2.2.2 (q_in (by decide) (by decide) (by decide)) dL_law_1383 ?_
  rw [show (q_i (0 + 2)).toNatClampNeg = 2 from by decide, ex2]
  refine q_ald_n cx dL_law_1384 rfl (lv_at hl 1 rfl) ?_
  refine lv_iload cx.1 cx.2.1 dL_law_1385 (lv_at hl 0 rfl) ?_
  refine q_iconst cx dL_law_1387 ?_
  refine q_iadd cx dL_law_1388 ?_
  refine va_sld cx.1 cx.2.1 hXs hbl hbA hB.1.2.2.2 (q_in (by decide) (by decide) (by decide)) dL_law_1389 ?_
  rw [show (q_i (0 + 3)).toNatClampNeg = 3 from by decide, ex3]
  refine q_ifeq (tgt := 1397) cx ⟨by omega, by omega⟩ dL_law_1390 (by decide) (fun c1 => ?_) (fun c1 => ?_)
  · refine q_iconst cx dL_law_1397 ?_
    refine q_ald_n cx dL_law_1398 rfl (lv_at hl 4 rfl) ?_
    refine q_cWS (As := [.ref x, .int (q_i x1), .int (q_i x2), .int (q_i 0), .ref out]) (rest := []) cx hX hB (fun q h => hLA q h) (fun q h1 h2 => absurd h1 (Nat.not_le_of_lt h2)) hN (w_wouldArrive l g hN hB.2.1 hfl x hx kx x1 (by omega) (by omega) x2 (by omega) (by omega) 0 (by decide) (by decide) out hout kout src hsrc ksrc rdr hrdr krdr scr hscr kscr fc hfc kfc hist hhist khist rep hrep krep now hnow know dr hdr kdr sv hsv ksv tr htr ktr hf0 hf1 hf2 hf3 hf4 hf5 hf6 hf7 hf8 hf9 hf10 hf11 hf12 hf13 hr0 hr1 hr2 hr3 hr4 hr5 hr6 hr7 hr8 hr9) q_cL_201 q_dL_wouldArrive (by decide) rfl rfl hl.1 rfl (Nat.le_of_ble_eq_true rfl) dL_law_1399 (fun v9 H locs f2 h4 hF hB => ?_)
    obtain ⟨y3, rfl, ry3, h4⟩ := h4
    refine W.eq (g2 := F0 m 1402 ls [.int (q_i y3)]) rfl ?_
    have qy3 := h4
    have z5 : q_z f2 x 9 = 0 := (hF.z hx (by rw [kx]; rfl)).trans hf0
    have z6 : q_z f2 src 1 = 0 := (hF.z hsrc (by rw [ksrc]; rfl)).trans hf1
    have z7 : q_z f2 src 2 = 0 := (hF.z hsrc (by rw [ksrc]; rfl)).trans hf2
    have z8 : q_z f2 src 3 = (-1) := (hF.z hsrc (by rw [ksrc]; rfl)).trans hf3
    have z9 : q_z f2 hist 1 = 0 := (hF.z hhist (by rw [khist]; rfl)).trans hf4
    have z10 : q_z f2 hist 2 = 0 := (hF.z hhist (by rw [khist]; rfl)).trans hf5
    have z11 : q_z f2 rep 1 = 0 := (hF.z hrep (by rw [krep]; rfl)).trans hf6
    have z12 : q_z f2 now 3 = 0 := (hF.z hnow (by rw [know]; rfl)).trans hf7
    have z13 : q_z f2 now 4 = 0 := (hF.z hnow (by rw [know]; rfl)).trans hf8
    have z14 : q_z f2 now 5 = 0 := (hF.z hnow (by rw [know]; rfl)).trans hf9
    have z15 : q_z f2 now 6 = 12 := (hF.z hnow (by rw [know]; rfl)).trans hf10
    have z16 : q_z f2 now 10 = 3 := (hF.z hnow (by rw [know]; rfl)).trans hf11
    have z17 : q_z f2 now 11 = 0 := (hF.z hnow (by rw [know]; rfl)).trans hf12
    have z18 : q_z f2 now 12 = 0 := (hF.z hnow (by rw [know]; rfl)).trans hf13
    have z19 : q_z f2 mo 2 = 0 := (hF.z hmo (by rw [kmo]; rfl)).trans hf14
    have z20 : q_z f2 mo 8 = 0 := (hF.z hmo (by rw [kmo]; rfl)).trans hf15
    have z21 : q_z f2 mo 9 = (-1) := (hF.z hmo (by rw [kmo]; rfl)).trans hf16
    have z22 : q_z f2 mo 10 = 0 := (hF.z hmo (by rw [kmo]; rfl)).trans hf17
    have z23 : q_z f2 mo 11 = (-1) := (hF.z hmo (by rw [kmo]; rfl)).trans hf18
    have z24 : q_z f2 mo 21 = 0 := (hF.z hmo (by rw [kmo]; rfl)).trans hf19
    have z25 : q_z f2 mo 22 = 0 := (hF.z hmo (by rw [kmo]; rfl)).trans hf20
    have z26 : q_z f2 mo 40 = 0 := (hF.z hmo (by rw [kmo]; rfl)).trans hf21
    have z27 : q_z f2 sr 0 = 0 := (hF.z hsr (by rw [ksr]; rfl)).trans hf22
    have z28 : q_z f2 sr 1 = 0 := (hF.z hsr (by rw [ksr]; rfl)).trans hf23
    have z29 : q_z f2 sr 2 = 12 := (hF.z hsr (by rw [ksr]; rfl)).trans hf24
    have z30 : q_z f2 sr 3 = 0 := (hF.z hsr (by rw [ksr]; rfl)).trans hf25
    have z31 : q_z f2 sr 4 = 0 := (hF.z hsr (by rw [ksr]; rfl)).trans hf26
    have z32 : q_z f2 sr 5 = 1 := (hF.z hsr (by rw [ksr]; rfl)).trans hf27
    have z33 : q_z f2 sr 6 = 2 := (hF.z hsr (by rw [ksr]; rfl)).trans hf28
    have z34 : q_z f2 sr 7 = 5 := (hF.z hsr (by rw [ksr]; rfl)).trans hf29
    have z35 : q_z f2 sr 8 = 3 := (hF.z hsr (by rw [ksr]; rfl)).trans hf30
    have z36 : q_z f2 sr 9 = 0 := (hF.z hsr (by rw [ksr]; rfl)).trans hf31
    have z37 : q_r f2 x 0 = src := (hF.r hx (by rw [kx]; rfl)).trans hr0
    have z38 : q_r f2 x 1 = rdr := (hF.r hx (by rw [kx]; rfl)).trans hr1
    have z39 : q_r f2 x 2 = scr := (hF.r hx (by rw [kx]; rfl)).trans hr2
    have z40 : q_r f2 x 3 = fc := (hF.r hx (by rw [kx]; rfl)).trans hr3
    have z41 : q_r f2 x 4 = hist := (hF.r hx (by rw [kx]; rfl)).trans hr4
    have z42 : q_r f2 x 5 = rep := (hF.r hx (by rw [kx]; rfl)).trans hr5
    have z43 : q_r f2 x 6 = now := (hF.r hx (by rw [kx]; rfl)).trans hr6
    have z44 : q_r f2 x 7 = dr := (hF.r hx (by rw [kx]; rfl)).trans hr7
    have z45 : q_r f2 x 8 = sv := (hF.r hx (by rw [kx]; rfl)).trans hr8
    have z46 : q_r f2 fc 0 = tr := (hF.r hfc (by rw [kfc]; rfl)).trans hr9
    have z47 : q_r f2 mo 1 = bu := (hF.r hmo (by rw [kmo]; rfl)).trans hr10
    have z48 : q_r f2 mo 13 = sr := (hF.r hmo (by rw [kmo]; rfl)).trans hr11
    have z49 : q_r f2 mo 14 = sd := (hF.r hmo (by rw [kmo]; rfl)).trans hr12
    have z50 : q_r f2 mo 15 = as := (hF.r hmo (by rw [kmo]; rfl)).trans hr13
    have z51 : q_r f2 mo 16 = aw := (hF.r hmo (by rw [kmo]; rfl)).trans hr14
    have z52 : q_r f2 mo 17 = pa := (hF.r hmo (by rw [kmo]; rfl)).trans hr15
    have z53 : q_r f2 mo 18 = nm := (hF.r hmo (by rw [kmo]; rfl)).trans hr16
    have z54 : q_r f2 mo 19 = snm := (hF.r hmo (by rw [kmo]; rfl)).trans hr17
    have z55 : q_r f2 mo 20 = anm := (hF.r hmo (by rw [kmo]; rfl)).trans hr18
    subst qy3
    refine lv_istore (lv' := [(6, .int (q_i 1)), (5, .int (q_i 0)), (0, .ref b), (1, .ref x), (2, .ref mo), (3, .ref out), (4, .ref outD)]) cx.1 cx.2.1 dL_law_1402 hl (by decide) rfl (fun ls hl => ?_)
    refine q_ald_n cx dL_law_1404 rfl (lv_at hl 4 rfl) ?_
    refine q_ald_n cx dL_law_1405 rfl (lv_at hl 2 rfl) ?_
    refine lv_iload cx.1 cx.2.1 dL_law_1406 (lv_at hl 1 rfl) ?_
    refine q_iconst cx dL_law_1408 ?_
    refine q_iadd cx dL_law_1409 ?_
    refine va_sld cx.1 cx.2.1 hXs hbl hbA hB.1.2.2.2 (q_in (by decide) (by decide) (by decide)) dL_law_1410 ?_
    rw [show (q_i (0 + 1)).toNatClampNeg = 1 from by decide, ex1]
    refine q_ald_n cx dL_law_1411 rfl (lv_at hl 2 rfl) ?_
    refine lv_iload cx.1 cx.2.1 dL_law_1412 (lv_at hl 1 rfl) ?_
    refine q_iconst cx dL_law_1414 ?_
    refine q_iadd cx dL_law_1415 ?_
    refine va_sld cx.1 cx.2.1 hXs hbl hbA hB.1.2.2.2 (q_in (by decide) (by decide) (by decide)) dL_law_1416 ?_
    rw [show (q_i (0 + 2)).toNatClampNeg = 2 from by decide, ex2]
    refine q_ald_n cx dL_law_1417 rfl (lv_at hl 2 rfl) ?_
    refine lv_iload cx.1 cx.2.1 dL_law_1418 (lv_at hl 1 rfl) ?_
    refine q_iconst cx dL_law_1420 ?_
    refine q_iadd cx dL_law_1421 ?_
    refine va_sld cx.1 cx.2.1 hXs hbl hbA hB.1.2.2.2 (q_in (by decide) (by decide) (by decide)) dL_law_1422 ?_
    rw [show (q_i (0 + 3)).toNatClampNeg = 3 from by decide, ex3]
    refine q_ifeq (tgt := 1430) cx ⟨by omega, by omega⟩ dL_law_1423 (by decide) (fun c56 => ?_) (fun c56 => ?_)
    · refine q_iconst cx dL_law_1430 ?_
      refine q_cVi (As := [.int (q_i x1), .int (q_i x2), .int (q_i 0)]) (rest := []) cx hB (fun q h => hLA q h) hN hmo kmo (by decide) rfl (p_wouldArrive l g hN hB.2.1 mo hmo kmo x1 (by omega) (by omega) x2 (by omega) (by omega) 0 (by decide) (by decide) bu hbu kbu sr hsr ksr sd hsd ksd as has kas aw haw kaw pa hpa kpa nm hnm knm snm hsnm ksnm anm hanm kanm z19 z20 z21 z22 z23 z24 z25 z26 z27 z28 z29 z30 z31 z32 z33 z34 z35 z36 z47 z48 z49 z50 z51 z52 z53 z54 z55) q_cL_204 q_dX12_wouldArrive (by decide) rfl rfl hl.1 rfl (Nat.le_of_ble_eq_true rfl) dL_law_1431 (fun y58 H locs f57 ry58 h59 hF hB => ?_)
      obtain ⟨qy58, z60⟩ := h59
      have z61 : q_z f57 x 9 = 0 := (hF.z hx (by rw [kx]; rfl)).trans z5
      have z62 : q_z f57 src 1 = 0 := (hF.z hsrc (by rw [ksrc]; rfl)).trans z6
      have z63 : q_z f57 src 2 = 0 := (hF.z hsrc (by rw [ksrc]; rfl)).trans z7
      have z64 : q_z f57 src 3 = (-1) := (hF.z hsrc (by rw [ksrc]; rfl)).trans z8
      have z65 : q_z f57 hist 1 = 0 := (hF.z hhist (by rw [khist]; rfl)).trans z9
      have z66 : q_z f57 hist 2 = 0 := (hF.z hhist (by rw [khist]; rfl)).trans z10
      have z67 : q_z f57 rep 1 = 0 := (hF.z hrep (by rw [krep]; rfl)).trans z11
      have z68 : q_z f57 now 3 = 0 := (hF.z hnow (by rw [know]; rfl)).trans z12
      have z69 : q_z f57 now 4 = 0 := (hF.z hnow (by rw [know]; rfl)).trans z13
      have z70 : q_z f57 now 5 = 0 := (hF.z hnow (by rw [know]; rfl)).trans z14
      have z71 : q_z f57 now 6 = 12 := (hF.z hnow (by rw [know]; rfl)).trans z15
      have z72 : q_z f57 now 10 = 3 := (hF.z hnow (by rw [know]; rfl)).trans z16
      have z73 : q_z f57 now 11 = 0 := (hF.z hnow (by rw [know]; rfl)).trans z17
      have z74 : q_z f57 now 12 = 0 := (hF.z hnow (by rw [know]; rfl)).trans z18
      have z75 : q_r f57 x 0 = src := (hF.r hx (by rw [kx]; rfl)).trans z37
      have z76 : q_r f57 x 1 = rdr := (hF.r hx (by rw [kx]; rfl)).trans z38
      have z77 : q_r f57 x 2 = scr := (hF.r hx (by rw [kx]; rfl)).trans z39
      have z78 : q_r f57 x 3 = fc := (hF.r hx (by rw [kx]; rfl)).trans z40
      have z79 : q_r f57 x 4 = hist := (hF.r hx (by rw [kx]; rfl)).trans z41
      have z80 : q_r f57 x 5 = rep := (hF.r hx (by rw [kx]; rfl)).trans z42
      have z81 : q_r f57 x 6 = now := (hF.r hx (by rw [kx]; rfl)).trans z43
      have z82 : q_r f57 x 7 = dr := (hF.r hx (by rw [kx]; rfl)).trans z44
      have z83 : q_r f57 x 8 = sv := (hF.r hx (by rw [kx]; rfl)).trans z45
      have z84 : q_r f57 fc 0 = tr := (hF.r hfc (by rw [kfc]; rfl)).trans z46
      subst qy58
      refine lv_istore (lv' := [(7, .int (q_i 0)), (6, .int (q_i 1)), (5, .int (q_i 0)), (0, .ref b), (1, .ref x), (2, .ref mo), (3, .ref out), (4, .ref outD)]) cx.1 cx.2.1 dL_law_1434 hl (by decide) rfl (fun ls hl => ?_)
      refine q_ald_n cx dL_law_1436 rfl (lv_at hl 5 rfl) ?_
      refine q_cVi (As := []) (rest := []) cx hB (fun q h => hLA q h) hN hmo kmo (by decide) rfl (r_thrown l g hN hB.2.1 mo hmo kmo 1 (by decide) (by decide) z60) q_cL_124 q_dX12_thrown (by decide) rfl rfl hl.1 rfl (Nat.le_of_ble_eq_true rfl) dL_law_1437 (fun y86 H locs f85 ry86 h87 hF hB => ?_)
      obtain ⟨rfl, qy86⟩ := h87
      subst qy86
      refine lv_iload cx.1 cx.2.1 dL_law_1440 (lv_at hl 1 rfl) ?_
      refine q_iceq (tgt := 1447) cx ⟨by decide, by decide⟩ ⟨by decide, by decide⟩ dL_law_1442 (by decide) (fun c88 => ?_) (fun c88 => ?_)
      · refine lv_iload cx.1 cx.2.1 dL_law_1447 (lv_at hl 1 rfl) ?_
        refine q_ifne (tgt := 1464) cx ⟨by decide, by decide⟩ dL_law_1449 (by decide) (fun c89 => ?_) (fun c89 => ?_)
        · refine lv_goto (tgt := 2394) cx.1 cx.2.1 dL_law_1464 (by decide) ?_
          refine q_iinc (lv' := [(5, .int (q_i (0 + 6))), (7, .int (q_i 0)), (6, .int (q_i 1)), (0, .ref b), (1, .ref x), (2, .ref mo), (3, .ref out), (4, .ref outD)]) cx dL_law_2394 hl (k := 2) rfl (by decide) rfl (fun ls hl => ?_)
          refine lv_goto (tgt := 28) cx.1 cx.2.1 dL_law_2397 (by decide) ?_
          refine lv_iload cx.1 cx.2.1 dL_law_28 (lv_at hl 0 rfl) ?_
          refine q_ald_n cx dL_law_30 rfl (lv_at hl 3 rfl) ?_
          refine va_slen cx.1 cx.2.1 hXs hbl hbA hB.1.2.2.2 dL_law_31 ?_
          rw [show Int32.ofNat 6 = q_i 6 from by decide]
          refine q_bipush cx dL_law_32 rfl ?_
          refine q_isub cx dL_law_34 ?_
          refine q_icgt (tgt := 2400) cx ⟨by decide, by decide⟩ ⟨by decide, by decide⟩ dL_law_35 (by decide) (fun c90 => ?_) (fun c90 => ?_)
          · refine q_iconst cx dL_law_2400 ?_
            exact q_lawret C0 hB (by decide) (by decide) dL_law_2401
          · exact absurd c90 (by omega)
        · exact absurd c89 (by omega)
      · exact absurd c88 (by omega)
    · exact absurd c56 (by omega)
  · refine q_iconst cx dL_law_1393 ?_
    refine lv_goto (tgt := 1398) cx.1 cx.2.1 dL_law_1394 (by decide) ?_
    refine q_ald_n cx dL_law_1398 rfl (lv_at hl 4 rfl) ?_
    refine q_cWS (As := [.ref x, .int (q_i x1), .int (q_i x2), .int (q_i 1), .ref out]) (rest := []) cx hX hB (fun q h => hLA q h) (fun q h1 h2 => absurd h1 (Nat.not_le_of_lt h2)) hN (w_wouldArrive l g hN hB.2.1 hfl x hx kx x1 (by omega) (by omega) x2 (by omega) (by omega) 1 (by decide) (by decide) out hout kout src hsrc ksrc rdr hrdr krdr scr hscr kscr fc hfc kfc hist hhist khist rep hrep krep now hnow know dr hdr kdr sv hsv ksv tr htr ktr hf0 hf1 hf2 hf3 hf4 hf5 hf6 hf7 hf8 hf9 hf10 hf11 hf12 hf13 hr0 hr1 hr2 hr3 hr4 hr5 hr6 hr7 hr8 hr9) q_cL_201 q_dL_wouldArrive (by decide) rfl rfl hl.1 rfl (Nat.le_of_ble_eq_true rfl) dL_law_1399 (fun v9 H locs f91 h93 hF hB => ?_)
    obtain ⟨y92, rfl, ry92, h93⟩ := h93
    refine W.eq (g2 := F0 m 1402 ls [.int (q_i y92)]) rfl ?_
    have qy92 := h93
    have z94 : q_z f91 x 9 = 0 := (hF.z hx (by rw [kx]; rfl)).trans hf0
    have z95 : q_z f91 src 1 = 0 := (hF.z hsrc (by rw [ksrc]; rfl)).trans hf1
    have z96 : q_z f91 src 2 = 0 := (hF.z hsrc (by rw [ksrc]; rfl)).trans hf2
    have z97 : q_z f91 src 3 = (-1) := (hF.z hsrc (by rw [ksrc]; rfl)).trans hf3
    have z98 : q_z f91 hist 1 = 0 := (hF.z hhist (by rw [khist]; rfl)).trans hf4
    have z99 : q_z f91 hist 2 = 0 := (hF.z hhist (by rw [khist]; rfl)).trans hf5
    have z100 : q_z f91 rep 1 = 0 := (hF.z hrep (by rw [krep]; rfl)).trans hf6
    have z101 : q_z f91 now 3 = 0 := (hF.z hnow (by rw [know]; rfl)).trans hf7
    have z102 : q_z f91 now 4 = 0 := (hF.z hnow (by rw [know]; rfl)).trans hf8
    have z103 : q_z f91 now 5 = 0 := (hF.z hnow (by rw [know]; rfl)).trans hf9
    have z104 : q_z f91 now 6 = 12 := (hF.z hnow (by rw [know]; rfl)).trans hf10
    have z105 : q_z f91 now 10 = 3 := (hF.z hnow (by rw [know]; rfl)).trans hf11
    have z106 : q_z f91 now 11 = 0 := (hF.z hnow (by rw [know]; rfl)).trans hf12
    have z107 : q_z f91 now 12 = 0 := (hF.z hnow (by rw [know]; rfl)).trans hf13
    have z108 : q_z f91 mo 2 = 0 := (hF.z hmo (by rw [kmo]; rfl)).trans hf14
    have z109 : q_z f91 mo 8 = 0 := (hF.z hmo (by rw [kmo]; rfl)).trans hf15
    have z110 : q_z f91 mo 9 = (-1) := (hF.z hmo (by rw [kmo]; rfl)).trans hf16
    have z111 : q_z f91 mo 10 = 0 := (hF.z hmo (by rw [kmo]; rfl)).trans hf17
    have z112 : q_z f91 mo 11 = (-1) := (hF.z hmo (by rw [kmo]; rfl)).trans hf18
    have z113 : q_z f91 mo 21 = 0 := (hF.z hmo (by rw [kmo]; rfl)).trans hf19
    have z114 : q_z f91 mo 22 = 0 := (hF.z hmo (by rw [kmo]; rfl)).trans hf20
    have z115 : q_z f91 mo 40 = 0 := (hF.z hmo (by rw [kmo]; rfl)).trans hf21
    have z116 : q_z f91 sr 0 = 0 := (hF.z hsr (by rw [ksr]; rfl)).trans hf22
    have z117 : q_z f91 sr 1 = 0 := (hF.z hsr (by rw [ksr]; rfl)).trans hf23
    have z118 : q_z f91 sr 2 = 12 := (hF.z hsr (by rw [ksr]; rfl)).trans hf24
    have z119 : q_z f91 sr 3 = 0 := (hF.z hsr (by rw [ksr]; rfl)).trans hf25
    have z120 : q_z f91 sr 4 = 0 := (hF.z hsr (by rw [ksr]; rfl)).trans hf26
    have z121 : q_z f91 sr 5 = 1 := (hF.z hsr (by rw [ksr]; rfl)).trans hf27
    have z122 : q_z f91 sr 6 = 2 := (hF.z hsr (by rw [ksr]; rfl)).trans hf28
    have z123 : q_z f91 sr 7 = 5 := (hF.z hsr (by rw [ksr]; rfl)).trans hf29
    have z124 : q_z f91 sr 8 = 3 := (hF.z hsr (by rw [ksr]; rfl)).trans hf30
    have z125 : q_z f91 sr 9 = 0 := (hF.z hsr (by rw [ksr]; rfl)).trans hf31
    have z126 : q_r f91 x 0 = src := (hF.r hx (by rw [kx]; rfl)).trans hr0
    have z127 : q_r f91 x 1 = rdr := (hF.r hx (by rw [kx]; rfl)).trans hr1
    have z128 : q_r f91 x 2 = scr := (hF.r hx (by rw [kx]; rfl)).trans hr2
    have z129 : q_r f91 x 3 = fc := (hF.r hx (by rw [kx]; rfl)).trans hr3
    have z130 : q_r f91 x 4 = hist := (hF.r hx (by rw [kx]; rfl)).trans hr4
    have z131 : q_r f91 x 5 = rep := (hF.r hx (by rw [kx]; rfl)).trans hr5
    have z132 : q_r f91 x 6 = now := (hF.r hx (by rw [kx]; rfl)).trans hr6
    have z133 : q_r f91 x 7 = dr := (hF.r hx (by rw [kx]; rfl)).trans hr7
    have z134 : q_r f91 x 8 = sv := (hF.r hx (by rw [kx]; rfl)).trans hr8
    have z135 : q_r f91 fc 0 = tr := (hF.r hfc (by rw [kfc]; rfl)).trans hr9
    have z136 : q_r f91 mo 1 = bu := (hF.r hmo (by rw [kmo]; rfl)).trans hr10
    have z137 : q_r f91 mo 13 = sr := (hF.r hmo (by rw [kmo]; rfl)).trans hr11
    have z138 : q_r f91 mo 14 = sd := (hF.r hmo (by rw [kmo]; rfl)).trans hr12
    have z139 : q_r f91 mo 15 = as := (hF.r hmo (by rw [kmo]; rfl)).trans hr13
    have z140 : q_r f91 mo 16 = aw := (hF.r hmo (by rw [kmo]; rfl)).trans hr14
    have z141 : q_r f91 mo 17 = pa := (hF.r hmo (by rw [kmo]; rfl)).trans hr15
    have z142 : q_r f91 mo 18 = nm := (hF.r hmo (by rw [kmo]; rfl)).trans hr16
    have z143 : q_r f91 mo 19 = snm := (hF.r hmo (by rw [kmo]; rfl)).trans hr17
    have z144 : q_r f91 mo 20 = anm := (hF.r hmo (by rw [kmo]; rfl)).trans hr18
    subst qy92
    refine lv_istore (lv' := [(6, .int (q_i 1)), (5, .int (q_i 0)), (0, .ref b), (1, .ref x), (2, .ref mo), (3, .ref out), (4, .ref outD)]) cx.1 cx.2.1 dL_law_1402 hl (by decide) rfl (fun ls hl => ?_)
    refine q_ald_n cx dL_law_1404 rfl (lv_at hl 4 rfl) ?_
    refine q_ald_n cx dL_law_1405 rfl (lv_at hl 2 rfl) ?_
    refine lv_iload cx.1 cx.2.1 dL_law_1406 (lv_at hl 1 rfl) ?_
    refine q_iconst cx dL_law_1408 ?_
    refine q_iadd cx dL_law_1409 ?_
    refine va_sld cx.1 cx.2.1 hXs hbl hbA hB.1.2.2.2 (q_in (by decide) (by decide) (by decide)) dL_law_1410 ?_
    rw [show (q_i (0 + 1)).toNatClampNeg = 1 from by decide, ex1]
    refine q_ald_n cx dL_law_1411 rfl (lv_at hl 2 rfl) ?_
    refine lv_iload cx.1 cx.2.1 dL_law_1412 (lv_at hl 1 rfl) ?_
    refine q_iconst cx dL_law_1414 ?_
    refine q_iadd cx dL_law_1415 ?_
    refine va_sld cx.1 cx.2.1 hXs hbl hbA hB.1.2.2.2 (q_in (by decide) (by decide) (by decide)) dL_law_1416 ?_
    rw [show (q_i (0 + 2)).toNatClampNeg = 2 from by decide, ex2]
    refine q_ald_n cx dL_law_1417 rfl (lv_at hl 2 rfl) ?_
    refine lv_iload cx.1 cx.2.1 dL_law_1418 (lv_at hl 1 rfl) ?_
    refine q_iconst cx dL_law_1420 ?_
    refine q_iadd cx dL_law_1421 ?_
    refine va_sld cx.1 cx.2.1 hXs hbl hbA hB.1.2.2.2 (q_in (by decide) (by decide) (by decide)) dL_law_1422 ?_
    rw [show (q_i (0 + 3)).toNatClampNeg = 3 from by decide, ex3]
    refine q_ifeq (tgt := 1430) cx ⟨by omega, by omega⟩ dL_law_1423 (by decide) (fun c145 => ?_) (fun c145 => ?_)
    · refine q_iconst cx dL_law_1430 ?_
      refine q_cVi (As := [.int (q_i x1), .int (q_i x2), .int (q_i 0)]) (rest := []) cx hB (fun q h => hLA q h) hN hmo kmo (by decide) rfl (p_wouldArrive l g hN hB.2.1 mo hmo kmo x1 (by omega) (by omega) x2 (by omega) (by omega) 0 (by decide) (by decide) bu hbu kbu sr hsr ksr sd hsd ksd as has kas aw haw kaw pa hpa kpa nm hnm knm snm hsnm ksnm anm hanm kanm z108 z109 z110 z111 z112 z113 z114 z115 z116 z117 z118 z119 z120 z121 z122 z123 z124 z125 z136 z137 z138 z139 z140 z141 z142 z143 z144) q_cL_204 q_dX12_wouldArrive (by decide) rfl rfl hl.1 rfl (Nat.le_of_ble_eq_true rfl) dL_law_1431 (fun y147 H locs f146 ry147 h148 hF hB => ?_)
      obtain ⟨qy147, z149⟩ := h148
      have z150 : q_z f146 x 9 = 0 := (hF.z hx (by rw [kx]; rfl)).trans z94
      have z151 : q_z f146 src 1 = 0 := (hF.z hsrc (by rw [ksrc]; rfl)).trans z95
      have z152 : q_z f146 src 2 = 0 := (hF.z hsrc (by rw [ksrc]; rfl)).trans z96
      have z153 : q_z f146 src 3 = (-1) := (hF.z hsrc (by rw [ksrc]; rfl)).trans z97
      have z154 : q_z f146 hist 1 = 0 := (hF.z hhist (by rw [khist]; rfl)).trans z98
      have z155 : q_z f146 hist 2 = 0 := (hF.z hhist (by rw [khist]; rfl)).trans z99
      have z156 : q_z f146 rep 1 = 0 := (hF.z hrep (by rw [krep]; rfl)).trans z100
      have z157 : q_z f146 now 3 = 0 := (hF.z hnow (by rw [know]; rfl)).trans z101
      have z158 : q_z f146 now 4 = 0 := (hF.z hnow (by rw [know]; rfl)).trans z102
      have z159 : q_z f146 now 5 = 0 := (hF.z hnow (by rw [know]; rfl)).trans z103
      have z160 : q_z f146 now 6 = 12 := (hF.z hnow (by rw [know]; rfl)).trans z104
      have z161 : q_z f146 now 10 = 3 := (hF.z hnow (by rw [know]; rfl)).trans z105
      have z162 : q_z f146 now 11 = 0 := (hF.z hnow (by rw [know]; rfl)).trans z106
      have z163 : q_z f146 now 12 = 0 := (hF.z hnow (by rw [know]; rfl)).trans z107
      have z164 : q_r f146 x 0 = src := (hF.r hx (by rw [kx]; rfl)).trans z126
      have z165 : q_r f146 x 1 = rdr := (hF.r hx (by rw [kx]; rfl)).trans z127
      have z166 : q_r f146 x 2 = scr := (hF.r hx (by rw [kx]; rfl)).trans z128
      have z167 : q_r f146 x 3 = fc := (hF.r hx (by rw [kx]; rfl)).trans z129
      have z168 : q_r f146 x 4 = hist := (hF.r hx (by rw [kx]; rfl)).trans z130
      have z169 : q_r f146 x 5 = rep := (hF.r hx (by rw [kx]; rfl)).trans z131
      have z170 : q_r f146 x 6 = now := (hF.r hx (by rw [kx]; rfl)).trans z132
      have z171 : q_r f146 x 7 = dr := (hF.r hx (by rw [kx]; rfl)).trans z133
      have z172 : q_r f146 x 8 = sv := (hF.r hx (by rw [kx]; rfl)).trans z134
      have z173 : q_r f146 fc 0 = tr := (hF.r hfc (by rw [kfc]; rfl)).trans z135
      subst qy147
      refine lv_istore (lv' := [(7, .int (q_i 0)), (6, .int (q_i 1)), (5, .int (q_i 0)), (0, .ref b), (1, .ref x), (2, .ref mo), (3, .ref out), (4, .ref outD)]) cx.1 cx.2.1 dL_law_1434 hl (by decide) rfl (fun ls hl => ?_)
      refine q_ald_n cx dL_law_1436 rfl (lv_at hl 5 rfl) ?_
      refine q_cVi (As := []) (rest := []) cx hB (fun q h => hLA q h) hN hmo kmo (by decide) rfl (r_thrown l g hN hB.2.1 mo hmo kmo 1 (by decide) (by decide) z149) q_cL_124 q_dX12_thrown (by decide) rfl rfl hl.1 rfl (Nat.le_of_ble_eq_true rfl) dL_law_1437 (fun y175 H locs f174 ry175 h176 hF hB => ?_)
      obtain ⟨rfl, qy175⟩ := h176
      subst qy175
      refine lv_iload cx.1 cx.2.1 dL_law_1440 (lv_at hl 1 rfl) ?_
      refine q_iceq (tgt := 1447) cx ⟨by decide, by decide⟩ ⟨by decide, by decide⟩ dL_law_1442 (by decide) (fun c177 => ?_) (fun c177 => ?_)
      · refine lv_iload cx.1 cx.2.1 dL_law_1447 (lv_at hl 1 rfl) ?_
        refine q_ifne (tgt := 1464) cx ⟨by decide, by decide⟩ dL_law_1449 (by decide) (fun c178 => ?_) (fun c178 => ?_)
        · refine lv_goto (tgt := 2394) cx.1 cx.2.1 dL_law_1464 (by decide) ?_
          refine q_iinc (lv' := [(5, .int (q_i (0 + 6))), (7, .int (q_i 0)), (6, .int (q_i 1)), (0, .ref b), (1, .ref x), (2, .ref mo), (3, .ref out), (4, .ref outD)]) cx dL_law_2394 hl (k := 2) rfl (by decide) rfl (fun ls hl => ?_)
          refine lv_goto (tgt := 28) cx.1 cx.2.1 dL_law_2397 (by decide) ?_
          refine lv_iload cx.1 cx.2.1 dL_law_28 (lv_at hl 0 rfl) ?_
          refine q_ald_n cx dL_law_30 rfl (lv_at hl 3 rfl) ?_
          refine va_slen cx.1 cx.2.1 hXs hbl hbA hB.1.2.2.2 dL_law_31 ?_
          rw [show Int32.ofNat 6 = q_i 6 from by decide]
          refine q_bipush cx dL_law_32 rfl ?_
          refine q_isub cx dL_law_34 ?_
          refine q_icgt (tgt := 2400) cx ⟨by decide, by decide⟩ ⟨by decide, by decide⟩ dL_law_35 (by decide) (fun c179 => ?_) (fun c179 => ?_)
          · refine q_iconst cx dL_law_2400 ?_
            exact q_lawret C0 hB (by decide) (by decide) dL_law_2401
          · exact absurd c179 (by omega)
        · exact absurd c178 (by omega)
      · exact absurd c177 (by omega)
    · refine q_iconst cx dL_law_1426 ?_
      refine lv_goto (tgt := 1431) cx.1 cx.2.1 dL_law_1427 (by decide) ?_
      refine q_cVi (As := [.int (q_i x1), .int (q_i x2), .int (q_i 1)]) (rest := []) cx hB (fun q h => hLA q h) hN hmo kmo (by decide) rfl (p_wouldArrive l g hN hB.2.1 mo hmo kmo x1 (by omega) (by omega) x2 (by omega) (by omega) 1 (by decide) (by decide) bu hbu kbu sr hsr ksr sd hsd ksd as has kas aw haw kaw pa hpa kpa nm hnm knm snm hsnm ksnm anm hanm kanm z108 z109 z110 z111 z112 z113 z114 z115 z116 z117 z118 z119 z120 z121 z122 z123 z124 z125 z136 z137 z138 z139 z140 z141 z142 z143 z144) q_cL_204 q_dX12_wouldArrive (by decide) rfl rfl hl.1 rfl (Nat.le_of_ble_eq_true rfl) dL_law_1431 (fun y181 H locs f180 ry181 h182 hF hB => ?_)
      obtain ⟨qy181, z183⟩ := h182
      have z184 : q_z f180 x 9 = 0 := (hF.z hx (by rw [kx]; rfl)).trans z94
      have z185 : q_z f180 src 1 = 0 := (hF.z hsrc (by rw [ksrc]; rfl)).trans z95
      have z186 : q_z f180 src 2 = 0 := (hF.z hsrc (by rw [ksrc]; rfl)).trans z96
      have z187 : q_z f180 src 3 = (-1) := (hF.z hsrc (by rw [ksrc]; rfl)).trans z97
      have z188 : q_z f180 hist 1 = 0 := (hF.z hhist (by rw [khist]; rfl)).trans z98
      have z189 : q_z f180 hist 2 = 0 := (hF.z hhist (by rw [khist]; rfl)).trans z99
      have z190 : q_z f180 rep 1 = 0 := (hF.z hrep (by rw [krep]; rfl)).trans z100
      have z191 : q_z f180 now 3 = 0 := (hF.z hnow (by rw [know]; rfl)).trans z101
      have z192 : q_z f180 now 4 = 0 := (hF.z hnow (by rw [know]; rfl)).trans z102
      have z193 : q_z f180 now 5 = 0 := (hF.z hnow (by rw [know]; rfl)).trans z103
      have z194 : q_z f180 now 6 = 12 := (hF.z hnow (by rw [know]; rfl)).trans z104
      have z195 : q_z f180 now 10 = 3 := (hF.z hnow (by rw [know]; rfl)).trans z105
      have z196 : q_z f180 now 11 = 0 := (hF.z hnow (by rw [know]; rfl)).trans z106
      have z197 : q_z f180 now 12 = 0 := (hF.z hnow (by rw [know]; rfl)).trans z107
      have z198 : q_r f180 x 0 = src := (hF.r hx (by rw [kx]; rfl)).trans z126
      have z199 : q_r f180 x 1 = rdr := (hF.r hx (by rw [kx]; rfl)).trans z127
      have z200 : q_r f180 x 2 = scr := (hF.r hx (by rw [kx]; rfl)).trans z128
      have z201 : q_r f180 x 3 = fc := (hF.r hx (by rw [kx]; rfl)).trans z129
      have z202 : q_r f180 x 4 = hist := (hF.r hx (by rw [kx]; rfl)).trans z130
      have z203 : q_r f180 x 5 = rep := (hF.r hx (by rw [kx]; rfl)).trans z131
      have z204 : q_r f180 x 6 = now := (hF.r hx (by rw [kx]; rfl)).trans z132
      have z205 : q_r f180 x 7 = dr := (hF.r hx (by rw [kx]; rfl)).trans z133
      have z206 : q_r f180 x 8 = sv := (hF.r hx (by rw [kx]; rfl)).trans z134
      have z207 : q_r f180 fc 0 = tr := (hF.r hfc (by rw [kfc]; rfl)).trans z135
      subst qy181
      refine lv_istore (lv' := [(7, .int (q_i 0)), (6, .int (q_i 1)), (5, .int (q_i 0)), (0, .ref b), (1, .ref x), (2, .ref mo), (3, .ref out), (4, .ref outD)]) cx.1 cx.2.1 dL_law_1434 hl (by decide) rfl (fun ls hl => ?_)
      refine q_ald_n cx dL_law_1436 rfl (lv_at hl 5 rfl) ?_
      refine q_cVi (As := []) (rest := []) cx hB (fun q h => hLA q h) hN hmo kmo (by decide) rfl (r_thrown l g hN hB.2.1 mo hmo kmo 1 (by decide) (by decide) z183) q_cL_124 q_dX12_thrown (by decide) rfl rfl hl.1 rfl (Nat.le_of_ble_eq_true rfl) dL_law_1437 (fun y209 H locs f208 ry209 h210 hF hB => ?_)
      obtain ⟨rfl, qy209⟩ := h210
      subst qy209
      refine lv_iload cx.1 cx.2.1 dL_law_1440 (lv_at hl 1 rfl) ?_
      refine q_iceq (tgt := 1447) cx ⟨by decide, by decide⟩ ⟨by decide, by decide⟩ dL_law_1442 (by decide) (fun c211 => ?_) (fun c211 => ?_)
      · refine lv_iload cx.1 cx.2.1 dL_law_1447 (lv_at hl 1 rfl) ?_
        refine q_ifne (tgt := 1464) cx ⟨by decide, by decide⟩ dL_law_1449 (by decide) (fun c212 => ?_) (fun c212 => ?_)
        · refine lv_goto (tgt := 2394) cx.1 cx.2.1 dL_law_1464 (by decide) ?_
          refine q_iinc (lv' := [(5, .int (q_i (0 + 6))), (7, .int (q_i 0)), (6, .int (q_i 1)), (0, .ref b), (1, .ref x), (2, .ref mo), (3, .ref out), (4, .ref outD)]) cx dL_law_2394 hl (k := 2) rfl (by decide) rfl (fun ls hl => ?_)
          refine lv_goto (tgt := 28) cx.1 cx.2.1 dL_law_2397 (by decide) ?_
          refine lv_iload cx.1 cx.2.1 dL_law_28 (lv_at hl 0 rfl) ?_
          refine q_ald_n cx dL_law_30 rfl (lv_at hl 3 rfl) ?_
          refine va_slen cx.1 cx.2.1 hXs hbl hbA hB.1.2.2.2 dL_law_31 ?_
          rw [show Int32.ofNat 6 = q_i 6 from by decide]
          refine q_bipush cx dL_law_32 rfl ?_
          refine q_isub cx dL_law_34 ?_
          refine q_icgt (tgt := 2400) cx ⟨by decide, by decide⟩ ⟨by decide, by decide⟩ dL_law_35 (by decide) (fun c213 => ?_) (fun c213 => ?_)
          · refine q_iconst cx dL_law_2400 ?_
            exact q_lawret C0 hB (by decide) (by decide) dL_law_2401
          · exact absurd c213 (by omega)
        · exact absurd c212 (by omega)
      · exact absurd c211 (by omega)
set_option maxHeartbeats 4000000 in
set_option maxRecDepth 100000 in
theorem law_c1467 {p : Program} {l : Launch} {e : Env} {s : State} {m : MethodId} {below : List Frame} {meth : Method} {c : Code} {b : Nat} {xs : Nat → Int32} (hfl : l.stackTraces = false) (C0 : lw_At p s m meth c b 6 xs) (cx : CallFix p m c cL_law 10 s #[Value.ref b] q_al RL) {g : q_G} {K : Nat → Nat} {L : List Nat} {f : Nat → va_E} {H : Heap} {locs : List Loc} {ls : Array Slot} (hN : L.Nodup) (hLA : ∀ q, q ∈ L → s.heap.size ≤ q) (hX : q_X (fun q => q ∈ L) s) (hB : q_B g K L (fun q => s.heap.size ≤ q) [(2, 1, 2), (6, 1, 1), (7, 1, 4), (8, 1, 9), (9, 0, 2), (10, 3, 15), (11, 9, 9), (12, 0, 40), (13, 3, 15), (14, 3, 15), (15, 3, 15), (16, 3, 15), (142, 0, 599), (150, 0, 599), (151, 0, 657), (152, 0, 657), (153, 0, 657), (154, 0, 657), (155, 0, 3947), (156, 0, 9), (157, 0, 9), (158, 0, 9), (168, 0, 0), (169, 0, 0)] f f s H locs) {x : Nat} (hx : x ∈ L) (kx : K x = 11) {src : Nat} (hsrc : src ∈ L) (ksrc : K src = 8) {rdr : Nat} (hrdr : rdr ∈ L) (krdr : K rdr = 9) {scr : Nat} (hscr : scr ∈ L) (kscr : K scr = 7) {fc : Nat} (hfc : fc ∈ L) (kfc : K fc = 1) {hist : Nat} (hhist : hist ∈ L) (khist : K hist = 2) {rep : Nat} (hrep : rep ∈ L) (krep : K rep = 6) {now : Nat} (hnow : now ∈ L) (know : K now = 10) {dr : Nat} (hdr : dr ∈ L) (kdr : K dr = 13) {sv : Nat} (hsv : sv ∈ L) (ksv : K sv = 14) {tr : Nat} (htr : tr ∈ L) (ktr : K tr = 15) {mo : Nat} (hmo : mo ∈ L) (kmo : K mo = 12) {bu : Nat} (hbu : bu ∈ L) (kbu : K bu = 150) {sr : Nat} (hsr : sr ∈ L) (ksr : K sr = 151) {sd : Nat} (hsd : sd ∈ L) (ksd : K sd = 152) {as : Nat} (has : as ∈ L) (kas : K as = 153) {aw : Nat} (haw : aw ∈ L) (kaw : K aw = 154) {pa : Nat} (hpa : pa ∈ L) (kpa : K pa = 155) {nm : Nat} (hnm : nm ∈ L) (knm : K nm = 156) {snm : Nat} (hsnm : snm ∈ L) (ksnm : K snm = 157) {anm : Nat} (hanm : anm ∈ L) (kanm : K anm = 158) {out : Nat} (hout : out ∈ L) (kout : K out = 168) {outD : Nat} (houtD : outD ∈ L) (koutD : K outD = 169) (hf0 : q_z f x 9 = 0) (hf1 : q_z f src 1 = 0) (hf2 : q_z f src 2 = 0) (hf3 : q_z f src 3 = (-1)) (hf4 : q_z f hist 1 = 0) (hf5 : q_z f hist 2 = 0) (hf6 : q_z f rep 1 = 0) (hf7 : q_z f now 3 = 0) (hf8 : q_z f now 4 = 0) (hf9 : q_z f now 5 = 0) (hf10 : q_z f now 6 = 12) (hf11 : q_z f now 10 = 3) (hf12 : q_z f now 11 = 0) (hf13 : q_z f now 12 = 0) (hf14 : q_z f mo 2 = 0) (hf15 : q_z f mo 8 = 0) (hf16 : q_z f mo 9 = (-1)) (hf17 : q_z f mo 10 = 0) (hf18 : q_z f mo 11 = (-1)) (hf19 : q_z f mo 21 = 0) (hf20 : q_z f mo 22 = 0) (hf21 : q_z f mo 40 = 0) (hf22 : q_z f sr 0 = 0) (hf23 : q_z f sr 1 = 0) (hf24 : q_z f sr 2 = 12) (hf25 : q_z f sr 3 = 0) (hf26 : q_z f sr 4 = 0) (hf27 : q_z f sr 5 = 1) (hf28 : q_z f sr 6 = 2) (hf29 : q_z f sr 7 = 5) (hf30 : q_z f sr 8 = 3) (hf31 : q_z f sr 9 = 0) (hr0 : q_r f x 0 = src) (hr1 : q_r f x 1 = rdr) (hr2 : q_r f x 2 = scr) (hr3 : q_r f x 3 = fc) (hr4 : q_r f x 4 = hist) (hr5 : q_r f x 5 = rep) (hr6 : q_r f x 6 = now) (hr7 : q_r f x 7 = dr) (hr8 : q_r f x 8 = sv) (hr9 : q_r f fc 0 = tr) (hr10 : q_r f mo 1 = bu) (hr11 : q_r f mo 13 = sr) (hr12 : q_r f mo 14 = sd) (hr13 : q_r f mo 15 = as) (hr14 : q_r f mo 16 = aw) (hr15 : q_r f mo 17 = pa) (hr16 : q_r f mo 18 = nm) (hr17 : q_r f mo 19 = snm) (hr18 : q_r f mo 20 = anm) (hl : lv_has ls 10 [(5, .int (q_i 0)), (0, .ref b), (1, .ref x), (2, .ref mo), (3, .ref out), (4, .ref outD)]) : W p l e room_1 s m #[Value.ref b] below meth c H locs 1100 20000 (lw_Z below #[Value.ref b] s) (F0 m 1467 ls []) := by
  have hXs := C0.2.2.2.2.2.2.1
  have hbl := C0.2.2.2.2.2.2.2.1
  have hbA := q_bA hbl
  obtain ⟨x0, rx0, ex0⟩ : ∃ z : Int, q_R z ∧ xs 0 = q_i z := ⟨_, q_rng _, (q_of _).symm⟩
  have lx0 := rx0.1
  have ux0 := rx0.2
  obtain ⟨x1, rx1, ex1⟩ : ∃ z : Int, q_R z ∧ xs 1 = q_i z := ⟨_, q_rng _, (q_of _).symm⟩
  have lx1 := rx1.1
  have ux1 := rx1.2
  obtain ⟨x2, rx2, ex2⟩ : ∃ z : Int, q_R z ∧ xs 2 = q_i z := ⟨_, q_rng _, (q_of _).symm⟩
  have lx2 := rx2.1
  have ux2 := rx2.2
  obtain ⟨x3, rx3, ex3⟩ : ∃ z : Int, q_R z ∧ xs 3 = q_i z := ⟨_, q_rng _, (q_of _).symm⟩
  have lx3 := rx3.1
  have ux3 := rx3.2
  obtain ⟨x4, rx4, ex4⟩ : ∃ z : Int, q_R z ∧ xs 4 = q_i z := ⟨_, q_rng _, (q_of _).symm⟩
  have lx4 := rx4.1
  have ux4 := rx4.2
  obtain ⟨x5, rx5, ex5⟩ : ∃ z : Int, q_R z ∧ xs 5 = q_i z := ⟨_, q_rng _, (q_of _).symm⟩
  have lx5 := rx5.1
  have ux5 := rx5.2
  refine q_ald_n cx dL_law_1467 rfl (lv_at hl 2 rfl) ?_
  refine q_ald_n cx dL_law_1468 rfl (lv_at hl 1 rfl) ?_
  refine lv_iload cx.1 cx.2.1 dL_law_1469 (lv_at hl 0 rfl) ?_
  refine q_iconst cx dL_law_1471 ?_
  refine q_iadd cx dL_law_1472 ?_
  refine va_sld cx.1 cx.2.1 hXs hbl hbA hB.1.2.2.2 (q_in (by decide) (by decide) (by decide)) dL_law_1473 ?_
  rw [show (q_i (0 + 1)).toNatClampNeg = 1 from by decide, ex1]
  refine q_ald_n cx dL_law_1474 rfl (lv_at hl 4 rfl) ?_
  refine q_cWS (As := [.ref x, .int (q_i x1), .ref out]) (rest := []) cx hX hB (fun q h => hLA q h) (fun q h1 h2 => absurd h1 (Nat.not_le_of_lt h2)) hN (w_outIn l g hN hB.2.1 hfl x hx kx x1 (by omega) (by omega) out hout kout src hsrc ksrc rdr hrdr krdr scr hscr kscr fc hfc kfc hist hhist khist rep hrep krep now hnow know dr hdr kdr sv hsv ksv tr htr ktr hf0 hf1 hf2 hf3 hf4 hf5 hf6 hf7 hf8 hf9 hf10 hf11 hf12 hf13 hr0 hr1 hr2 hr3 hr4 hr5 hr6 hr7 hr8 hr9) q_cL_205 q_dL_outIn (by decide) rfl rfl hl.1 rfl (Nat.le_of_ble_eq_true rfl) dL_law_1475 (fun v9 H locs f1 h3 hF hB => ?_)
  obtain ⟨y2, rfl, ry2, h3⟩ := h3
  refine W.eq (g2 := F0 m 1478 ls [.int (q_i y2)]) rfl ?_
  have qy2 := h3
  have z4 : q_z f1 x 9 = 0 := (hF.z hx (by rw [kx]; rfl)).trans hf0
  have z5 : q_z f1 src 1 = 0 := (hF.z hsrc (by rw [ksrc]; rfl)).trans hf1
  have z6 : q_z f1 src 2 = 0 := (hF.z hsrc (by rw [ksrc]; rfl)).trans hf2
  have z7 : q_z f1 src 3 = (-1) := (hF.z hsrc (by rw [ksrc]; rfl)).trans hf3
  have z8 : q_z f1 hist 1 = 0 := (hF.z hhist (by rw [khist]; rfl)).trans hf4
  have z9 : q_z f1 hist 2 = 0 := (hF.z hhist (by rw [khist]; rfl)).trans hf5
  have z10 : q_z f1 rep 1 = 0 := (hF.z hrep (by rw [krep]; rfl)).trans hf6
  have z11 : q_z f1 now 3 = 0 := (hF.z hnow (by rw [know]; rfl)).trans hf7
  have z12 : q_z f1 now 4 = 0 := (hF.z hnow (by rw [know]; rfl)).trans hf8
  have z13 : q_z f1 now 5 = 0 := (hF.z hnow (by rw [know]; rfl)).trans hf9
  have z14 : q_z f1 now 6 = 12 := (hF.z hnow (by rw [know]; rfl)).trans hf10
  have z15 : q_z f1 now 10 = 3 := (hF.z hnow (by rw [know]; rfl)).trans hf11
  have z16 : q_z f1 now 11 = 0 := (hF.z hnow (by rw [know]; rfl)).trans hf12
  have z17 : q_z f1 now 12 = 0 := (hF.z hnow (by rw [know]; rfl)).trans hf13
  have z18 : q_z f1 mo 2 = 0 := (hF.z hmo (by rw [kmo]; rfl)).trans hf14
  have z19 : q_z f1 mo 8 = 0 := (hF.z hmo (by rw [kmo]; rfl)).trans hf15
  have z20 : q_z f1 mo 9 = (-1) := (hF.z hmo (by rw [kmo]; rfl)).trans hf16
  have z21 : q_z f1 mo 10 = 0 := (hF.z hmo (by rw [kmo]; rfl)).trans hf17
  have z22 : q_z f1 mo 11 = (-1) := (hF.z hmo (by rw [kmo]; rfl)).trans hf18
  have z23 : q_z f1 mo 21 = 0 := (hF.z hmo (by rw [kmo]; rfl)).trans hf19
  have z24 : q_z f1 mo 22 = 0 := (hF.z hmo (by rw [kmo]; rfl)).trans hf20
  have z25 : q_z f1 mo 40 = 0 := (hF.z hmo (by rw [kmo]; rfl)).trans hf21
  have z26 : q_z f1 sr 0 = 0 := (hF.z hsr (by rw [ksr]; rfl)).trans hf22
  have z27 : q_z f1 sr 1 = 0 := (hF.z hsr (by rw [ksr]; rfl)).trans hf23
  have z28 : q_z f1 sr 2 = 12 := (hF.z hsr (by rw [ksr]; rfl)).trans hf24
  have z29 : q_z f1 sr 3 = 0 := (hF.z hsr (by rw [ksr]; rfl)).trans hf25
  have z30 : q_z f1 sr 4 = 0 := (hF.z hsr (by rw [ksr]; rfl)).trans hf26
  have z31 : q_z f1 sr 5 = 1 := (hF.z hsr (by rw [ksr]; rfl)).trans hf27
  have z32 : q_z f1 sr 6 = 2 := (hF.z hsr (by rw [ksr]; rfl)).trans hf28
  have z33 : q_z f1 sr 7 = 5 := (hF.z hsr (by rw [ksr]; rfl)).trans hf29
  have z34 : q_z f1 sr 8 = 3 := (hF.z hsr (by rw [ksr]; rfl)).trans hf30
  have z35 : q_z f1 sr 9 = 0 := (hF.z hsr (by rw [ksr]; rfl)).trans hf31
  have z36 : q_r f1 x 0 = src := (hF.r hx (by rw [kx]; rfl)).trans hr0
  have z37 : q_r f1 x 1 = rdr := (hF.r hx (by rw [kx]; rfl)).trans hr1
  have z38 : q_r f1 x 2 = scr := (hF.r hx (by rw [kx]; rfl)).trans hr2
  have z39 : q_r f1 x 3 = fc := (hF.r hx (by rw [kx]; rfl)).trans hr3
  have z40 : q_r f1 x 4 = hist := (hF.r hx (by rw [kx]; rfl)).trans hr4
  have z41 : q_r f1 x 5 = rep := (hF.r hx (by rw [kx]; rfl)).trans hr5
  have z42 : q_r f1 x 6 = now := (hF.r hx (by rw [kx]; rfl)).trans hr6
  have z43 : q_r f1 x 7 = dr := (hF.r hx (by rw [kx]; rfl)).trans hr7
  have z44 : q_r f1 x 8 = sv := (hF.r hx (by rw [kx]; rfl)).trans hr8
  have z45 : q_r f1 fc 0 = tr := (hF.r hfc (by rw [kfc]; rfl)).trans hr9
  have z46 : q_r f1 mo 1 = bu := (hF.r hmo (by rw [kmo]; rfl)).trans hr10
  have z47 : q_r f1 mo 13 = sr := (hF.r hmo (by rw [kmo]; rfl)).trans hr11
  have z48 : q_r f1 mo 14 = sd := (hF.r hmo (by rw [kmo]; rfl)).trans hr12
  have z49 : q_r f1 mo 15 = as := (hF.r hmo (by rw [kmo]; rfl)).trans hr13
  have z50 : q_r f1 mo 16 = aw := (hF.r hmo (by rw [kmo]; rfl)).trans hr14
  have z51 : q_r f1 mo 17 = pa := (hF.r hmo (by rw [kmo]; rfl)).trans hr15
  have z52 : q_r f1 mo 18 = nm := (hF.r hmo (by rw [kmo]; rfl)).trans hr16
  have z53 : q_r f1 mo 19 = snm := (hF.r hmo (by rw [kmo]; rfl)).trans hr17
  have z54 : q_r f1 mo 20 = anm := (hF.r hmo (by rw [kmo]; rfl)).trans hr18
  subst qy2
  refine lv_istore (lv' := [(6, .int (q_i 1)), (5, .int (q_i 0)), (0, .ref b), (1, .ref x), (2, .ref mo), (3, .ref out), (4, .ref outD)]) cx.1 cx.2.1 dL_law_1478 hl (by decide) rfl (fun ls hl => ?_)
  refine q_ald_n cx dL_law_1480 rfl (lv_at hl 4 rfl) ?_
  refine q_ald_n cx dL_law_1481 rfl (lv_at hl 2 rfl) ?_
  refine lv_iload cx.1 cx.2.1 dL_law_1482 (lv_at hl 1 rfl) ?_
  refine q_iconst cx dL_law_1484 ?_
  refine q_iadd cx dL_law_1485 ?_
  refine va_sld cx.1 cx.2.1 hXs hbl hbA hB.1.2.2.2 (q_in (by decide) (by decide) (by decide)) dL_law_1486 ?_
  rw [show (q_i (0 + 1)).toNatClampNeg = 1 from by decide, ex1]
  refine q_cVi (As := [.int (q_i x1)]) (rest := []) cx hB (fun q h => hLA q h) hN hmo kmo (by decide) rfl (p_outIn l g hN hB.2.1 mo hmo kmo x1 (by omega) (by omega) bu hbu kbu sr hsr ksr sd hsd ksd as has kas aw haw kaw pa hpa kpa nm hnm knm snm hsnm ksnm anm hanm kanm z18 z19 z20 z21 z22 z23 z24 z25 z26 z27 z28 z29 z30 z31 z32 z33 z34 z35 z46 z47 z48 z49 z50 z51 z52 z53 z54) q_cL_207 q_dX12_outIn (by decide) rfl rfl hl.1 rfl (Nat.le_of_ble_eq_true rfl) dL_law_1487 (fun y56 H locs f55 ry56 h57 hF hB => ?_)
  obtain ⟨qy56, z58⟩ := h57
  have z59 : q_z f55 x 9 = 0 := (hF.z hx (by rw [kx]; rfl)).trans z4
  have z60 : q_z f55 src 1 = 0 := (hF.z hsrc (by rw [ksrc]; rfl)).trans z5
  have z61 : q_z f55 src 2 = 0 := (hF.z hsrc (by rw [ksrc]; rfl)).trans z6
  have z62 : q_z f55 src 3 = (-1) := (hF.z hsrc (by rw [ksrc]; rfl)).trans z7
  have z63 : q_z f55 hist 1 = 0 := (hF.z hhist (by rw [khist]; rfl)).trans z8
  have z64 : q_z f55 hist 2 = 0 := (hF.z hhist (by rw [khist]; rfl)).trans z9
  have z65 : q_z f55 rep 1 = 0 := (hF.z hrep (by rw [krep]; rfl)).trans z10
  have z66 : q_z f55 now 3 = 0 := (hF.z hnow (by rw [know]; rfl)).trans z11
  have z67 : q_z f55 now 4 = 0 := (hF.z hnow (by rw [know]; rfl)).trans z12
  have z68 : q_z f55 now 5 = 0 := (hF.z hnow (by rw [know]; rfl)).trans z13
  have z69 : q_z f55 now 6 = 12 := (hF.z hnow (by rw [know]; rfl)).trans z14
  have z70 : q_z f55 now 10 = 3 := (hF.z hnow (by rw [know]; rfl)).trans z15
  have z71 : q_z f55 now 11 = 0 := (hF.z hnow (by rw [know]; rfl)).trans z16
  have z72 : q_z f55 now 12 = 0 := (hF.z hnow (by rw [know]; rfl)).trans z17
  have z73 : q_r f55 x 0 = src := (hF.r hx (by rw [kx]; rfl)).trans z36
  have z74 : q_r f55 x 1 = rdr := (hF.r hx (by rw [kx]; rfl)).trans z37
  have z75 : q_r f55 x 2 = scr := (hF.r hx (by rw [kx]; rfl)).trans z38
  have z76 : q_r f55 x 3 = fc := (hF.r hx (by rw [kx]; rfl)).trans z39
  have z77 : q_r f55 x 4 = hist := (hF.r hx (by rw [kx]; rfl)).trans z40
  have z78 : q_r f55 x 5 = rep := (hF.r hx (by rw [kx]; rfl)).trans z41
  have z79 : q_r f55 x 6 = now := (hF.r hx (by rw [kx]; rfl)).trans z42
  have z80 : q_r f55 x 7 = dr := (hF.r hx (by rw [kx]; rfl)).trans z43
  have z81 : q_r f55 x 8 = sv := (hF.r hx (by rw [kx]; rfl)).trans z44
  have z82 : q_r f55 fc 0 = tr := (hF.r hfc (by rw [kfc]; rfl)).trans z45
  subst qy56
  refine lv_istore (lv' := [(7, .int (q_i 0)), (6, .int (q_i 1)), (5, .int (q_i 0)), (0, .ref b), (1, .ref x), (2, .ref mo), (3, .ref out), (4, .ref outD)]) cx.1 cx.2.1 dL_law_1490 hl (by decide) rfl (fun ls hl => ?_)
  refine q_ald_n cx dL_law_1492 rfl (lv_at hl 5 rfl) ?_
  refine q_cVi (As := []) (rest := []) cx hB (fun q h => hLA q h) hN hmo kmo (by decide) rfl (r_thrown l g hN hB.2.1 mo hmo kmo 1 (by decide) (by decide) z58) q_cL_124 q_dX12_thrown (by decide) rfl rfl hl.1 rfl (Nat.le_of_ble_eq_true rfl) dL_law_1493 (fun y84 H locs f83 ry84 h85 hF hB => ?_)
  obtain ⟨rfl, qy84⟩ := h85
  subst qy84
  refine lv_iload cx.1 cx.2.1 dL_law_1496 (lv_at hl 1 rfl) ?_
  refine q_iceq (tgt := 1503) cx ⟨by decide, by decide⟩ ⟨by decide, by decide⟩ dL_law_1498 (by decide) (fun c86 => ?_) (fun c86 => ?_)
  · refine lv_iload cx.1 cx.2.1 dL_law_1503 (lv_at hl 1 rfl) ?_
    refine q_ifne (tgt := 1520) cx ⟨by decide, by decide⟩ dL_law_1505 (by decide) (fun c87 => ?_) (fun c87 => ?_)
    · refine lv_goto (tgt := 2394) cx.1 cx.2.1 dL_law_1520 (by decide) ?_
      refine q_iinc (lv' := [(5, .int (q_i (0 + 6))), (7, .int (q_i 0)), (6, .int (q_i 1)), (0, .ref b), (1, .ref x), (2, .ref mo), (3, .ref out), (4, .ref outD)]) cx dL_law_2394 hl (k := 2) rfl (by decide) rfl (fun ls hl => ?_)
      refine lv_goto (tgt := 28) cx.1 cx.2.1 dL_law_2397 (by decide) ?_
      refine lv_iload cx.1 cx.2.1 dL_law_28 (lv_at hl 0 rfl) ?_
      refine q_ald_n cx dL_law_30 rfl (lv_at hl 3 rfl) ?_
      refine va_slen cx.1 cx.2.1 hXs hbl hbA hB.1.2.2.2 dL_law_31 ?_
      rw [show Int32.ofNat 6 = q_i 6 from by decide]
      refine q_bipush cx dL_law_32 rfl ?_
      refine q_isub cx dL_law_34 ?_
      refine q_icgt (tgt := 2400) cx ⟨by decide, by decide⟩ ⟨by decide, by decide⟩ dL_law_35 (by decide) (fun c88 => ?_) (fun c88 => ?_)
      · refine q_iconst cx dL_law_2400 ?_
        exact q_lawret C0 hB (by decide) (by decide) dL_law_2401
      · exact absurd c88 (by omega)
    · exact absurd c87 (by omega)
  · exact absurd c86 (by omega)
set_option maxHeartbeats 4000000 in
set_option maxRecDepth 100000 in
theorem law_c1523 {p : Program} {l : Launch} {e : Env} {s : State} {m : MethodId} {below : List Frame} {meth : Method} {c : Code} {b : Nat} {xs : Nat → Int32} (hfl : l.stackTraces = false) (C0 : lw_At p s m meth c b 6 xs) (cx : CallFix p m c cL_law 10 s #[Value.ref b] q_al RL) {g : q_G} {K : Nat → Nat} {L : List Nat} {f : Nat → va_E} {H : Heap} {locs : List Loc} {ls : Array Slot} (hN : L.Nodup) (hLA : ∀ q, q ∈ L → s.heap.size ≤ q) (hX : q_X (fun q => q ∈ L) s) (hB : q_B g K L (fun q => s.heap.size ≤ q) [(2, 1, 2), (6, 1, 1), (7, 1, 4), (8, 1, 9), (9, 0, 2), (10, 3, 15), (11, 9, 9), (12, 0, 40), (13, 3, 15), (14, 3, 15), (15, 3, 15), (16, 3, 15), (142, 0, 599), (150, 0, 599), (151, 0, 657), (152, 0, 657), (153, 0, 657), (154, 0, 657), (155, 0, 3947), (156, 0, 9), (157, 0, 9), (158, 0, 9), (168, 0, 0), (169, 0, 0)] f f s H locs) {x : Nat} (hx : x ∈ L) (kx : K x = 11) {src : Nat} (hsrc : src ∈ L) (ksrc : K src = 8) {rdr : Nat} (hrdr : rdr ∈ L) (krdr : K rdr = 9) {scr : Nat} (hscr : scr ∈ L) (kscr : K scr = 7) {fc : Nat} (hfc : fc ∈ L) (kfc : K fc = 1) {hist : Nat} (hhist : hist ∈ L) (khist : K hist = 2) {rep : Nat} (hrep : rep ∈ L) (krep : K rep = 6) {now : Nat} (hnow : now ∈ L) (know : K now = 10) {dr : Nat} (hdr : dr ∈ L) (kdr : K dr = 13) {sv : Nat} (hsv : sv ∈ L) (ksv : K sv = 14) {tr : Nat} (htr : tr ∈ L) (ktr : K tr = 15) {mo : Nat} (hmo : mo ∈ L) (kmo : K mo = 12) {bu : Nat} (hbu : bu ∈ L) (kbu : K bu = 150) {sr : Nat} (hsr : sr ∈ L) (ksr : K sr = 151) {sd : Nat} (hsd : sd ∈ L) (ksd : K sd = 152) {as : Nat} (has : as ∈ L) (kas : K as = 153) {aw : Nat} (haw : aw ∈ L) (kaw : K aw = 154) {pa : Nat} (hpa : pa ∈ L) (kpa : K pa = 155) {nm : Nat} (hnm : nm ∈ L) (knm : K nm = 156) {snm : Nat} (hsnm : snm ∈ L) (ksnm : K snm = 157) {anm : Nat} (hanm : anm ∈ L) (kanm : K anm = 158) {out : Nat} (hout : out ∈ L) (kout : K out = 168) {outD : Nat} (houtD : outD ∈ L) (koutD : K outD = 169) (hf0 : q_z f x 9 = 0) (hf1 : q_z f src 1 = 0) (hf2 : q_z f src 2 = 0) (hf3 : q_z f src 3 = (-1)) (hf4 : q_z f hist 1 = 0) (hf5 : q_z f hist 2 = 0) (hf6 : q_z f rep 1 = 0) (hf7 : q_z f now 3 = 0) (hf8 : q_z f now 4 = 0) (hf9 : q_z f now 5 = 0) (hf10 : q_z f now 6 = 12) (hf11 : q_z f now 10 = 3) (hf12 : q_z f now 11 = 0) (hf13 : q_z f now 12 = 0) (hf14 : q_z f mo 2 = 0) (hf15 : q_z f mo 8 = 0) (hf16 : q_z f mo 9 = (-1)) (hf17 : q_z f mo 10 = 0) (hf18 : q_z f mo 11 = (-1)) (hf19 : q_z f mo 21 = 0) (hf20 : q_z f mo 22 = 0) (hf21 : q_z f mo 40 = 0) (hf22 : q_z f sr 0 = 0) (hf23 : q_z f sr 1 = 0) (hf24 : q_z f sr 2 = 12) (hf25 : q_z f sr 3 = 0) (hf26 : q_z f sr 4 = 0) (hf27 : q_z f sr 5 = 1) (hf28 : q_z f sr 6 = 2) (hf29 : q_z f sr 7 = 5) (hf30 : q_z f sr 8 = 3) (hf31 : q_z f sr 9 = 0) (hr0 : q_r f x 0 = src) (hr1 : q_r f x 1 = rdr) (hr2 : q_r f x 2 = scr) (hr3 : q_r f x 3 = fc) (hr4 : q_r f x 4 = hist) (hr5 : q_r f x 5 = rep) (hr6 : q_r f x 6 = now) (hr7 : q_r f x 7 = dr) (hr8 : q_r f x 8 = sv) (hr9 : q_r f fc 0 = tr) (hr10 : q_r f mo 1 = bu) (hr11 : q_r f mo 13 = sr) (hr12 : q_r f mo 14 = sd) (hr13 : q_r f mo 15 = as) (hr14 : q_r f mo 16 = aw) (hr15 : q_r f mo 17 = pa) (hr16 : q_r f mo 18 = nm) (hr17 : q_r f mo 19 = snm) (hr18 : q_r f mo 20 = anm) (hl : lv_has ls 10 [(5, .int (q_i 0)), (0, .ref b), (1, .ref x), (2, .ref mo), (3, .ref out), (4, .ref outD)]) : W p l e room_1 s m #[Value.ref b] below meth c H locs 1100 20000 (lw_Z below #[Value.ref b] s) (F0 m 1523 ls []) := by
  have hXs := C0.2.2.2.2.2.2.1
  have hbl := C0.2.2.2.2.2.2.2.1
  have hbA := q_bA hbl
  obtain ⟨x0, rx0, ex0⟩ : ∃ z : Int, q_R z ∧ xs 0 = q_i z := ⟨_, q_rng _, (q_of _).symm⟩
  have lx0 := rx0.1
  have ux0 := rx0.2
  obtain ⟨x1, rx1, ex1⟩ : ∃ z : Int, q_R z ∧ xs 1 = q_i z := ⟨_, q_rng _, (q_of _).symm⟩
  have lx1 := rx1.1
  have ux1 := rx1.2
  obtain ⟨x2, rx2, ex2⟩ : ∃ z : Int, q_R z ∧ xs 2 = q_i z := ⟨_, q_rng _, (q_of _).symm⟩
  have lx2 := rx2.1
  have ux2 := rx2.2
  obtain ⟨x3, rx3, ex3⟩ : ∃ z : Int, q_R z ∧ xs 3 = q_i z := ⟨_, q_rng _, (q_of _).symm⟩
  have lx3 := rx3.1
  have ux3 := rx3.2
  obtain ⟨x4, rx4, ex4⟩ : ∃ z : Int, q_R z ∧ xs 4 = q_i z := ⟨_, q_rng _, (q_of _).symm⟩
  have lx4 := rx4.1
  have ux4 := rx4.2
  obtain ⟨x5, rx5, ex5⟩ : ∃ z : Int, q_R z ∧ xs 5 = q_i z := ⟨_, q_rng _, (q_of _).symm⟩
  have lx5 := rx5.1
  have ux5 := rx5.2
  refine q_ald_n cx dL_law_1523 rfl (lv_at hl 2 rfl) ?_
  refine q_ald_n cx dL_law_1524 rfl (lv_at hl 1 rfl) ?_
  refine lv_iload cx.1 cx.2.1 dL_law_1525 (lv_at hl 0 rfl) ?_
  refine q_iconst cx dL_law_1527 ?_
  refine q_iadd cx dL_law_1528 ?_
  refine va_sld cx.1 cx.2.1 hXs hbl hbA hB.1.2.2.2 (q_in (by decide) (by decide) (by decide)) dL_law_1529 ?_
  rw [show (q_i (0 + 1)).toNatClampNeg = 1 from by decide, ex1]
  refine q_ald_n cx dL_law_1530 rfl (lv_at hl 1 rfl) ?_
  refine lv_iload cx.1 cx.2.1 dL_law_1531 (lv_at hl 0 rfl) ?_
  refine q_iconst cx dL_law_1533 ?_
  refine q_iadd cx dL_law_1534 ?_
  refine va_sld cx.1 cx.2.1 hXs hbl hbA hB.1.2.2.2 (q_in (by decide) (by decide) (by decide)) dL_law_1535 ?_
  rw [show (q_i (0 + 2)).toNatClampNeg = 2 from by decide, ex2]
  refine q_ald_n cx dL_law_1536 rfl (lv_at hl 4 rfl) ?_
  refine q_cWS (As := [.ref x, .int (q_i x1), .int (q_i x2), .ref out]) (rest := []) cx hX hB (fun q h => hLA q h) (fun q h1 h2 => absurd h1 (Nat.not_le_of_lt h2)) hN (w_energyIn l g hN hB.2.1 hfl x hx kx x1 (by omega) (by omega) x2 (by omega) (by omega) out hout kout src hsrc ksrc rdr hrdr krdr scr hscr kscr fc hfc kfc hist hhist khist rep hrep krep now hnow know dr hdr kdr sv hsv ksv tr htr ktr hf0 hf1 hf2 hf3 hf4 hf5 hf6 hf7 hf8 hf9 hf10 hf11 hf12 hf13 hr0 hr1 hr2 hr3 hr4 hr5 hr6 hr7 hr8 hr9) q_cL_208 q_dL_energyIn (by decide) rfl rfl hl.1 rfl (Nat.le_of_ble_eq_true rfl) dL_law_1537 (fun v9 H locs f1 h3 hF hB => ?_)
  obtain ⟨y2, rfl, ry2, h3⟩ := h3
  refine W.eq (g2 := F0 m 1540 ls [.int (q_i y2)]) rfl ?_
  have qy2 := h3
  have z4 : q_z f1 x 9 = 0 := (hF.z hx (by rw [kx]; rfl)).trans hf0
  have z5 : q_z f1 src 1 = 0 := (hF.z hsrc (by rw [ksrc]; rfl)).trans hf1
  have z6 : q_z f1 src 2 = 0 := (hF.z hsrc (by rw [ksrc]; rfl)).trans hf2
  have z7 : q_z f1 src 3 = (-1) := (hF.z hsrc (by rw [ksrc]; rfl)).trans hf3
  have z8 : q_z f1 hist 1 = 0 := (hF.z hhist (by rw [khist]; rfl)).trans hf4
  have z9 : q_z f1 hist 2 = 0 := (hF.z hhist (by rw [khist]; rfl)).trans hf5
  have z10 : q_z f1 rep 1 = 0 := (hF.z hrep (by rw [krep]; rfl)).trans hf6
  have z11 : q_z f1 now 3 = 0 := (hF.z hnow (by rw [know]; rfl)).trans hf7
  have z12 : q_z f1 now 4 = 0 := (hF.z hnow (by rw [know]; rfl)).trans hf8
  have z13 : q_z f1 now 5 = 0 := (hF.z hnow (by rw [know]; rfl)).trans hf9
  have z14 : q_z f1 now 6 = 12 := (hF.z hnow (by rw [know]; rfl)).trans hf10
  have z15 : q_z f1 now 10 = 3 := (hF.z hnow (by rw [know]; rfl)).trans hf11
  have z16 : q_z f1 now 11 = 0 := (hF.z hnow (by rw [know]; rfl)).trans hf12
  have z17 : q_z f1 now 12 = 0 := (hF.z hnow (by rw [know]; rfl)).trans hf13
  have z18 : q_z f1 mo 2 = 0 := (hF.z hmo (by rw [kmo]; rfl)).trans hf14
  have z19 : q_z f1 mo 8 = 0 := (hF.z hmo (by rw [kmo]; rfl)).trans hf15
  have z20 : q_z f1 mo 9 = (-1) := (hF.z hmo (by rw [kmo]; rfl)).trans hf16
  have z21 : q_z f1 mo 10 = 0 := (hF.z hmo (by rw [kmo]; rfl)).trans hf17
  have z22 : q_z f1 mo 11 = (-1) := (hF.z hmo (by rw [kmo]; rfl)).trans hf18
  have z23 : q_z f1 mo 21 = 0 := (hF.z hmo (by rw [kmo]; rfl)).trans hf19
  have z24 : q_z f1 mo 22 = 0 := (hF.z hmo (by rw [kmo]; rfl)).trans hf20
  have z25 : q_z f1 mo 40 = 0 := (hF.z hmo (by rw [kmo]; rfl)).trans hf21
  have z26 : q_z f1 sr 0 = 0 := (hF.z hsr (by rw [ksr]; rfl)).trans hf22
  have z27 : q_z f1 sr 1 = 0 := (hF.z hsr (by rw [ksr]; rfl)).trans hf23
  have z28 : q_z f1 sr 2 = 12 := (hF.z hsr (by rw [ksr]; rfl)).trans hf24
  have z29 : q_z f1 sr 3 = 0 := (hF.z hsr (by rw [ksr]; rfl)).trans hf25
  have z30 : q_z f1 sr 4 = 0 := (hF.z hsr (by rw [ksr]; rfl)).trans hf26
  have z31 : q_z f1 sr 5 = 1 := (hF.z hsr (by rw [ksr]; rfl)).trans hf27
  have z32 : q_z f1 sr 6 = 2 := (hF.z hsr (by rw [ksr]; rfl)).trans hf28
  have z33 : q_z f1 sr 7 = 5 := (hF.z hsr (by rw [ksr]; rfl)).trans hf29
  have z34 : q_z f1 sr 8 = 3 := (hF.z hsr (by rw [ksr]; rfl)).trans hf30
  have z35 : q_z f1 sr 9 = 0 := (hF.z hsr (by rw [ksr]; rfl)).trans hf31
  have z36 : q_r f1 x 0 = src := (hF.r hx (by rw [kx]; rfl)).trans hr0
  have z37 : q_r f1 x 1 = rdr := (hF.r hx (by rw [kx]; rfl)).trans hr1
  have z38 : q_r f1 x 2 = scr := (hF.r hx (by rw [kx]; rfl)).trans hr2
  have z39 : q_r f1 x 3 = fc := (hF.r hx (by rw [kx]; rfl)).trans hr3
  have z40 : q_r f1 x 4 = hist := (hF.r hx (by rw [kx]; rfl)).trans hr4
  have z41 : q_r f1 x 5 = rep := (hF.r hx (by rw [kx]; rfl)).trans hr5
  have z42 : q_r f1 x 6 = now := (hF.r hx (by rw [kx]; rfl)).trans hr6
  have z43 : q_r f1 x 7 = dr := (hF.r hx (by rw [kx]; rfl)).trans hr7
  have z44 : q_r f1 x 8 = sv := (hF.r hx (by rw [kx]; rfl)).trans hr8
  have z45 : q_r f1 fc 0 = tr := (hF.r hfc (by rw [kfc]; rfl)).trans hr9
  have z46 : q_r f1 mo 1 = bu := (hF.r hmo (by rw [kmo]; rfl)).trans hr10
  have z47 : q_r f1 mo 13 = sr := (hF.r hmo (by rw [kmo]; rfl)).trans hr11
  have z48 : q_r f1 mo 14 = sd := (hF.r hmo (by rw [kmo]; rfl)).trans hr12
  have z49 : q_r f1 mo 15 = as := (hF.r hmo (by rw [kmo]; rfl)).trans hr13
  have z50 : q_r f1 mo 16 = aw := (hF.r hmo (by rw [kmo]; rfl)).trans hr14
  have z51 : q_r f1 mo 17 = pa := (hF.r hmo (by rw [kmo]; rfl)).trans hr15
  have z52 : q_r f1 mo 18 = nm := (hF.r hmo (by rw [kmo]; rfl)).trans hr16
  have z53 : q_r f1 mo 19 = snm := (hF.r hmo (by rw [kmo]; rfl)).trans hr17
  have z54 : q_r f1 mo 20 = anm := (hF.r hmo (by rw [kmo]; rfl)).trans hr18
  subst qy2
  refine lv_istore (lv' := [(6, .int (q_i 1)), (5, .int (q_i 0)), (0, .ref b), (1, .ref x), (2, .ref mo), (3, .ref out), (4, .ref outD)]) cx.1 cx.2.1 dL_law_1540 hl (by decide) rfl (fun ls hl => ?_)
  refine q_ald_n cx dL_law_1542 rfl (lv_at hl 4 rfl) ?_
  refine q_ald_n cx dL_law_1543 rfl (lv_at hl 2 rfl) ?_
  refine lv_iload cx.1 cx.2.1 dL_law_1544 (lv_at hl 1 rfl) ?_
  refine q_iconst cx dL_law_1546 ?_
  refine q_iadd cx dL_law_1547 ?_
  refine va_sld cx.1 cx.2.1 hXs hbl hbA hB.1.2.2.2 (q_in (by decide) (by decide) (by decide)) dL_law_1548 ?_
  rw [show (q_i (0 + 1)).toNatClampNeg = 1 from by decide, ex1]
  refine q_ald_n cx dL_law_1549 rfl (lv_at hl 2 rfl) ?_
  refine lv_iload cx.1 cx.2.1 dL_law_1550 (lv_at hl 1 rfl) ?_
  refine q_iconst cx dL_law_1552 ?_
  refine q_iadd cx dL_law_1553 ?_
  refine va_sld cx.1 cx.2.1 hXs hbl hbA hB.1.2.2.2 (q_in (by decide) (by decide) (by decide)) dL_law_1554 ?_
  rw [show (q_i (0 + 2)).toNatClampNeg = 2 from by decide, ex2]
  refine q_cVi (As := [.int (q_i x1), .int (q_i x2)]) (rest := []) cx hB (fun q h => hLA q h) hN hmo kmo (by decide) rfl (p_energyIn l g hN hB.2.1 mo hmo kmo x1 (by omega) (by omega) x2 (by omega) (by omega) bu hbu kbu sr hsr ksr sd hsd ksd as has kas aw haw kaw pa hpa kpa nm hnm knm snm hsnm ksnm anm hanm kanm z18 z19 z20 z21 z22 z23 z24 z25 z26 z27 z28 z29 z30 z31 z32 z33 z34 z35 z46 z47 z48 z49 z50 z51 z52 z53 z54) q_cL_210 q_dX12_energyIn (by decide) rfl rfl hl.1 rfl (Nat.le_of_ble_eq_true rfl) dL_law_1555 (fun y56 H locs f55 ry56 h57 hF hB => ?_)
  obtain ⟨qy56, z58⟩ := h57
  have z59 : q_z f55 x 9 = 0 := (hF.z hx (by rw [kx]; rfl)).trans z4
  have z60 : q_z f55 src 1 = 0 := (hF.z hsrc (by rw [ksrc]; rfl)).trans z5
  have z61 : q_z f55 src 2 = 0 := (hF.z hsrc (by rw [ksrc]; rfl)).trans z6
  have z62 : q_z f55 src 3 = (-1) := (hF.z hsrc (by rw [ksrc]; rfl)).trans z7
  have z63 : q_z f55 hist 1 = 0 := (hF.z hhist (by rw [khist]; rfl)).trans z8
  have z64 : q_z f55 hist 2 = 0 := (hF.z hhist (by rw [khist]; rfl)).trans z9
  have z65 : q_z f55 rep 1 = 0 := (hF.z hrep (by rw [krep]; rfl)).trans z10
  have z66 : q_z f55 now 3 = 0 := (hF.z hnow (by rw [know]; rfl)).trans z11
  have z67 : q_z f55 now 4 = 0 := (hF.z hnow (by rw [know]; rfl)).trans z12
  have z68 : q_z f55 now 5 = 0 := (hF.z hnow (by rw [know]; rfl)).trans z13
  have z69 : q_z f55 now 6 = 12 := (hF.z hnow (by rw [know]; rfl)).trans z14
  have z70 : q_z f55 now 10 = 3 := (hF.z hnow (by rw [know]; rfl)).trans z15
  have z71 : q_z f55 now 11 = 0 := (hF.z hnow (by rw [know]; rfl)).trans z16
  have z72 : q_z f55 now 12 = 0 := (hF.z hnow (by rw [know]; rfl)).trans z17
  have z73 : q_r f55 x 0 = src := (hF.r hx (by rw [kx]; rfl)).trans z36
  have z74 : q_r f55 x 1 = rdr := (hF.r hx (by rw [kx]; rfl)).trans z37
  have z75 : q_r f55 x 2 = scr := (hF.r hx (by rw [kx]; rfl)).trans z38
  have z76 : q_r f55 x 3 = fc := (hF.r hx (by rw [kx]; rfl)).trans z39
  have z77 : q_r f55 x 4 = hist := (hF.r hx (by rw [kx]; rfl)).trans z40
  have z78 : q_r f55 x 5 = rep := (hF.r hx (by rw [kx]; rfl)).trans z41
  have z79 : q_r f55 x 6 = now := (hF.r hx (by rw [kx]; rfl)).trans z42
  have z80 : q_r f55 x 7 = dr := (hF.r hx (by rw [kx]; rfl)).trans z43
  have z81 : q_r f55 x 8 = sv := (hF.r hx (by rw [kx]; rfl)).trans z44
  have z82 : q_r f55 fc 0 = tr := (hF.r hfc (by rw [kfc]; rfl)).trans z45
  subst qy56
  refine lv_istore (lv' := [(7, .int (q_i 0)), (6, .int (q_i 1)), (5, .int (q_i 0)), (0, .ref b), (1, .ref x), (2, .ref mo), (3, .ref out), (4, .ref outD)]) cx.1 cx.2.1 dL_law_1558 hl (by decide) rfl (fun ls hl => ?_)
  refine q_ald_n cx dL_law_1560 rfl (lv_at hl 5 rfl) ?_
  refine q_cVi (As := []) (rest := []) cx hB (fun q h => hLA q h) hN hmo kmo (by decide) rfl (r_thrown l g hN hB.2.1 mo hmo kmo 1 (by decide) (by decide) z58) q_cL_124 q_dX12_thrown (by decide) rfl rfl hl.1 rfl (Nat.le_of_ble_eq_true rfl) dL_law_1561 (fun y84 H locs f83 ry84 h85 hF hB => ?_)
  obtain ⟨rfl, qy84⟩ := h85
  subst qy84
  refine lv_iload cx.1 cx.2.1 dL_law_1564 (lv_at hl 1 rfl) ?_
  refine q_iceq (tgt := 1571) cx ⟨by decide, by decide⟩ ⟨by decide, by decide⟩ dL_law_1566 (by decide) (fun c86 => ?_) (fun c86 => ?_)
  · refine lv_iload cx.1 cx.2.1 dL_law_1571 (lv_at hl 1 rfl) ?_
    refine q_ifne (tgt := 1588) cx ⟨by decide, by decide⟩ dL_law_1573 (by decide) (fun c87 => ?_) (fun c87 => ?_)
    · refine lv_goto (tgt := 2394) cx.1 cx.2.1 dL_law_1588 (by decide) ?_
      refine q_iinc (lv' := [(5, .int (q_i (0 + 6))), (7, .int (q_i 0)), (6, .int (q_i 1)), (0, .ref b), (1, .ref x), (2, .ref mo), (3, .ref out), (4, .ref outD)]) cx dL_law_2394 hl (k := 2) rfl (by decide) rfl (fun ls hl => ?_)
      refine lv_goto (tgt := 28) cx.1 cx.2.1 dL_law_2397 (by decide) ?_
      refine lv_iload cx.1 cx.2.1 dL_law_28 (lv_at hl 0 rfl) ?_
      refine q_ald_n cx dL_law_30 rfl (lv_at hl 3 rfl) ?_
      refine va_slen cx.1 cx.2.1 hXs hbl hbA hB.1.2.2.2 dL_law_31 ?_
      rw [show Int32.ofNat 6 = q_i 6 from by decide]
      refine q_bipush cx dL_law_32 rfl ?_
      refine q_isub cx dL_law_34 ?_
      refine q_icgt (tgt := 2400) cx ⟨by decide, by decide⟩ ⟨by decide, by decide⟩ dL_law_35 (by decide) (fun c88 => ?_) (fun c88 => ?_)
      · refine q_iconst cx dL_law_2400 ?_
        exact q_lawret C0 hB (by decide) (by decide) dL_law_2401
      · exact absurd c88 (by omega)
    · exact absurd c87 (by omega)
  · exact absurd c86 (by omega)
set_option maxHeartbeats 4000000 in
set_option maxRecDepth 100000 in
theorem law_c1591 {p : Program} {l : Launch} {e : Env} {s : State} {m : MethodId} {below : List Frame} {meth : Method} {c : Code} {b : Nat} {xs : Nat → Int32} (hfl : l.stackTraces = false) (C0 : lw_At p s m meth c b 6 xs) (cx : CallFix p m c cL_law 10 s #[Value.ref b] q_al RL) {g : q_G} {K : Nat → Nat} {L : List Nat} {f : Nat → va_E} {H : Heap} {locs : List Loc} {ls : Array Slot} (hN : L.Nodup) (hLA : ∀ q, q ∈ L → s.heap.size ≤ q) (hX : q_X (fun q => q ∈ L) s) (hB : q_B g K L (fun q => s.heap.size ≤ q) [(2, 1, 2), (6, 1, 1), (7, 1, 4), (8, 1, 9), (9, 0, 2), (10, 3, 15), (11, 9, 9), (12, 0, 40), (13, 3, 15), (14, 3, 15), (15, 3, 15), (16, 3, 15), (142, 0, 599), (150, 0, 599), (151, 0, 657), (152, 0, 657), (153, 0, 657), (154, 0, 657), (155, 0, 3947), (156, 0, 9), (157, 0, 9), (158, 0, 9), (168, 0, 0), (169, 0, 0)] f f s H locs) {x : Nat} (hx : x ∈ L) (kx : K x = 11) {src : Nat} (hsrc : src ∈ L) (ksrc : K src = 8) {rdr : Nat} (hrdr : rdr ∈ L) (krdr : K rdr = 9) {scr : Nat} (hscr : scr ∈ L) (kscr : K scr = 7) {fc : Nat} (hfc : fc ∈ L) (kfc : K fc = 1) {hist : Nat} (hhist : hist ∈ L) (khist : K hist = 2) {rep : Nat} (hrep : rep ∈ L) (krep : K rep = 6) {now : Nat} (hnow : now ∈ L) (know : K now = 10) {dr : Nat} (hdr : dr ∈ L) (kdr : K dr = 13) {sv : Nat} (hsv : sv ∈ L) (ksv : K sv = 14) {tr : Nat} (htr : tr ∈ L) (ktr : K tr = 15) {mo : Nat} (hmo : mo ∈ L) (kmo : K mo = 12) {bu : Nat} (hbu : bu ∈ L) (kbu : K bu = 150) {sr : Nat} (hsr : sr ∈ L) (ksr : K sr = 151) {sd : Nat} (hsd : sd ∈ L) (ksd : K sd = 152) {as : Nat} (has : as ∈ L) (kas : K as = 153) {aw : Nat} (haw : aw ∈ L) (kaw : K aw = 154) {pa : Nat} (hpa : pa ∈ L) (kpa : K pa = 155) {nm : Nat} (hnm : nm ∈ L) (knm : K nm = 156) {snm : Nat} (hsnm : snm ∈ L) (ksnm : K snm = 157) {anm : Nat} (hanm : anm ∈ L) (kanm : K anm = 158) {out : Nat} (hout : out ∈ L) (kout : K out = 168) {outD : Nat} (houtD : outD ∈ L) (koutD : K outD = 169) (hf0 : q_z f x 9 = 0) (hf1 : q_z f src 1 = 0) (hf2 : q_z f src 2 = 0) (hf3 : q_z f src 3 = (-1)) (hf4 : q_z f hist 1 = 0) (hf5 : q_z f hist 2 = 0) (hf6 : q_z f rep 1 = 0) (hf7 : q_z f now 3 = 0) (hf8 : q_z f now 4 = 0) (hf9 : q_z f now 5 = 0) (hf10 : q_z f now 6 = 12) (hf11 : q_z f now 10 = 3) (hf12 : q_z f now 11 = 0) (hf13 : q_z f now 12 = 0) (hf14 : q_z f mo 2 = 0) (hf15 : q_z f mo 8 = 0) (hf16 : q_z f mo 9 = (-1)) (hf17 : q_z f mo 10 = 0) (hf18 : q_z f mo 11 = (-1)) (hf19 : q_z f mo 21 = 0) (hf20 : q_z f mo 22 = 0) (hf21 : q_z f mo 40 = 0) (hf22 : q_z f sr 0 = 0) (hf23 : q_z f sr 1 = 0) (hf24 : q_z f sr 2 = 12) (hf25 : q_z f sr 3 = 0) (hf26 : q_z f sr 4 = 0) (hf27 : q_z f sr 5 = 1) (hf28 : q_z f sr 6 = 2) (hf29 : q_z f sr 7 = 5) (hf30 : q_z f sr 8 = 3) (hf31 : q_z f sr 9 = 0) (hr0 : q_r f x 0 = src) (hr1 : q_r f x 1 = rdr) (hr2 : q_r f x 2 = scr) (hr3 : q_r f x 3 = fc) (hr4 : q_r f x 4 = hist) (hr5 : q_r f x 5 = rep) (hr6 : q_r f x 6 = now) (hr7 : q_r f x 7 = dr) (hr8 : q_r f x 8 = sv) (hr9 : q_r f fc 0 = tr) (hr10 : q_r f mo 1 = bu) (hr11 : q_r f mo 13 = sr) (hr12 : q_r f mo 14 = sd) (hr13 : q_r f mo 15 = as) (hr14 : q_r f mo 16 = aw) (hr15 : q_r f mo 17 = pa) (hr16 : q_r f mo 18 = nm) (hr17 : q_r f mo 19 = snm) (hr18 : q_r f mo 20 = anm) (hl : lv_has ls 10 [(5, .int (q_i 0)), (0, .ref b), (1, .ref x), (2, .ref mo), (3, .ref out), (4, .ref outD)]) : W p l e room_1 s m #[Value.ref b] below meth c H locs 1100 20000 (lw_Z below #[Value.ref b] s) (F0 m 1591 ls []) := by
  have hXs := C0.2.2.2.2.2.2.1
  have hbl := C0.2.2.2.2.2.2.2.1
  have hbA := q_bA hbl
  obtain ⟨x0, rx0, ex0⟩ : ∃ z : Int, q_R z ∧ xs 0 = q_i z := ⟨_, q_rng _, (q_of _).symm⟩
  have lx0 := rx0.1
  have ux0 := rx0.2
  obtain ⟨x1, rx1, ex1⟩ : ∃ z : Int, q_R z ∧ xs 1 = q_i z := ⟨_, q_rng _, (q_of _).symm⟩
  have lx1 := rx1.1
  have ux1 := rx1.2
  obtain ⟨x2, rx2, ex2⟩ : ∃ z : Int, q_R z ∧ xs 2 = q_i z := ⟨_, q_rng _, (q_of _).symm⟩
  have lx2 := rx2.1
  have ux2 := rx2.2
  obtain ⟨x3, rx3, ex3⟩ : ∃ z : Int, q_R z ∧ xs 3 = q_i z := ⟨_, q_rng _, (q_of _).symm⟩
  have lx3 := rx3.1
  have ux3 := rx3.2
  obtain ⟨x4, rx4, ex4⟩ : ∃ z : Int, q_R z ∧ xs 4 = q_i z := ⟨_, q_rng _, (q_of _).symm⟩
  have lx4 := rx4.1
  have ux4 := rx4.2
  obtain ⟨x5, rx5, ex5⟩ : ∃ z : Int, q_R z ∧ xs 5 = q_i z := ⟨_, q_rng _, (q_of _).symm⟩
  have lx5 := rx5.1
  have ux5 := rx5.2
  refine q_ald_n cx dL_law_1591 rfl (lv_at hl 2 rfl) ?_
  refine q_cVi (As := []) (rest := []) cx hB (fun q h => hLA q h) hN hx kx (by decide) rfl (x_takesIn l g hN hB.2.1 x hx kx src hsrc ksrc rdr hrdr krdr scr hscr kscr fc hfc kfc hist hhist khist rep hrep krep now hnow know dr hdr kdr sv hsv ksv tr htr ktr hf0 hf1 hf2 hf3 hf4 hf5 hf6 hf7 hf8 hf9 hf10 hf11 hf12 hf13 hr0 hr1 hr2 hr3 hr4 hr5 hr6 hr7 hr8 hr9) q_cL_211 q_dX11_takesIn (by decide) rfl rfl hl.1 rfl (Nat.le_of_ble_eq_true rfl) dL_law_1592 (fun y2 H locs f1 ry2 h3 hF hB => ?_)
  have qy2 := h3
  have z4 : q_z f1 mo 2 = 0 := (hF.z hmo (by rw [kmo]; rfl)).trans hf14
  have z5 : q_z f1 mo 8 = 0 := (hF.z hmo (by rw [kmo]; rfl)).trans hf15
  have z6 : q_z f1 mo 9 = (-1) := (hF.z hmo (by rw [kmo]; rfl)).trans hf16
  have z7 : q_z f1 mo 10 = 0 := (hF.z hmo (by rw [kmo]; rfl)).trans hf17
  have z8 : q_z f1 mo 11 = (-1) := (hF.z hmo (by rw [kmo]; rfl)).trans hf18
  have z9 : q_z f1 mo 21 = 0 := (hF.z hmo (by rw [kmo]; rfl)).trans hf19
  have z10 : q_z f1 mo 22 = 0 := (hF.z hmo (by rw [kmo]; rfl)).trans hf20
  have z11 : q_z f1 mo 40 = 0 := (hF.z hmo (by rw [kmo]; rfl)).trans hf21
  have z12 : q_z f1 sr 0 = 0 := (hF.z hsr (by rw [ksr]; rfl)).trans hf22
  have z13 : q_z f1 sr 1 = 0 := (hF.z hsr (by rw [ksr]; rfl)).trans hf23
  have z14 : q_z f1 sr 2 = 12 := (hF.z hsr (by rw [ksr]; rfl)).trans hf24
  have z15 : q_z f1 sr 3 = 0 := (hF.z hsr (by rw [ksr]; rfl)).trans hf25
  have z16 : q_z f1 sr 4 = 0 := (hF.z hsr (by rw [ksr]; rfl)).trans hf26
  have z17 : q_z f1 sr 5 = 1 := (hF.z hsr (by rw [ksr]; rfl)).trans hf27
  have z18 : q_z f1 sr 6 = 2 := (hF.z hsr (by rw [ksr]; rfl)).trans hf28
  have z19 : q_z f1 sr 7 = 5 := (hF.z hsr (by rw [ksr]; rfl)).trans hf29
  have z20 : q_z f1 sr 8 = 3 := (hF.z hsr (by rw [ksr]; rfl)).trans hf30
  have z21 : q_z f1 sr 9 = 0 := (hF.z hsr (by rw [ksr]; rfl)).trans hf31
  have z22 : q_r f1 x 0 = src := (hF.r hx (by rw [kx]; rfl)).trans hr0
  have z23 : q_r f1 x 1 = rdr := (hF.r hx (by rw [kx]; rfl)).trans hr1
  have z24 : q_r f1 x 2 = scr := (hF.r hx (by rw [kx]; rfl)).trans hr2
  have z25 : q_r f1 x 3 = fc := (hF.r hx (by rw [kx]; rfl)).trans hr3
  have z26 : q_r f1 x 4 = hist := (hF.r hx (by rw [kx]; rfl)).trans hr4
  have z27 : q_r f1 x 5 = rep := (hF.r hx (by rw [kx]; rfl)).trans hr5
  have z28 : q_r f1 x 6 = now := (hF.r hx (by rw [kx]; rfl)).trans hr6
  have z29 : q_r f1 x 7 = dr := (hF.r hx (by rw [kx]; rfl)).trans hr7
  have z30 : q_r f1 x 8 = sv := (hF.r hx (by rw [kx]; rfl)).trans hr8
  have z31 : q_r f1 fc 0 = tr := (hF.r hfc (by rw [kfc]; rfl)).trans hr9
  have z32 : q_r f1 mo 1 = bu := (hF.r hmo (by rw [kmo]; rfl)).trans hr10
  have z33 : q_r f1 mo 13 = sr := (hF.r hmo (by rw [kmo]; rfl)).trans hr11
  have z34 : q_r f1 mo 14 = sd := (hF.r hmo (by rw [kmo]; rfl)).trans hr12
  have z35 : q_r f1 mo 15 = as := (hF.r hmo (by rw [kmo]; rfl)).trans hr13
  have z36 : q_r f1 mo 16 = aw := (hF.r hmo (by rw [kmo]; rfl)).trans hr14
  have z37 : q_r f1 mo 17 = pa := (hF.r hmo (by rw [kmo]; rfl)).trans hr15
  have z38 : q_r f1 mo 18 = nm := (hF.r hmo (by rw [kmo]; rfl)).trans hr16
  have z39 : q_r f1 mo 19 = snm := (hF.r hmo (by rw [kmo]; rfl)).trans hr17
  have z40 : q_r f1 mo 20 = anm := (hF.r hmo (by rw [kmo]; rfl)).trans hr18
  subst qy2
  refine q_ald_n cx dL_law_1595 rfl (lv_at hl 3 rfl) ?_
  refine q_cVi (As := []) (rest := [.int (q_i (-1))]) cx hB (fun q h => hLA q h) hN hmo kmo (by decide) rfl (p_takesIn l g hN hB.2.1 mo hmo kmo bu hbu kbu sr hsr ksr sd hsd ksd as has kas aw haw kaw pa hpa kpa nm hnm knm snm hsnm ksnm anm hanm kanm z4 z5 z6 z7 z8 z9 z10 z11 z12 z13 z14 z15 z16 z17 z18 z19 z20 z21 z32 z33 z34 z35 z36 z37 z38 z39 z40) q_cL_214 q_dX12_takesIn (by decide) rfl rfl hl.1 rfl (Nat.le_of_ble_eq_true rfl) dL_law_1596 (fun y42 H locs f41 ry42 h43 hF hB => ?_)
  obtain ⟨qy42, z44⟩ := h43
  have z45 : q_r f41 x 0 = src := (hF.r hx (by rw [kx]; rfl)).trans z22
  have z46 : q_r f41 x 1 = rdr := (hF.r hx (by rw [kx]; rfl)).trans z23
  have z47 : q_r f41 x 2 = scr := (hF.r hx (by rw [kx]; rfl)).trans z24
  have z48 : q_r f41 x 3 = fc := (hF.r hx (by rw [kx]; rfl)).trans z25
  have z49 : q_r f41 x 4 = hist := (hF.r hx (by rw [kx]; rfl)).trans z26
  have z50 : q_r f41 x 5 = rep := (hF.r hx (by rw [kx]; rfl)).trans z27
  have z51 : q_r f41 x 6 = now := (hF.r hx (by rw [kx]; rfl)).trans z28
  have z52 : q_r f41 x 7 = dr := (hF.r hx (by rw [kx]; rfl)).trans z29
  have z53 : q_r f41 x 8 = sv := (hF.r hx (by rw [kx]; rfl)).trans z30
  have z54 : q_r f41 fc 0 = tr := (hF.r hfc (by rw [kfc]; rfl)).trans z31
  subst qy42
  refine q_iceq (tgt := 2394) cx ⟨by decide, by decide⟩ ⟨by decide, by decide⟩ dL_law_1599 (by decide) (fun c55 => ?_) (fun c55 => ?_)
  · refine q_iinc (lv' := [(5, .int (q_i (0 + 6))), (0, .ref b), (1, .ref x), (2, .ref mo), (3, .ref out), (4, .ref outD)]) cx dL_law_2394 hl (k := 0) rfl (by decide) rfl (fun ls hl => ?_)
    refine lv_goto (tgt := 28) cx.1 cx.2.1 dL_law_2397 (by decide) ?_
    refine lv_iload cx.1 cx.2.1 dL_law_28 (lv_at hl 0 rfl) ?_
    refine q_ald_n cx dL_law_30 rfl (lv_at hl 1 rfl) ?_
    refine va_slen cx.1 cx.2.1 hXs hbl hbA hB.1.2.2.2 dL_law_31 ?_
    rw [show Int32.ofNat 6 = q_i 6 from by decide]
    refine q_bipush cx dL_law_32 rfl ?_
    refine q_isub cx dL_law_34 ?_
    refine q_icgt (tgt := 2400) cx ⟨by decide, by decide⟩ ⟨by decide, by decide⟩ dL_law_35 (by decide) (fun c56 => ?_) (fun c56 => ?_)
    · refine q_iconst cx dL_law_2400 ?_
      exact q_lawret C0 hB (by decide) (by decide) dL_law_2401
    · exact absurd c56 (by omega)
  · exact absurd c55 (by omega)
set_option maxHeartbeats 4000000 in
set_option maxRecDepth 100000 in
theorem law_c1604 {p : Program} {l : Launch} {e : Env} {s : State} {m : MethodId} {below : List Frame} {meth : Method} {c : Code} {b : Nat} {xs : Nat → Int32} (hfl : l.stackTraces = false) (C0 : lw_At p s m meth c b 6 xs) (cx : CallFix p m c cL_law 10 s #[Value.ref b] q_al RL) {g : q_G} {K : Nat → Nat} {L : List Nat} {f : Nat → va_E} {H : Heap} {locs : List Loc} {ls : Array Slot} (hN : L.Nodup) (hLA : ∀ q, q ∈ L → s.heap.size ≤ q) (hX : q_X (fun q => q ∈ L) s) (hB : q_B g K L (fun q => s.heap.size ≤ q) [(2, 1, 2), (6, 1, 1), (7, 1, 4), (8, 1, 9), (9, 0, 2), (10, 3, 15), (11, 9, 9), (12, 0, 40), (13, 3, 15), (14, 3, 15), (15, 3, 15), (16, 3, 15), (142, 0, 599), (150, 0, 599), (151, 0, 657), (152, 0, 657), (153, 0, 657), (154, 0, 657), (155, 0, 3947), (156, 0, 9), (157, 0, 9), (158, 0, 9), (168, 0, 0), (169, 0, 0)] f f s H locs) {x : Nat} (hx : x ∈ L) (kx : K x = 11) {src : Nat} (hsrc : src ∈ L) (ksrc : K src = 8) {rdr : Nat} (hrdr : rdr ∈ L) (krdr : K rdr = 9) {scr : Nat} (hscr : scr ∈ L) (kscr : K scr = 7) {fc : Nat} (hfc : fc ∈ L) (kfc : K fc = 1) {hist : Nat} (hhist : hist ∈ L) (khist : K hist = 2) {rep : Nat} (hrep : rep ∈ L) (krep : K rep = 6) {now : Nat} (hnow : now ∈ L) (know : K now = 10) {dr : Nat} (hdr : dr ∈ L) (kdr : K dr = 13) {sv : Nat} (hsv : sv ∈ L) (ksv : K sv = 14) {tr : Nat} (htr : tr ∈ L) (ktr : K tr = 15) {mo : Nat} (hmo : mo ∈ L) (kmo : K mo = 12) {bu : Nat} (hbu : bu ∈ L) (kbu : K bu = 150) {sr : Nat} (hsr : sr ∈ L) (ksr : K sr = 151) {sd : Nat} (hsd : sd ∈ L) (ksd : K sd = 152) {as : Nat} (has : as ∈ L) (kas : K as = 153) {aw : Nat} (haw : aw ∈ L) (kaw : K aw = 154) {pa : Nat} (hpa : pa ∈ L) (kpa : K pa = 155) {nm : Nat} (hnm : nm ∈ L) (knm : K nm = 156) {snm : Nat} (hsnm : snm ∈ L) (ksnm : K snm = 157) {anm : Nat} (hanm : anm ∈ L) (kanm : K anm = 158) {out : Nat} (hout : out ∈ L) (kout : K out = 168) {outD : Nat} (houtD : outD ∈ L) (koutD : K outD = 169) (hf0 : q_z f x 9 = 0) (hf1 : q_z f src 1 = 0) (hf2 : q_z f src 2 = 0) (hf3 : q_z f src 3 = (-1)) (hf4 : q_z f hist 1 = 0) (hf5 : q_z f hist 2 = 0) (hf6 : q_z f rep 1 = 0) (hf7 : q_z f now 3 = 0) (hf8 : q_z f now 4 = 0) (hf9 : q_z f now 5 = 0) (hf10 : q_z f now 6 = 12) (hf11 : q_z f now 10 = 3) (hf12 : q_z f now 11 = 0) (hf13 : q_z f now 12 = 0) (hf14 : q_z f mo 2 = 0) (hf15 : q_z f mo 8 = 0) (hf16 : q_z f mo 9 = (-1)) (hf17 : q_z f mo 10 = 0) (hf18 : q_z f mo 11 = (-1)) (hf19 : q_z f mo 21 = 0) (hf20 : q_z f mo 22 = 0) (hf21 : q_z f mo 40 = 0) (hf22 : q_z f sr 0 = 0) (hf23 : q_z f sr 1 = 0) (hf24 : q_z f sr 2 = 12) (hf25 : q_z f sr 3 = 0) (hf26 : q_z f sr 4 = 0) (hf27 : q_z f sr 5 = 1) (hf28 : q_z f sr 6 = 2) (hf29 : q_z f sr 7 = 5) (hf30 : q_z f sr 8 = 3) (hf31 : q_z f sr 9 = 0) (hr0 : q_r f x 0 = src) (hr1 : q_r f x 1 = rdr) (hr2 : q_r f x 2 = scr) (hr3 : q_r f x 3 = fc) (hr4 : q_r f x 4 = hist) (hr5 : q_r f x 5 = rep) (hr6 : q_r f x 6 = now) (hr7 : q_r f x 7 = dr) (hr8 : q_r f x 8 = sv) (hr9 : q_r f fc 0 = tr) (hr10 : q_r f mo 1 = bu) (hr11 : q_r f mo 13 = sr) (hr12 : q_r f mo 14 = sd) (hr13 : q_r f mo 15 = as) (hr14 : q_r f mo 16 = aw) (hr15 : q_r f mo 17 = pa) (hr16 : q_r f mo 18 = nm) (hr17 : q_r f mo 19 = snm) (hr18 : q_r f mo 20 = anm) (hl : lv_has ls 10 [(5, .int (q_i 0)), (0, .ref b), (1, .ref x), (2, .ref mo), (3, .ref out), (4, .ref outD)]) : W p l e room_1 s m #[Value.ref b] below meth c H locs 1100 20000 (lw_Z below #[Value.ref b] s) (F0 m 1604 ls []) := by
  have hXs := C0.2.2.2.2.2.2.1
  have hbl := C0.2.2.2.2.2.2.2.1
  have hbA := q_bA hbl
  obtain ⟨x0, rx0, ex0⟩ : ∃ z : Int, q_R z ∧ xs 0 = q_i z := ⟨_, q_rng _, (q_of _).symm⟩
  have lx0 := rx0.1
  have ux0 := rx0.2
  obtain ⟨x1, rx1, ex1⟩ : ∃ z : Int, q_R z ∧ xs 1 = q_i z := ⟨_, q_rng _, (q_of _).symm⟩
  have lx1 := rx1.1
  have ux1 := rx1.2
  obtain ⟨x2, rx2, ex2⟩ : ∃ z : Int, q_R z ∧ xs 2 = q_i z := ⟨_, q_rng _, (q_of _).symm⟩
  have lx2 := rx2.1
  have ux2 := rx2.2
  obtain ⟨x3, rx3, ex3⟩ : ∃ z : Int, q_R z ∧ xs 3 = q_i z := ⟨_, q_rng _, (q_of _).symm⟩
  have lx3 := rx3.1
  have ux3 := rx3.2
  obtain ⟨x4, rx4, ex4⟩ : ∃ z : Int, q_R z ∧ xs 4 = q_i z := ⟨_, q_rng _, (q_of _).symm⟩
  have lx4 := rx4.1
  have ux4 := rx4.2
  obtain ⟨x5, rx5, ex5⟩ : ∃ z : Int, q_R z ∧ xs 5 = q_i z := ⟨_, q_rng _, (q_of _).symm⟩
  have lx5 := rx5.1
  have ux5 := rx5.2
  refine q_ald_n cx dL_law_1604 rfl (lv_at hl 2 rfl) ?_
  refine q_ald_n cx dL_law_1605 rfl (lv_at hl 1 rfl) ?_
  refine lv_iload cx.1 cx.2.1 dL_law_1606 (lv_at hl 0 rfl) ?_
  refine q_iconst cx dL_law_1608 ?_
  refine q_iadd cx dL_law_1609 ?_
  refine va_sld cx.1 cx.2.1 hXs hbl hbA hB.1.2.2.2 (q_in (by decide) (by decide) (by decide)) dL_law_1610 ?_
  rw [show (q_i (0 + 1)).toNatClampNeg = 1 from by decide, ex1]
  refine q_ald_n cx dL_law_1611 rfl (lv_at hl 4 rfl) ?_
  refine q_cWS (As := [.ref x, .int (q_i x1), .ref out]) (rest := []) cx hX hB (fun q h => hLA q h) (fun q h1 h2 => absurd h1 (Nat.not_le_of_lt h2)) hN (w_bestShift l g hN hB.2.1 hfl x hx kx x1 (by omega) (by omega) out hout kout src hsrc ksrc rdr hrdr krdr scr hscr kscr fc hfc kfc hist hhist khist rep hrep krep now hnow know dr hdr kdr sv hsv ksv tr htr ktr hf0 hf1 hf2 hf3 hf4 hf5 hf6 hf7 hf8 hf9 hf10 hf11 hf12 hf13 hr0 hr1 hr2 hr3 hr4 hr5 hr6 hr7 hr8 hr9) q_cL_215 q_dL_bestShift (by decide) rfl rfl hl.1 rfl (Nat.le_of_ble_eq_true rfl) dL_law_1612 (fun v9 H locs f1 h3 hF hB => ?_)
  obtain ⟨y2, rfl, ry2, h3⟩ := h3
  refine W.eq (g2 := F0 m 1615 ls [.int (q_i y2)]) rfl ?_
  have qy2 := h3
  have z4 : q_z f1 x 9 = 0 := (hF.z hx (by rw [kx]; rfl)).trans hf0
  have z5 : q_z f1 src 1 = 0 := (hF.z hsrc (by rw [ksrc]; rfl)).trans hf1
  have z6 : q_z f1 src 2 = 0 := (hF.z hsrc (by rw [ksrc]; rfl)).trans hf2
  have z7 : q_z f1 src 3 = (-1) := (hF.z hsrc (by rw [ksrc]; rfl)).trans hf3
  have z8 : q_z f1 hist 1 = 0 := (hF.z hhist (by rw [khist]; rfl)).trans hf4
  have z9 : q_z f1 hist 2 = 0 := (hF.z hhist (by rw [khist]; rfl)).trans hf5
  have z10 : q_z f1 rep 1 = 0 := (hF.z hrep (by rw [krep]; rfl)).trans hf6
  have z11 : q_z f1 now 3 = 0 := (hF.z hnow (by rw [know]; rfl)).trans hf7
  have z12 : q_z f1 now 4 = 0 := (hF.z hnow (by rw [know]; rfl)).trans hf8
  have z13 : q_z f1 now 5 = 0 := (hF.z hnow (by rw [know]; rfl)).trans hf9
  have z14 : q_z f1 now 6 = 12 := (hF.z hnow (by rw [know]; rfl)).trans hf10
  have z15 : q_z f1 now 10 = 3 := (hF.z hnow (by rw [know]; rfl)).trans hf11
  have z16 : q_z f1 now 11 = 0 := (hF.z hnow (by rw [know]; rfl)).trans hf12
  have z17 : q_z f1 now 12 = 0 := (hF.z hnow (by rw [know]; rfl)).trans hf13
  have z18 : q_z f1 mo 2 = 0 := (hF.z hmo (by rw [kmo]; rfl)).trans hf14
  have z19 : q_z f1 mo 8 = 0 := (hF.z hmo (by rw [kmo]; rfl)).trans hf15
  have z20 : q_z f1 mo 9 = (-1) := (hF.z hmo (by rw [kmo]; rfl)).trans hf16
  have z21 : q_z f1 mo 10 = 0 := (hF.z hmo (by rw [kmo]; rfl)).trans hf17
  have z22 : q_z f1 mo 11 = (-1) := (hF.z hmo (by rw [kmo]; rfl)).trans hf18
  have z23 : q_z f1 mo 21 = 0 := (hF.z hmo (by rw [kmo]; rfl)).trans hf19
  have z24 : q_z f1 mo 22 = 0 := (hF.z hmo (by rw [kmo]; rfl)).trans hf20
  have z25 : q_z f1 mo 40 = 0 := (hF.z hmo (by rw [kmo]; rfl)).trans hf21
  have z26 : q_z f1 sr 0 = 0 := (hF.z hsr (by rw [ksr]; rfl)).trans hf22
  have z27 : q_z f1 sr 1 = 0 := (hF.z hsr (by rw [ksr]; rfl)).trans hf23
  have z28 : q_z f1 sr 2 = 12 := (hF.z hsr (by rw [ksr]; rfl)).trans hf24
  have z29 : q_z f1 sr 3 = 0 := (hF.z hsr (by rw [ksr]; rfl)).trans hf25
  have z30 : q_z f1 sr 4 = 0 := (hF.z hsr (by rw [ksr]; rfl)).trans hf26
  have z31 : q_z f1 sr 5 = 1 := (hF.z hsr (by rw [ksr]; rfl)).trans hf27
  have z32 : q_z f1 sr 6 = 2 := (hF.z hsr (by rw [ksr]; rfl)).trans hf28
  have z33 : q_z f1 sr 7 = 5 := (hF.z hsr (by rw [ksr]; rfl)).trans hf29
  have z34 : q_z f1 sr 8 = 3 := (hF.z hsr (by rw [ksr]; rfl)).trans hf30
  have z35 : q_z f1 sr 9 = 0 := (hF.z hsr (by rw [ksr]; rfl)).trans hf31
  have z36 : q_r f1 x 0 = src := (hF.r hx (by rw [kx]; rfl)).trans hr0
  have z37 : q_r f1 x 1 = rdr := (hF.r hx (by rw [kx]; rfl)).trans hr1
  have z38 : q_r f1 x 2 = scr := (hF.r hx (by rw [kx]; rfl)).trans hr2
  have z39 : q_r f1 x 3 = fc := (hF.r hx (by rw [kx]; rfl)).trans hr3
  have z40 : q_r f1 x 4 = hist := (hF.r hx (by rw [kx]; rfl)).trans hr4
  have z41 : q_r f1 x 5 = rep := (hF.r hx (by rw [kx]; rfl)).trans hr5
  have z42 : q_r f1 x 6 = now := (hF.r hx (by rw [kx]; rfl)).trans hr6
  have z43 : q_r f1 x 7 = dr := (hF.r hx (by rw [kx]; rfl)).trans hr7
  have z44 : q_r f1 x 8 = sv := (hF.r hx (by rw [kx]; rfl)).trans hr8
  have z45 : q_r f1 fc 0 = tr := (hF.r hfc (by rw [kfc]; rfl)).trans hr9
  have z46 : q_r f1 mo 1 = bu := (hF.r hmo (by rw [kmo]; rfl)).trans hr10
  have z47 : q_r f1 mo 13 = sr := (hF.r hmo (by rw [kmo]; rfl)).trans hr11
  have z48 : q_r f1 mo 14 = sd := (hF.r hmo (by rw [kmo]; rfl)).trans hr12
  have z49 : q_r f1 mo 15 = as := (hF.r hmo (by rw [kmo]; rfl)).trans hr13
  have z50 : q_r f1 mo 16 = aw := (hF.r hmo (by rw [kmo]; rfl)).trans hr14
  have z51 : q_r f1 mo 17 = pa := (hF.r hmo (by rw [kmo]; rfl)).trans hr15
  have z52 : q_r f1 mo 18 = nm := (hF.r hmo (by rw [kmo]; rfl)).trans hr16
  have z53 : q_r f1 mo 19 = snm := (hF.r hmo (by rw [kmo]; rfl)).trans hr17
  have z54 : q_r f1 mo 20 = anm := (hF.r hmo (by rw [kmo]; rfl)).trans hr18
  subst qy2
  refine lv_istore (lv' := [(6, .int (q_i 1)), (5, .int (q_i 0)), (0, .ref b), (1, .ref x), (2, .ref mo), (3, .ref out), (4, .ref outD)]) cx.1 cx.2.1 dL_law_1615 hl (by decide) rfl (fun ls hl => ?_)
  refine q_ald_n cx dL_law_1617 rfl (lv_at hl 4 rfl) ?_
  refine q_ald_n cx dL_law_1618 rfl (lv_at hl 2 rfl) ?_
  refine lv_iload cx.1 cx.2.1 dL_law_1619 (lv_at hl 1 rfl) ?_
  refine q_iconst cx dL_law_1621 ?_
  refine q_iadd cx dL_law_1622 ?_
  refine va_sld cx.1 cx.2.1 hXs hbl hbA hB.1.2.2.2 (q_in (by decide) (by decide) (by decide)) dL_law_1623 ?_
  rw [show (q_i (0 + 1)).toNatClampNeg = 1 from by decide, ex1]
  refine q_cVi (As := [.int (q_i x1)]) (rest := []) cx hB (fun q h => hLA q h) hN hmo kmo (by decide) rfl (p_bestShift l g hN hB.2.1 mo hmo kmo x1 (by omega) (by omega) bu hbu kbu sr hsr ksr sd hsd ksd as has kas aw haw kaw pa hpa kpa nm hnm knm snm hsnm ksnm anm hanm kanm z18 z19 z20 z21 z22 z23 z24 z25 z26 z27 z28 z29 z30 z31 z32 z33 z34 z35 z46 z47 z48 z49 z50 z51 z52 z53 z54) q_cL_217 q_dX12_bestShift (by decide) rfl rfl hl.1 rfl (Nat.le_of_ble_eq_true rfl) dL_law_1624 (fun y56 H locs f55 ry56 h57 hF hB => ?_)
  obtain ⟨qy56, z58⟩ := h57
  have z59 : q_z f55 x 9 = 0 := (hF.z hx (by rw [kx]; rfl)).trans z4
  have z60 : q_z f55 src 1 = 0 := (hF.z hsrc (by rw [ksrc]; rfl)).trans z5
  have z61 : q_z f55 src 2 = 0 := (hF.z hsrc (by rw [ksrc]; rfl)).trans z6
  have z62 : q_z f55 src 3 = (-1) := (hF.z hsrc (by rw [ksrc]; rfl)).trans z7
  have z63 : q_z f55 hist 1 = 0 := (hF.z hhist (by rw [khist]; rfl)).trans z8
  have z64 : q_z f55 hist 2 = 0 := (hF.z hhist (by rw [khist]; rfl)).trans z9
  have z65 : q_z f55 rep 1 = 0 := (hF.z hrep (by rw [krep]; rfl)).trans z10
  have z66 : q_z f55 now 3 = 0 := (hF.z hnow (by rw [know]; rfl)).trans z11
  have z67 : q_z f55 now 4 = 0 := (hF.z hnow (by rw [know]; rfl)).trans z12
  have z68 : q_z f55 now 5 = 0 := (hF.z hnow (by rw [know]; rfl)).trans z13
  have z69 : q_z f55 now 6 = 12 := (hF.z hnow (by rw [know]; rfl)).trans z14
  have z70 : q_z f55 now 10 = 3 := (hF.z hnow (by rw [know]; rfl)).trans z15
  have z71 : q_z f55 now 11 = 0 := (hF.z hnow (by rw [know]; rfl)).trans z16
  have z72 : q_z f55 now 12 = 0 := (hF.z hnow (by rw [know]; rfl)).trans z17
  have z73 : q_r f55 x 0 = src := (hF.r hx (by rw [kx]; rfl)).trans z36
  have z74 : q_r f55 x 1 = rdr := (hF.r hx (by rw [kx]; rfl)).trans z37
  have z75 : q_r f55 x 2 = scr := (hF.r hx (by rw [kx]; rfl)).trans z38
  have z76 : q_r f55 x 3 = fc := (hF.r hx (by rw [kx]; rfl)).trans z39
  have z77 : q_r f55 x 4 = hist := (hF.r hx (by rw [kx]; rfl)).trans z40
  have z78 : q_r f55 x 5 = rep := (hF.r hx (by rw [kx]; rfl)).trans z41
  have z79 : q_r f55 x 6 = now := (hF.r hx (by rw [kx]; rfl)).trans z42
  have z80 : q_r f55 x 7 = dr := (hF.r hx (by rw [kx]; rfl)).trans z43
  have z81 : q_r f55 x 8 = sv := (hF.r hx (by rw [kx]; rfl)).trans z44
  have z82 : q_r f55 fc 0 = tr := (hF.r hfc (by rw [kfc]; rfl)).trans z45
  subst qy56
  refine lv_istore (lv' := [(7, .int (q_i 0)), (6, .int (q_i 1)), (5, .int (q_i 0)), (0, .ref b), (1, .ref x), (2, .ref mo), (3, .ref out), (4, .ref outD)]) cx.1 cx.2.1 dL_law_1627 hl (by decide) rfl (fun ls hl => ?_)
  refine q_ald_n cx dL_law_1629 rfl (lv_at hl 5 rfl) ?_
  refine q_cVi (As := []) (rest := []) cx hB (fun q h => hLA q h) hN hmo kmo (by decide) rfl (r_thrown l g hN hB.2.1 mo hmo kmo 1 (by decide) (by decide) z58) q_cL_124 q_dX12_thrown (by decide) rfl rfl hl.1 rfl (Nat.le_of_ble_eq_true rfl) dL_law_1630 (fun y84 H locs f83 ry84 h85 hF hB => ?_)
  obtain ⟨rfl, qy84⟩ := h85
  subst qy84
  refine lv_iload cx.1 cx.2.1 dL_law_1633 (lv_at hl 1 rfl) ?_
  refine q_iceq (tgt := 1640) cx ⟨by decide, by decide⟩ ⟨by decide, by decide⟩ dL_law_1635 (by decide) (fun c86 => ?_) (fun c86 => ?_)
  · refine lv_iload cx.1 cx.2.1 dL_law_1640 (lv_at hl 1 rfl) ?_
    refine q_ifne (tgt := 1657) cx ⟨by decide, by decide⟩ dL_law_1642 (by decide) (fun c87 => ?_) (fun c87 => ?_)
    · refine lv_goto (tgt := 2394) cx.1 cx.2.1 dL_law_1657 (by decide) ?_
      refine q_iinc (lv' := [(5, .int (q_i (0 + 6))), (7, .int (q_i 0)), (6, .int (q_i 1)), (0, .ref b), (1, .ref x), (2, .ref mo), (3, .ref out), (4, .ref outD)]) cx dL_law_2394 hl (k := 2) rfl (by decide) rfl (fun ls hl => ?_)
      refine lv_goto (tgt := 28) cx.1 cx.2.1 dL_law_2397 (by decide) ?_
      refine lv_iload cx.1 cx.2.1 dL_law_28 (lv_at hl 0 rfl) ?_
      refine q_ald_n cx dL_law_30 rfl (lv_at hl 3 rfl) ?_
      refine va_slen cx.1 cx.2.1 hXs hbl hbA hB.1.2.2.2 dL_law_31 ?_
      rw [show Int32.ofNat 6 = q_i 6 from by decide]
      refine q_bipush cx dL_law_32 rfl ?_
      refine q_isub cx dL_law_34 ?_
      refine q_icgt (tgt := 2400) cx ⟨by decide, by decide⟩ ⟨by decide, by decide⟩ dL_law_35 (by decide) (fun c88 => ?_) (fun c88 => ?_)
      · refine q_iconst cx dL_law_2400 ?_
        exact q_lawret C0 hB (by decide) (by decide) dL_law_2401
      · exact absurd c88 (by omega)
    · exact absurd c87 (by omega)
  · exact absurd c86 (by omega)
set_option maxHeartbeats 4000000 in
set_option maxRecDepth 100000 in
theorem law_c1660 {p : Program} {l : Launch} {e : Env} {s : State} {m : MethodId} {below : List Frame} {meth : Method} {c : Code} {b : Nat} {xs : Nat → Int32} (hfl : l.stackTraces = false) (C0 : lw_At p s m meth c b 6 xs) (cx : CallFix p m c cL_law 10 s #[Value.ref b] q_al RL) {g : q_G} {K : Nat → Nat} {L : List Nat} {f : Nat → va_E} {H : Heap} {locs : List Loc} {ls : Array Slot} (hN : L.Nodup) (hLA : ∀ q, q ∈ L → s.heap.size ≤ q) (hX : q_X (fun q => q ∈ L) s) (hB : q_B g K L (fun q => s.heap.size ≤ q) [(2, 1, 2), (6, 1, 1), (7, 1, 4), (8, 1, 9), (9, 0, 2), (10, 3, 15), (11, 9, 9), (12, 0, 40), (13, 3, 15), (14, 3, 15), (15, 3, 15), (16, 3, 15), (142, 0, 599), (150, 0, 599), (151, 0, 657), (152, 0, 657), (153, 0, 657), (154, 0, 657), (155, 0, 3947), (156, 0, 9), (157, 0, 9), (158, 0, 9), (168, 0, 0), (169, 0, 0)] f f s H locs) {x : Nat} (hx : x ∈ L) (kx : K x = 11) {src : Nat} (hsrc : src ∈ L) (ksrc : K src = 8) {rdr : Nat} (hrdr : rdr ∈ L) (krdr : K rdr = 9) {scr : Nat} (hscr : scr ∈ L) (kscr : K scr = 7) {fc : Nat} (hfc : fc ∈ L) (kfc : K fc = 1) {hist : Nat} (hhist : hist ∈ L) (khist : K hist = 2) {rep : Nat} (hrep : rep ∈ L) (krep : K rep = 6) {now : Nat} (hnow : now ∈ L) (know : K now = 10) {dr : Nat} (hdr : dr ∈ L) (kdr : K dr = 13) {sv : Nat} (hsv : sv ∈ L) (ksv : K sv = 14) {tr : Nat} (htr : tr ∈ L) (ktr : K tr = 15) {mo : Nat} (hmo : mo ∈ L) (kmo : K mo = 12) {bu : Nat} (hbu : bu ∈ L) (kbu : K bu = 150) {sr : Nat} (hsr : sr ∈ L) (ksr : K sr = 151) {sd : Nat} (hsd : sd ∈ L) (ksd : K sd = 152) {as : Nat} (has : as ∈ L) (kas : K as = 153) {aw : Nat} (haw : aw ∈ L) (kaw : K aw = 154) {pa : Nat} (hpa : pa ∈ L) (kpa : K pa = 155) {nm : Nat} (hnm : nm ∈ L) (knm : K nm = 156) {snm : Nat} (hsnm : snm ∈ L) (ksnm : K snm = 157) {anm : Nat} (hanm : anm ∈ L) (kanm : K anm = 158) {out : Nat} (hout : out ∈ L) (kout : K out = 168) {outD : Nat} (houtD : outD ∈ L) (koutD : K outD = 169) (hf0 : q_z f x 9 = 0) (hf1 : q_z f src 1 = 0) (hf2 : q_z f src 2 = 0) (hf3 : q_z f src 3 = (-1)) (hf4 : q_z f hist 1 = 0) (hf5 : q_z f hist 2 = 0) (hf6 : q_z f rep 1 = 0) (hf7 : q_z f now 3 = 0) (hf8 : q_z f now 4 = 0) (hf9 : q_z f now 5 = 0) (hf10 : q_z f now 6 = 12) (hf11 : q_z f now 10 = 3) (hf12 : q_z f now 11 = 0) (hf13 : q_z f now 12 = 0) (hf14 : q_z f mo 2 = 0) (hf15 : q_z f mo 8 = 0) (hf16 : q_z f mo 9 = (-1)) (hf17 : q_z f mo 10 = 0) (hf18 : q_z f mo 11 = (-1)) (hf19 : q_z f mo 21 = 0) (hf20 : q_z f mo 22 = 0) (hf21 : q_z f mo 40 = 0) (hf22 : q_z f sr 0 = 0) (hf23 : q_z f sr 1 = 0) (hf24 : q_z f sr 2 = 12) (hf25 : q_z f sr 3 = 0) (hf26 : q_z f sr 4 = 0) (hf27 : q_z f sr 5 = 1) (hf28 : q_z f sr 6 = 2) (hf29 : q_z f sr 7 = 5) (hf30 : q_z f sr 8 = 3) (hf31 : q_z f sr 9 = 0) (hr0 : q_r f x 0 = src) (hr1 : q_r f x 1 = rdr) (hr2 : q_r f x 2 = scr) (hr3 : q_r f x 3 = fc) (hr4 : q_r f x 4 = hist) (hr5 : q_r f x 5 = rep) (hr6 : q_r f x 6 = now) (hr7 : q_r f x 7 = dr) (hr8 : q_r f x 8 = sv) (hr9 : q_r f fc 0 = tr) (hr10 : q_r f mo 1 = bu) (hr11 : q_r f mo 13 = sr) (hr12 : q_r f mo 14 = sd) (hr13 : q_r f mo 15 = as) (hr14 : q_r f mo 16 = aw) (hr15 : q_r f mo 17 = pa) (hr16 : q_r f mo 18 = nm) (hr17 : q_r f mo 19 = snm) (hr18 : q_r f mo 20 = anm) (hl : lv_has ls 10 [(5, .int (q_i 0)), (0, .ref b), (1, .ref x), (2, .ref mo), (3, .ref out), (4, .ref outD)]) : W p l e room_1 s m #[Value.ref b] below meth c H locs 1100 20000 (lw_Z below #[Value.ref b] s) (F0 m 1660 ls []) := by
  have hXs := C0.2.2.2.2.2.2.1
  have hbl := C0.2.2.2.2.2.2.2.1
  have hbA := q_bA hbl
  obtain ⟨x0, rx0, ex0⟩ : ∃ z : Int, q_R z ∧ xs 0 = q_i z := ⟨_, q_rng _, (q_of _).symm⟩
  have lx0 := rx0.1
  have ux0 := rx0.2
  obtain ⟨x1, rx1, ex1⟩ : ∃ z : Int, q_R z ∧ xs 1 = q_i z := ⟨_, q_rng _, (q_of _).symm⟩
  have lx1 := rx1.1
  have ux1 := rx1.2
  obtain ⟨x2, rx2, ex2⟩ : ∃ z : Int, q_R z ∧ xs 2 = q_i z := ⟨_, q_rng _, (q_of _).symm⟩
  have lx2 := rx2.1
  have ux2 := rx2.2
  obtain ⟨x3, rx3, ex3⟩ : ∃ z : Int, q_R z ∧ xs 3 = q_i z := ⟨_, q_rng _, (q_of _).symm⟩
  have lx3 := rx3.1
  have ux3 := rx3.2
  obtain ⟨x4, rx4, ex4⟩ : ∃ z : Int, q_R z ∧ xs 4 = q_i z := ⟨_, q_rng _, (q_of _).symm⟩
  have lx4 := rx4.1
  have ux4 := rx4.2
  obtain ⟨x5, rx5, ex5⟩ : ∃ z : Int, q_R z ∧ xs 5 = q_i z := ⟨_, q_rng _, (q_of _).symm⟩
  have lx5 := rx5.1
  have ux5 := rx5.2
  refine q_ald_n cx dL_law_1660 rfl (lv_at hl 2 rfl) ?_
  refine q_ald_n cx dL_law_1661 rfl (lv_at hl 1 rfl) ?_
  refine lv_iload cx.1 cx.2.1 dL_law_1662 (lv_at hl 0 rfl) ?_
  refine q_iconst cx dL_law_1664 ?_
  refine q_iadd cx dL_law_1665 ?_
  refine va_sld cx.1 cx.2.1 hXs hbl hbA hB.1.2.2.2 (q_in (by decide) (by decide) (by decide)) dL_law_1666 ?_
  rw [show (q_i (0 + 1)).toNatClampNeg = 1 from by decide, ex1]
  refine q_ald_n cx dL_law_1667 rfl (lv_at hl 1 rfl) ?_
  refine lv_iload cx.1 cx.2.1 dL_law_1668 (lv_at hl 0 rfl) ?_
  refine q_iconst cx dL_law_1670 ?_
  refine q_iadd cx dL_law_1671 ?_
  refine va_sld cx.1 cx.2.1 hXs hbl hbA hB.1.2.2.2 (q_in (by decide) (by decide) (by decide)) dL_law_1672 ?_
  rw [show (q_i (0 + 2)).toNatClampNeg = 2 from by decide, ex2]
  refine q_ald_n cx dL_law_1673 rfl (lv_at hl 4 rfl) ?_
  refine q_cWS (As := [.ref x, .int (q_i x1), .int (q_i x2), .ref out]) (rest := []) cx hX hB (fun q h => hLA q h) (fun q h1 h2 => absurd h1 (Nat.not_le_of_lt h2)) hN (w_bestWatch l g hN hB.2.1 hfl x hx kx x1 (by omega) (by omega) x2 (by omega) (by omega) out hout kout src hsrc ksrc rdr hrdr krdr scr hscr kscr fc hfc kfc hist hhist khist rep hrep krep now hnow know dr hdr kdr sv hsv ksv tr htr ktr hf0 hf1 hf2 hf3 hf4 hf5 hf6 hf7 hf8 hf9 hf10 hf11 hf12 hf13 hr0 hr1 hr2 hr3 hr4 hr5 hr6 hr7 hr8 hr9) q_cL_218 q_dL_bestWatch (by decide) rfl rfl hl.1 rfl (Nat.le_of_ble_eq_true rfl) dL_law_1674 (fun v9 H locs f1 h3 hF hB => ?_)
  obtain ⟨y2, rfl, ry2, h3⟩ := h3
  refine W.eq (g2 := F0 m 1677 ls [.int (q_i y2)]) rfl ?_
  have qy2 := h3
  have z4 : q_z f1 x 9 = 0 := (hF.z hx (by rw [kx]; rfl)).trans hf0
  have z5 : q_z f1 src 1 = 0 := (hF.z hsrc (by rw [ksrc]; rfl)).trans hf1
  have z6 : q_z f1 src 2 = 0 := (hF.z hsrc (by rw [ksrc]; rfl)).trans hf2
  have z7 : q_z f1 src 3 = (-1) := (hF.z hsrc (by rw [ksrc]; rfl)).trans hf3
  have z8 : q_z f1 hist 1 = 0 := (hF.z hhist (by rw [khist]; rfl)).trans hf4
  have z9 : q_z f1 hist 2 = 0 := (hF.z hhist (by rw [khist]; rfl)).trans hf5
  have z10 : q_z f1 rep 1 = 0 := (hF.z hrep (by rw [krep]; rfl)).trans hf6
  have z11 : q_z f1 now 3 = 0 := (hF.z hnow (by rw [know]; rfl)).trans hf7
  have z12 : q_z f1 now 4 = 0 := (hF.z hnow (by rw [know]; rfl)).trans hf8
  have z13 : q_z f1 now 5 = 0 := (hF.z hnow (by rw [know]; rfl)).trans hf9
  have z14 : q_z f1 now 6 = 12 := (hF.z hnow (by rw [know]; rfl)).trans hf10
  have z15 : q_z f1 now 10 = 3 := (hF.z hnow (by rw [know]; rfl)).trans hf11
  have z16 : q_z f1 now 11 = 0 := (hF.z hnow (by rw [know]; rfl)).trans hf12
  have z17 : q_z f1 now 12 = 0 := (hF.z hnow (by rw [know]; rfl)).trans hf13
  have z18 : q_z f1 mo 2 = 0 := (hF.z hmo (by rw [kmo]; rfl)).trans hf14
  have z19 : q_z f1 mo 8 = 0 := (hF.z hmo (by rw [kmo]; rfl)).trans hf15
  have z20 : q_z f1 mo 9 = (-1) := (hF.z hmo (by rw [kmo]; rfl)).trans hf16
  have z21 : q_z f1 mo 10 = 0 := (hF.z hmo (by rw [kmo]; rfl)).trans hf17
  have z22 : q_z f1 mo 11 = (-1) := (hF.z hmo (by rw [kmo]; rfl)).trans hf18
  have z23 : q_z f1 mo 21 = 0 := (hF.z hmo (by rw [kmo]; rfl)).trans hf19
  have z24 : q_z f1 mo 22 = 0 := (hF.z hmo (by rw [kmo]; rfl)).trans hf20
  have z25 : q_z f1 mo 40 = 0 := (hF.z hmo (by rw [kmo]; rfl)).trans hf21
  have z26 : q_z f1 sr 0 = 0 := (hF.z hsr (by rw [ksr]; rfl)).trans hf22
  have z27 : q_z f1 sr 1 = 0 := (hF.z hsr (by rw [ksr]; rfl)).trans hf23
  have z28 : q_z f1 sr 2 = 12 := (hF.z hsr (by rw [ksr]; rfl)).trans hf24
  have z29 : q_z f1 sr 3 = 0 := (hF.z hsr (by rw [ksr]; rfl)).trans hf25
  have z30 : q_z f1 sr 4 = 0 := (hF.z hsr (by rw [ksr]; rfl)).trans hf26
  have z31 : q_z f1 sr 5 = 1 := (hF.z hsr (by rw [ksr]; rfl)).trans hf27
  have z32 : q_z f1 sr 6 = 2 := (hF.z hsr (by rw [ksr]; rfl)).trans hf28
  have z33 : q_z f1 sr 7 = 5 := (hF.z hsr (by rw [ksr]; rfl)).trans hf29
  have z34 : q_z f1 sr 8 = 3 := (hF.z hsr (by rw [ksr]; rfl)).trans hf30
  have z35 : q_z f1 sr 9 = 0 := (hF.z hsr (by rw [ksr]; rfl)).trans hf31
  have z36 : q_r f1 x 0 = src := (hF.r hx (by rw [kx]; rfl)).trans hr0
  have z37 : q_r f1 x 1 = rdr := (hF.r hx (by rw [kx]; rfl)).trans hr1
  have z38 : q_r f1 x 2 = scr := (hF.r hx (by rw [kx]; rfl)).trans hr2
  have z39 : q_r f1 x 3 = fc := (hF.r hx (by rw [kx]; rfl)).trans hr3
  have z40 : q_r f1 x 4 = hist := (hF.r hx (by rw [kx]; rfl)).trans hr4
  have z41 : q_r f1 x 5 = rep := (hF.r hx (by rw [kx]; rfl)).trans hr5
  have z42 : q_r f1 x 6 = now := (hF.r hx (by rw [kx]; rfl)).trans hr6
  have z43 : q_r f1 x 7 = dr := (hF.r hx (by rw [kx]; rfl)).trans hr7
  have z44 : q_r f1 x 8 = sv := (hF.r hx (by rw [kx]; rfl)).trans hr8
  have z45 : q_r f1 fc 0 = tr := (hF.r hfc (by rw [kfc]; rfl)).trans hr9
  have z46 : q_r f1 mo 1 = bu := (hF.r hmo (by rw [kmo]; rfl)).trans hr10
  have z47 : q_r f1 mo 13 = sr := (hF.r hmo (by rw [kmo]; rfl)).trans hr11
  have z48 : q_r f1 mo 14 = sd := (hF.r hmo (by rw [kmo]; rfl)).trans hr12
  have z49 : q_r f1 mo 15 = as := (hF.r hmo (by rw [kmo]; rfl)).trans hr13
  have z50 : q_r f1 mo 16 = aw := (hF.r hmo (by rw [kmo]; rfl)).trans hr14
  have z51 : q_r f1 mo 17 = pa := (hF.r hmo (by rw [kmo]; rfl)).trans hr15
  have z52 : q_r f1 mo 18 = nm := (hF.r hmo (by rw [kmo]; rfl)).trans hr16
  have z53 : q_r f1 mo 19 = snm := (hF.r hmo (by rw [kmo]; rfl)).trans hr17
  have z54 : q_r f1 mo 20 = anm := (hF.r hmo (by rw [kmo]; rfl)).trans hr18
  subst qy2
  refine lv_istore (lv' := [(6, .int (q_i 1)), (5, .int (q_i 0)), (0, .ref b), (1, .ref x), (2, .ref mo), (3, .ref out), (4, .ref outD)]) cx.1 cx.2.1 dL_law_1677 hl (by decide) rfl (fun ls hl => ?_)
  refine q_ald_n cx dL_law_1679 rfl (lv_at hl 4 rfl) ?_
  refine q_ald_n cx dL_law_1680 rfl (lv_at hl 2 rfl) ?_
  refine lv_iload cx.1 cx.2.1 dL_law_1681 (lv_at hl 1 rfl) ?_
  refine q_iconst cx dL_law_1683 ?_
  refine q_iadd cx dL_law_1684 ?_
  refine va_sld cx.1 cx.2.1 hXs hbl hbA hB.1.2.2.2 (q_in (by decide) (by decide) (by decide)) dL_law_1685 ?_
  rw [show (q_i (0 + 1)).toNatClampNeg = 1 from by decide, ex1]
  refine q_ald_n cx dL_law_1686 rfl (lv_at hl 2 rfl) ?_
  refine lv_iload cx.1 cx.2.1 dL_law_1687 (lv_at hl 1 rfl) ?_
  refine q_iconst cx dL_law_1689 ?_
  refine q_iadd cx dL_law_1690 ?_
  refine va_sld cx.1 cx.2.1 hXs hbl hbA hB.1.2.2.2 (q_in (by decide) (by decide) (by decide)) dL_law_1691 ?_
  rw [show (q_i (0 + 2)).toNatClampNeg = 2 from by decide, ex2]
  refine q_cVi (As := [.int (q_i x1), .int (q_i x2)]) (rest := []) cx hB (fun q h => hLA q h) hN hmo kmo (by decide) rfl (p_bestWatch l g hN hB.2.1 mo hmo kmo x1 (by omega) (by omega) x2 (by omega) (by omega) bu hbu kbu sr hsr ksr sd hsd ksd as has kas aw haw kaw pa hpa kpa nm hnm knm snm hsnm ksnm anm hanm kanm z18 z19 z20 z21 z22 z23 z24 z25 z26 z27 z28 z29 z30 z31 z32 z33 z34 z35 z46 z47 z48 z49 z50 z51 z52 z53 z54) q_cL_220 q_dX12_bestWatch (by decide) rfl rfl hl.1 rfl (Nat.le_of_ble_eq_true rfl) dL_law_1692 (fun y56 H locs f55 ry56 h57 hF hB => ?_)
  obtain ⟨qy56, z58⟩ := h57
  have z59 : q_z f55 x 9 = 0 := (hF.z hx (by rw [kx]; rfl)).trans z4
  have z60 : q_z f55 src 1 = 0 := (hF.z hsrc (by rw [ksrc]; rfl)).trans z5
  have z61 : q_z f55 src 2 = 0 := (hF.z hsrc (by rw [ksrc]; rfl)).trans z6
  have z62 : q_z f55 src 3 = (-1) := (hF.z hsrc (by rw [ksrc]; rfl)).trans z7
  have z63 : q_z f55 hist 1 = 0 := (hF.z hhist (by rw [khist]; rfl)).trans z8
  have z64 : q_z f55 hist 2 = 0 := (hF.z hhist (by rw [khist]; rfl)).trans z9
  have z65 : q_z f55 rep 1 = 0 := (hF.z hrep (by rw [krep]; rfl)).trans z10
  have z66 : q_z f55 now 3 = 0 := (hF.z hnow (by rw [know]; rfl)).trans z11
  have z67 : q_z f55 now 4 = 0 := (hF.z hnow (by rw [know]; rfl)).trans z12
  have z68 : q_z f55 now 5 = 0 := (hF.z hnow (by rw [know]; rfl)).trans z13
  have z69 : q_z f55 now 6 = 12 := (hF.z hnow (by rw [know]; rfl)).trans z14
  have z70 : q_z f55 now 10 = 3 := (hF.z hnow (by rw [know]; rfl)).trans z15
  have z71 : q_z f55 now 11 = 0 := (hF.z hnow (by rw [know]; rfl)).trans z16
  have z72 : q_z f55 now 12 = 0 := (hF.z hnow (by rw [know]; rfl)).trans z17
  have z73 : q_r f55 x 0 = src := (hF.r hx (by rw [kx]; rfl)).trans z36
  have z74 : q_r f55 x 1 = rdr := (hF.r hx (by rw [kx]; rfl)).trans z37
  have z75 : q_r f55 x 2 = scr := (hF.r hx (by rw [kx]; rfl)).trans z38
  have z76 : q_r f55 x 3 = fc := (hF.r hx (by rw [kx]; rfl)).trans z39
  have z77 : q_r f55 x 4 = hist := (hF.r hx (by rw [kx]; rfl)).trans z40
  have z78 : q_r f55 x 5 = rep := (hF.r hx (by rw [kx]; rfl)).trans z41
  have z79 : q_r f55 x 6 = now := (hF.r hx (by rw [kx]; rfl)).trans z42
  have z80 : q_r f55 x 7 = dr := (hF.r hx (by rw [kx]; rfl)).trans z43
  have z81 : q_r f55 x 8 = sv := (hF.r hx (by rw [kx]; rfl)).trans z44
  have z82 : q_r f55 fc 0 = tr := (hF.r hfc (by rw [kfc]; rfl)).trans z45
  subst qy56
  refine lv_istore (lv' := [(7, .int (q_i 0)), (6, .int (q_i 1)), (5, .int (q_i 0)), (0, .ref b), (1, .ref x), (2, .ref mo), (3, .ref out), (4, .ref outD)]) cx.1 cx.2.1 dL_law_1695 hl (by decide) rfl (fun ls hl => ?_)
  refine q_ald_n cx dL_law_1697 rfl (lv_at hl 5 rfl) ?_
  refine q_cVi (As := []) (rest := []) cx hB (fun q h => hLA q h) hN hmo kmo (by decide) rfl (r_thrown l g hN hB.2.1 mo hmo kmo 1 (by decide) (by decide) z58) q_cL_124 q_dX12_thrown (by decide) rfl rfl hl.1 rfl (Nat.le_of_ble_eq_true rfl) dL_law_1698 (fun y84 H locs f83 ry84 h85 hF hB => ?_)
  obtain ⟨rfl, qy84⟩ := h85
  subst qy84
  refine lv_iload cx.1 cx.2.1 dL_law_1701 (lv_at hl 1 rfl) ?_
  refine q_iceq (tgt := 1708) cx ⟨by decide, by decide⟩ ⟨by decide, by decide⟩ dL_law_1703 (by decide) (fun c86 => ?_) (fun c86 => ?_)
  · refine lv_iload cx.1 cx.2.1 dL_law_1708 (lv_at hl 1 rfl) ?_
    refine q_ifne (tgt := 1725) cx ⟨by decide, by decide⟩ dL_law_1710 (by decide) (fun c87 => ?_) (fun c87 => ?_)
    · refine lv_goto (tgt := 2394) cx.1 cx.2.1 dL_law_1725 (by decide) ?_
      refine q_iinc (lv' := [(5, .int (q_i (0 + 6))), (7, .int (q_i 0)), (6, .int (q_i 1)), (0, .ref b), (1, .ref x), (2, .ref mo), (3, .ref out), (4, .ref outD)]) cx dL_law_2394 hl (k := 2) rfl (by decide) rfl (fun ls hl => ?_)
      refine lv_goto (tgt := 28) cx.1 cx.2.1 dL_law_2397 (by decide) ?_
      refine lv_iload cx.1 cx.2.1 dL_law_28 (lv_at hl 0 rfl) ?_
      refine q_ald_n cx dL_law_30 rfl (lv_at hl 3 rfl) ?_
      refine va_slen cx.1 cx.2.1 hXs hbl hbA hB.1.2.2.2 dL_law_31 ?_
      rw [show Int32.ofNat 6 = q_i 6 from by decide]
      refine q_bipush cx dL_law_32 rfl ?_
      refine q_isub cx dL_law_34 ?_
      refine q_icgt (tgt := 2400) cx ⟨by decide, by decide⟩ ⟨by decide, by decide⟩ dL_law_35 (by decide) (fun c88 => ?_) (fun c88 => ?_)
      · refine q_iconst cx dL_law_2400 ?_
        exact q_lawret C0 hB (by decide) (by decide) dL_law_2401
      · exact absurd c88 (by omega)
    · exact absurd c87 (by omega)
  · exact absurd c86 (by omega)
set_option maxHeartbeats 4000000 in
set_option maxRecDepth 100000 in
theorem law_c1728 {p : Program} {l : Launch} {e : Env} {s : State} {m : MethodId} {below : List Frame} {meth : Method} {c : Code} {b : Nat} {xs : Nat → Int32} (hfl : l.stackTraces = false) (C0 : lw_At p s m meth c b 6 xs) (cx : CallFix p m c cL_law 10 s #[Value.ref b] q_al RL) {g : q_G} {K : Nat → Nat} {L : List Nat} {f : Nat → va_E} {H : Heap} {locs : List Loc} {ls : Array Slot} (hN : L.Nodup) (hLA : ∀ q, q ∈ L → s.heap.size ≤ q) (hX : q_X (fun q => q ∈ L) s) (hB : q_B g K L (fun q => s.heap.size ≤ q) [(2, 1, 2), (6, 1, 1), (7, 1, 4), (8, 1, 9), (9, 0, 2), (10, 3, 15), (11, 9, 9), (12, 0, 40), (13, 3, 15), (14, 3, 15), (15, 3, 15), (16, 3, 15), (142, 0, 599), (150, 0, 599), (151, 0, 657), (152, 0, 657), (153, 0, 657), (154, 0, 657), (155, 0, 3947), (156, 0, 9), (157, 0, 9), (158, 0, 9), (168, 0, 0), (169, 0, 0)] f f s H locs) {x : Nat} (hx : x ∈ L) (kx : K x = 11) {src : Nat} (hsrc : src ∈ L) (ksrc : K src = 8) {rdr : Nat} (hrdr : rdr ∈ L) (krdr : K rdr = 9) {scr : Nat} (hscr : scr ∈ L) (kscr : K scr = 7) {fc : Nat} (hfc : fc ∈ L) (kfc : K fc = 1) {hist : Nat} (hhist : hist ∈ L) (khist : K hist = 2) {rep : Nat} (hrep : rep ∈ L) (krep : K rep = 6) {now : Nat} (hnow : now ∈ L) (know : K now = 10) {dr : Nat} (hdr : dr ∈ L) (kdr : K dr = 13) {sv : Nat} (hsv : sv ∈ L) (ksv : K sv = 14) {tr : Nat} (htr : tr ∈ L) (ktr : K tr = 15) {mo : Nat} (hmo : mo ∈ L) (kmo : K mo = 12) {bu : Nat} (hbu : bu ∈ L) (kbu : K bu = 150) {sr : Nat} (hsr : sr ∈ L) (ksr : K sr = 151) {sd : Nat} (hsd : sd ∈ L) (ksd : K sd = 152) {as : Nat} (has : as ∈ L) (kas : K as = 153) {aw : Nat} (haw : aw ∈ L) (kaw : K aw = 154) {pa : Nat} (hpa : pa ∈ L) (kpa : K pa = 155) {nm : Nat} (hnm : nm ∈ L) (knm : K nm = 156) {snm : Nat} (hsnm : snm ∈ L) (ksnm : K snm = 157) {anm : Nat} (hanm : anm ∈ L) (kanm : K anm = 158) {out : Nat} (hout : out ∈ L) (kout : K out = 168) {outD : Nat} (houtD : outD ∈ L) (koutD : K outD = 169) (hf0 : q_z f x 9 = 0) (hf1 : q_z f src 1 = 0) (hf2 : q_z f src 2 = 0) (hf3 : q_z f src 3 = (-1)) (hf4 : q_z f hist 1 = 0) (hf5 : q_z f hist 2 = 0) (hf6 : q_z f rep 1 = 0) (hf7 : q_z f now 3 = 0) (hf8 : q_z f now 4 = 0) (hf9 : q_z f now 5 = 0) (hf10 : q_z f now 6 = 12) (hf11 : q_z f now 10 = 3) (hf12 : q_z f now 11 = 0) (hf13 : q_z f now 12 = 0) (hf14 : q_z f mo 2 = 0) (hf15 : q_z f mo 8 = 0) (hf16 : q_z f mo 9 = (-1)) (hf17 : q_z f mo 10 = 0) (hf18 : q_z f mo 11 = (-1)) (hf19 : q_z f mo 21 = 0) (hf20 : q_z f mo 22 = 0) (hf21 : q_z f mo 40 = 0) (hf22 : q_z f sr 0 = 0) (hf23 : q_z f sr 1 = 0) (hf24 : q_z f sr 2 = 12) (hf25 : q_z f sr 3 = 0) (hf26 : q_z f sr 4 = 0) (hf27 : q_z f sr 5 = 1) (hf28 : q_z f sr 6 = 2) (hf29 : q_z f sr 7 = 5) (hf30 : q_z f sr 8 = 3) (hf31 : q_z f sr 9 = 0) (hr0 : q_r f x 0 = src) (hr1 : q_r f x 1 = rdr) (hr2 : q_r f x 2 = scr) (hr3 : q_r f x 3 = fc) (hr4 : q_r f x 4 = hist) (hr5 : q_r f x 5 = rep) (hr6 : q_r f x 6 = now) (hr7 : q_r f x 7 = dr) (hr8 : q_r f x 8 = sv) (hr9 : q_r f fc 0 = tr) (hr10 : q_r f mo 1 = bu) (hr11 : q_r f mo 13 = sr) (hr12 : q_r f mo 14 = sd) (hr13 : q_r f mo 15 = as) (hr14 : q_r f mo 16 = aw) (hr15 : q_r f mo 17 = pa) (hr16 : q_r f mo 18 = nm) (hr17 : q_r f mo 19 = snm) (hr18 : q_r f mo 20 = anm) (hl : lv_has ls 10 [(5, .int (q_i 0)), (0, .ref b), (1, .ref x), (2, .ref mo), (3, .ref out), (4, .ref outD)]) : W p l e room_1 s m #[Value.ref b] below meth c H locs 1100 20000 (lw_Z below #[Value.ref b] s) (F0 m 1728 ls []) := by
  have hXs := C0.2.2.2.2.2.2.1
  have hbl := C0.2.2.2.2.2.2.2.1
  have hbA := q_bA hbl
  obtain ⟨x0, rx0, ex0⟩ : ∃ z : Int, q_R z ∧ xs 0 = q_i z := ⟨_, q_rng _, (q_of _).symm⟩
  have lx0 := rx0.1
  have ux0 := rx0.2
  obtain ⟨x1, rx1, ex1⟩ : ∃ z : Int, q_R z ∧ xs 1 = q_i z := ⟨_, q_rng _, (q_of _).symm⟩
  have lx1 := rx1.1
  have ux1 := rx1.2
  obtain ⟨x2, rx2, ex2⟩ : ∃ z : Int, q_R z ∧ xs 2 = q_i z := ⟨_, q_rng _, (q_of _).symm⟩
  have lx2 := rx2.1
  have ux2 := rx2.2
  obtain ⟨x3, rx3, ex3⟩ : ∃ z : Int, q_R z ∧ xs 3 = q_i z := ⟨_, q_rng _, (q_of _).symm⟩
  have lx3 := rx3.1
  have ux3 := rx3.2
  obtain ⟨x4, rx4, ex4⟩ : ∃ z : Int, q_R z ∧ xs 4 = q_i z := ⟨_, q_rng _, (q_of _).symm⟩
  have lx4 := rx4.1
  have ux4 := rx4.2
  obtain ⟨x5, rx5, ex5⟩ : ∃ z : Int, q_R z ∧ xs 5 = q_i z := ⟨_, q_rng _, (q_of _).symm⟩
  have lx5 := rx5.1
  have ux5 := rx5.2
  refine q_ald_n cx dL_law_1728 rfl (lv_at hl 2 rfl) ?_
  refine q_ald_n cx dL_law_1729 rfl (lv_at hl 1 rfl) ?_
  refine lv_iload cx.1 cx.2.1 dL_law_1730 (lv_at hl 0 rfl) ?_
  refine q_iconst cx dL_law_1732 ?_
  refine q_iadd cx dL_law_1733 ?_
  refine va_sld cx.1 cx.2.1 hXs hbl hbA hB.1.2.2.2 (q_in (by decide) (by decide) (by decide)) dL_law_1734 ?_
  rw [show (q_i (0 + 1)).toNatClampNeg = 1 from by decide, ex1]
  refine q_ald_n cx dL_law_1735 rfl (lv_at hl 4 rfl) ?_
  by_cases c1 : x1 ≤ 0
  · refine q_cWS (As := [.ref x, .int (q_i x1), .ref out]) (rest := []) cx hX hB (fun q h => hLA q h) (fun q h1 h2 => absurd h1 (Nat.not_le_of_lt h2)) hN (w_ticka l g hN hB.2.1 hfl x hx kx x1 (by omega) (by omega) out hout kout src hsrc ksrc rdr hrdr krdr scr hscr kscr fc hfc kfc hist hhist khist rep hrep krep now hnow know dr hdr kdr sv hsv ksv tr htr ktr hf0 hf1 hf2 hf3 hf4 hf5 hf6 hf7 hf8 hf9 hf10 hf11 hf12 hf13 hr0 hr1 hr2 hr3 hr4 hr5 hr6 hr7 hr8 hr9) q_cL_221 q_dL_tick (by decide) rfl rfl hl.1 rfl (Nat.le_of_ble_eq_true rfl) dL_law_1736 (fun v9 H locs f2 h4 hF hB => ?_)
    obtain ⟨y3, rfl, ry3, h4⟩ := h4
    refine W.eq (g2 := F0 m 1739 ls [.int (q_i y3)]) rfl ?_
    have qy3 := h4
    have z5 : q_z f2 x 9 = 0 := (hF.z hx (by rw [kx]; rfl)).trans hf0
    have z6 : q_z f2 src 1 = 0 := (hF.z hsrc (by rw [ksrc]; rfl)).trans hf1
    have z7 : q_z f2 src 2 = 0 := (hF.z hsrc (by rw [ksrc]; rfl)).trans hf2
    have z8 : q_z f2 src 3 = (-1) := (hF.z hsrc (by rw [ksrc]; rfl)).trans hf3
    have z9 : q_z f2 hist 1 = 0 := (hF.z hhist (by rw [khist]; rfl)).trans hf4
    have z10 : q_z f2 hist 2 = 0 := (hF.z hhist (by rw [khist]; rfl)).trans hf5
    have z11 : q_z f2 rep 1 = 0 := (hF.z hrep (by rw [krep]; rfl)).trans hf6
    have z12 : q_z f2 now 3 = 0 := (hF.z hnow (by rw [know]; rfl)).trans hf7
    have z13 : q_z f2 now 4 = 0 := (hF.z hnow (by rw [know]; rfl)).trans hf8
    have z14 : q_z f2 now 5 = 0 := (hF.z hnow (by rw [know]; rfl)).trans hf9
    have z15 : q_z f2 now 6 = 12 := (hF.z hnow (by rw [know]; rfl)).trans hf10
    have z16 : q_z f2 now 10 = 3 := (hF.z hnow (by rw [know]; rfl)).trans hf11
    have z17 : q_z f2 now 11 = 0 := (hF.z hnow (by rw [know]; rfl)).trans hf12
    have z18 : q_z f2 now 12 = 0 := (hF.z hnow (by rw [know]; rfl)).trans hf13
    have z19 : q_z f2 mo 2 = 0 := (hF.z hmo (by rw [kmo]; rfl)).trans hf14
    have z20 : q_z f2 mo 8 = 0 := (hF.z hmo (by rw [kmo]; rfl)).trans hf15
    have z21 : q_z f2 mo 9 = (-1) := (hF.z hmo (by rw [kmo]; rfl)).trans hf16
    have z22 : q_z f2 mo 10 = 0 := (hF.z hmo (by rw [kmo]; rfl)).trans hf17
    have z23 : q_z f2 mo 11 = (-1) := (hF.z hmo (by rw [kmo]; rfl)).trans hf18
    have z24 : q_z f2 mo 21 = 0 := (hF.z hmo (by rw [kmo]; rfl)).trans hf19
    have z25 : q_z f2 mo 22 = 0 := (hF.z hmo (by rw [kmo]; rfl)).trans hf20
    have z26 : q_z f2 mo 40 = 0 := (hF.z hmo (by rw [kmo]; rfl)).trans hf21
    have z27 : q_z f2 sr 0 = 0 := (hF.z hsr (by rw [ksr]; rfl)).trans hf22
    have z28 : q_z f2 sr 1 = 0 := (hF.z hsr (by rw [ksr]; rfl)).trans hf23
    have z29 : q_z f2 sr 2 = 12 := (hF.z hsr (by rw [ksr]; rfl)).trans hf24
    have z30 : q_z f2 sr 3 = 0 := (hF.z hsr (by rw [ksr]; rfl)).trans hf25
    have z31 : q_z f2 sr 4 = 0 := (hF.z hsr (by rw [ksr]; rfl)).trans hf26
    have z32 : q_z f2 sr 5 = 1 := (hF.z hsr (by rw [ksr]; rfl)).trans hf27
    have z33 : q_z f2 sr 6 = 2 := (hF.z hsr (by rw [ksr]; rfl)).trans hf28
    have z34 : q_z f2 sr 7 = 5 := (hF.z hsr (by rw [ksr]; rfl)).trans hf29
    have z35 : q_z f2 sr 8 = 3 := (hF.z hsr (by rw [ksr]; rfl)).trans hf30
    have z36 : q_z f2 sr 9 = 0 := (hF.z hsr (by rw [ksr]; rfl)).trans hf31
    have z37 : q_r f2 x 0 = src := (hF.r hx (by rw [kx]; rfl)).trans hr0
    have z38 : q_r f2 x 1 = rdr := (hF.r hx (by rw [kx]; rfl)).trans hr1
    have z39 : q_r f2 x 2 = scr := (hF.r hx (by rw [kx]; rfl)).trans hr2
    have z40 : q_r f2 x 3 = fc := (hF.r hx (by rw [kx]; rfl)).trans hr3
    have z41 : q_r f2 x 4 = hist := (hF.r hx (by rw [kx]; rfl)).trans hr4
    have z42 : q_r f2 x 5 = rep := (hF.r hx (by rw [kx]; rfl)).trans hr5
    have z43 : q_r f2 x 6 = now := (hF.r hx (by rw [kx]; rfl)).trans hr6
    have z44 : q_r f2 x 7 = dr := (hF.r hx (by rw [kx]; rfl)).trans hr7
    have z45 : q_r f2 x 8 = sv := (hF.r hx (by rw [kx]; rfl)).trans hr8
    have z46 : q_r f2 fc 0 = tr := (hF.r hfc (by rw [kfc]; rfl)).trans hr9
    have z47 : q_r f2 mo 1 = bu := (hF.r hmo (by rw [kmo]; rfl)).trans hr10
    have z48 : q_r f2 mo 13 = sr := (hF.r hmo (by rw [kmo]; rfl)).trans hr11
    have z49 : q_r f2 mo 14 = sd := (hF.r hmo (by rw [kmo]; rfl)).trans hr12
    have z50 : q_r f2 mo 15 = as := (hF.r hmo (by rw [kmo]; rfl)).trans hr13
    have z51 : q_r f2 mo 16 = aw := (hF.r hmo (by rw [kmo]; rfl)).trans hr14
    have z52 : q_r f2 mo 17 = pa := (hF.r hmo (by rw [kmo]; rfl)).trans hr15
    have z53 : q_r f2 mo 18 = nm := (hF.r hmo (by rw [kmo]; rfl)).trans hr16
    have z54 : q_r f2 mo 19 = snm := (hF.r hmo (by rw [kmo]; rfl)).trans hr17
    have z55 : q_r f2 mo 20 = anm := (hF.r hmo (by rw [kmo]; rfl)).trans hr18
    subst qy3
    refine lv_istore (lv' := [(6, .int (q_i 1)), (5, .int (q_i 0)), (0, .ref b), (1, .ref x), (2, .ref mo), (3, .ref out), (4, .ref outD)]) cx.1 cx.2.1 dL_law_1739 hl (by decide) rfl (fun ls hl => ?_)
    refine q_ald_n cx dL_law_1741 rfl (lv_at hl 4 rfl) ?_
    refine q_ald_n cx dL_law_1742 rfl (lv_at hl 2 rfl) ?_
    refine lv_iload cx.1 cx.2.1 dL_law_1743 (lv_at hl 1 rfl) ?_
    refine q_iconst cx dL_law_1745 ?_
    refine q_iadd cx dL_law_1746 ?_
    refine va_sld cx.1 cx.2.1 hXs hbl hbA hB.1.2.2.2 (q_in (by decide) (by decide) (by decide)) dL_law_1747 ?_
    rw [show (q_i (0 + 1)).toNatClampNeg = 1 from by decide, ex1]
    refine q_cVi (As := [.int (q_i x1)]) (rest := []) cx hB (fun q h => hLA q h) hN hmo kmo (by decide) rfl (p_ticka l g hN hB.2.1 mo hmo kmo x1 (by omega) (by omega) bu hbu kbu sr hsr ksr sd hsd ksd as has kas aw haw kaw pa hpa kpa nm hnm knm snm hsnm ksnm anm hanm kanm z19 z20 z21 z22 z23 z24 z25 z26 z27 z28 z29 z30 z31 z32 z33 z34 z35 z36 z47 z48 z49 z50 z51 z52 z53 z54 z55) q_cL_223 q_dX12_tick (by decide) rfl rfl hl.1 rfl (Nat.le_of_ble_eq_true rfl) dL_law_1748 (fun y57 H locs f56 ry57 h58 hF hB => ?_)
    obtain ⟨qy57, z59⟩ := h58
    have z60 : q_z f56 x 9 = 0 := (hF.z hx (by rw [kx]; rfl)).trans z5
    have z61 : q_z f56 src 1 = 0 := (hF.z hsrc (by rw [ksrc]; rfl)).trans z6
    have z62 : q_z f56 src 2 = 0 := (hF.z hsrc (by rw [ksrc]; rfl)).trans z7
    have z63 : q_z f56 src 3 = (-1) := (hF.z hsrc (by rw [ksrc]; rfl)).trans z8
    have z64 : q_z f56 hist 1 = 0 := (hF.z hhist (by rw [khist]; rfl)).trans z9
    have z65 : q_z f56 hist 2 = 0 := (hF.z hhist (by rw [khist]; rfl)).trans z10
    have z66 : q_z f56 rep 1 = 0 := (hF.z hrep (by rw [krep]; rfl)).trans z11
    have z67 : q_z f56 now 3 = 0 := (hF.z hnow (by rw [know]; rfl)).trans z12
    have z68 : q_z f56 now 4 = 0 := (hF.z hnow (by rw [know]; rfl)).trans z13
    have z69 : q_z f56 now 5 = 0 := (hF.z hnow (by rw [know]; rfl)).trans z14
    have z70 : q_z f56 now 6 = 12 := (hF.z hnow (by rw [know]; rfl)).trans z15
    have z71 : q_z f56 now 10 = 3 := (hF.z hnow (by rw [know]; rfl)).trans z16
    have z72 : q_z f56 now 11 = 0 := (hF.z hnow (by rw [know]; rfl)).trans z17
    have z73 : q_z f56 now 12 = 0 := (hF.z hnow (by rw [know]; rfl)).trans z18
    have z74 : q_r f56 x 0 = src := (hF.r hx (by rw [kx]; rfl)).trans z37
    have z75 : q_r f56 x 1 = rdr := (hF.r hx (by rw [kx]; rfl)).trans z38
    have z76 : q_r f56 x 2 = scr := (hF.r hx (by rw [kx]; rfl)).trans z39
    have z77 : q_r f56 x 3 = fc := (hF.r hx (by rw [kx]; rfl)).trans z40
    have z78 : q_r f56 x 4 = hist := (hF.r hx (by rw [kx]; rfl)).trans z41
    have z79 : q_r f56 x 5 = rep := (hF.r hx (by rw [kx]; rfl)).trans z42
    have z80 : q_r f56 x 6 = now := (hF.r hx (by rw [kx]; rfl)).trans z43
    have z81 : q_r f56 x 7 = dr := (hF.r hx (by rw [kx]; rfl)).trans z44
    have z82 : q_r f56 x 8 = sv := (hF.r hx (by rw [kx]; rfl)).trans z45
    have z83 : q_r f56 fc 0 = tr := (hF.r hfc (by rw [kfc]; rfl)).trans z46
    subst qy57
    refine lv_istore (lv' := [(7, .int (q_i 0)), (6, .int (q_i 1)), (5, .int (q_i 0)), (0, .ref b), (1, .ref x), (2, .ref mo), (3, .ref out), (4, .ref outD)]) cx.1 cx.2.1 dL_law_1751 hl (by decide) rfl (fun ls hl => ?_)
    refine q_ald_n cx dL_law_1753 rfl (lv_at hl 5 rfl) ?_
    refine q_cVi (As := []) (rest := []) cx hB (fun q h => hLA q h) hN hmo kmo (by decide) rfl (r_thrown l g hN hB.2.1 mo hmo kmo 1 (by decide) (by decide) z59) q_cL_124 q_dX12_thrown (by decide) rfl rfl hl.1 rfl (Nat.le_of_ble_eq_true rfl) dL_law_1754 (fun y85 H locs f84 ry85 h86 hF hB => ?_)
    obtain ⟨rfl, qy85⟩ := h86
    subst qy85
    refine lv_iload cx.1 cx.2.1 dL_law_1757 (lv_at hl 1 rfl) ?_
    refine q_iceq (tgt := 1764) cx ⟨by decide, by decide⟩ ⟨by decide, by decide⟩ dL_law_1759 (by decide) (fun c87 => ?_) (fun c87 => ?_)
    · refine lv_iload cx.1 cx.2.1 dL_law_1764 (lv_at hl 1 rfl) ?_
      refine q_ifne (tgt := 1781) cx ⟨by decide, by decide⟩ dL_law_1766 (by decide) (fun c88 => ?_) (fun c88 => ?_)
      · refine lv_goto (tgt := 2394) cx.1 cx.2.1 dL_law_1781 (by decide) ?_
        refine q_iinc (lv' := [(5, .int (q_i (0 + 6))), (7, .int (q_i 0)), (6, .int (q_i 1)), (0, .ref b), (1, .ref x), (2, .ref mo), (3, .ref out), (4, .ref outD)]) cx dL_law_2394 hl (k := 2) rfl (by decide) rfl (fun ls hl => ?_)
        refine lv_goto (tgt := 28) cx.1 cx.2.1 dL_law_2397 (by decide) ?_
        refine lv_iload cx.1 cx.2.1 dL_law_28 (lv_at hl 0 rfl) ?_
        refine q_ald_n cx dL_law_30 rfl (lv_at hl 3 rfl) ?_
        refine va_slen cx.1 cx.2.1 hXs hbl hbA hB.1.2.2.2 dL_law_31 ?_
        rw [show Int32.ofNat 6 = q_i 6 from by decide]
        refine q_bipush cx dL_law_32 rfl ?_
        refine q_isub cx dL_law_34 ?_
        refine q_icgt (tgt := 2400) cx ⟨by decide, by decide⟩ ⟨by decide, by decide⟩ dL_law_35 (by decide) (fun c89 => ?_) (fun c89 => ?_)
        · refine q_iconst cx dL_law_2400 ?_
          exact q_lawret C0 hB (by decide) (by decide) dL_law_2401
        · exact absurd c89 (by omega)
      · exact absurd c88 (by omega)
    · exact absurd c87 (by omega)
  · by_cases c90 : x1 ≤ 99
    · refine q_cWS (As := [.ref x, .int (q_i x1), .ref out]) (rest := []) cx hX hB (fun q h => hLA q h) (fun q h1 h2 => absurd h1 (Nat.not_le_of_lt h2)) hN (w_tickb l g hN hB.2.1 hfl x hx kx x1 (by omega) (by omega) out hout kout src hsrc ksrc rdr hrdr krdr scr hscr kscr fc hfc kfc hist hhist khist rep hrep krep now hnow know dr hdr kdr sv hsv ksv tr htr ktr hf0 hf1 hf2 hf3 hf4 hf5 hf6 hf7 hf8 hf9 hf10 hf11 hf12 hf13 hr0 hr1 hr2 hr3 hr4 hr5 hr6 hr7 hr8 hr9) q_cL_221 q_dL_tick (by decide) rfl rfl hl.1 rfl (Nat.le_of_ble_eq_true rfl) dL_law_1736 (fun v9 H locs f91 h93 hF hB => ?_)
      obtain ⟨y92, rfl, ry92, h93⟩ := h93
      refine W.eq (g2 := F0 m 1739 ls [.int (q_i y92)]) rfl ?_
      obtain ⟨qy92, z94⟩ := h93
      have z95 : q_z f91 mo 2 = 0 := (hF.z hmo (by rw [kmo]; rfl)).trans hf14
      have z96 : q_z f91 mo 8 = 0 := (hF.z hmo (by rw [kmo]; rfl)).trans hf15
      have z97 : q_z f91 mo 9 = (-1) := (hF.z hmo (by rw [kmo]; rfl)).trans hf16
      have z98 : q_z f91 mo 10 = 0 := (hF.z hmo (by rw [kmo]; rfl)).trans hf17
      have z99 : q_z f91 mo 11 = (-1) := (hF.z hmo (by rw [kmo]; rfl)).trans hf18
      have z100 : q_z f91 mo 21 = 0 := (hF.z hmo (by rw [kmo]; rfl)).trans hf19
      have z101 : q_z f91 mo 22 = 0 := (hF.z hmo (by rw [kmo]; rfl)).trans hf20
      have z102 : q_z f91 mo 40 = 0 := (hF.z hmo (by rw [kmo]; rfl)).trans hf21
      have z103 : q_z f91 sr 0 = 0 := (hF.z hsr (by rw [ksr]; rfl)).trans hf22
      have z104 : q_z f91 sr 1 = 0 := (hF.z hsr (by rw [ksr]; rfl)).trans hf23
      have z105 : q_z f91 sr 2 = 12 := (hF.z hsr (by rw [ksr]; rfl)).trans hf24
      have z106 : q_z f91 sr 3 = 0 := (hF.z hsr (by rw [ksr]; rfl)).trans hf25
      have z107 : q_z f91 sr 4 = 0 := (hF.z hsr (by rw [ksr]; rfl)).trans hf26
      have z108 : q_z f91 sr 5 = 1 := (hF.z hsr (by rw [ksr]; rfl)).trans hf27
      have z109 : q_z f91 sr 6 = 2 := (hF.z hsr (by rw [ksr]; rfl)).trans hf28
      have z110 : q_z f91 sr 7 = 5 := (hF.z hsr (by rw [ksr]; rfl)).trans hf29
      have z111 : q_z f91 sr 8 = 3 := (hF.z hsr (by rw [ksr]; rfl)).trans hf30
      have z112 : q_z f91 sr 9 = 0 := (hF.z hsr (by rw [ksr]; rfl)).trans hf31
      have z113 : q_r f91 x 0 = src := (hF.r hx (by rw [kx]; rfl)).trans hr0
      have z114 : q_r f91 x 1 = rdr := (hF.r hx (by rw [kx]; rfl)).trans hr1
      have z115 : q_r f91 x 2 = scr := (hF.r hx (by rw [kx]; rfl)).trans hr2
      have z116 : q_r f91 x 3 = fc := (hF.r hx (by rw [kx]; rfl)).trans hr3
      have z117 : q_r f91 x 4 = hist := (hF.r hx (by rw [kx]; rfl)).trans hr4
      have z118 : q_r f91 x 5 = rep := (hF.r hx (by rw [kx]; rfl)).trans hr5
      have z119 : q_r f91 x 6 = now := (hF.r hx (by rw [kx]; rfl)).trans hr6
      have z120 : q_r f91 x 7 = dr := (hF.r hx (by rw [kx]; rfl)).trans hr7
      have z121 : q_r f91 x 8 = sv := (hF.r hx (by rw [kx]; rfl)).trans hr8
      have z122 : q_r f91 fc 0 = tr := (hF.r hfc (by rw [kfc]; rfl)).trans hr9
      have z123 : q_r f91 mo 1 = bu := (hF.r hmo (by rw [kmo]; rfl)).trans hr10
      have z124 : q_r f91 mo 13 = sr := (hF.r hmo (by rw [kmo]; rfl)).trans hr11
      have z125 : q_r f91 mo 14 = sd := (hF.r hmo (by rw [kmo]; rfl)).trans hr12
      have z126 : q_r f91 mo 15 = as := (hF.r hmo (by rw [kmo]; rfl)).trans hr13
      have z127 : q_r f91 mo 16 = aw := (hF.r hmo (by rw [kmo]; rfl)).trans hr14
      have z128 : q_r f91 mo 17 = pa := (hF.r hmo (by rw [kmo]; rfl)).trans hr15
      have z129 : q_r f91 mo 18 = nm := (hF.r hmo (by rw [kmo]; rfl)).trans hr16
      have z130 : q_r f91 mo 19 = snm := (hF.r hmo (by rw [kmo]; rfl)).trans hr17
      have z131 : q_r f91 mo 20 = anm := (hF.r hmo (by rw [kmo]; rfl)).trans hr18
      subst qy92
      refine lv_istore (lv' := [(6, .int (q_i 0)), (5, .int (q_i 0)), (0, .ref b), (1, .ref x), (2, .ref mo), (3, .ref out), (4, .ref outD)]) cx.1 cx.2.1 dL_law_1739 hl (by decide) rfl (fun ls hl => ?_)
      refine q_ald_n cx dL_law_1741 rfl (lv_at hl 4 rfl) ?_
      refine q_ald_n cx dL_law_1742 rfl (lv_at hl 2 rfl) ?_
      refine lv_iload cx.1 cx.2.1 dL_law_1743 (lv_at hl 1 rfl) ?_
      refine q_iconst cx dL_law_1745 ?_
      refine q_iadd cx dL_law_1746 ?_
      refine va_sld cx.1 cx.2.1 hXs hbl hbA hB.1.2.2.2 (q_in (by decide) (by decide) (by decide)) dL_law_1747 ?_
      rw [show (q_i (0 + 1)).toNatClampNeg = 1 from by decide, ex1]
      refine q_cVi (As := [.int (q_i x1)]) (rest := []) cx hB (fun q h => hLA q h) hN hmo kmo (by decide) rfl (p_tickb l g hN hB.2.1 mo hmo kmo x1 (by omega) (by omega) bu hbu kbu sr hsr ksr sd hsd ksd as has kas aw haw kaw pa hpa kpa nm hnm knm snm hsnm ksnm anm hanm kanm z95 z96 z97 z98 z99 z100 z101 z102 z103 z104 z105 z106 z107 z108 z109 z110 z111 z112 z123 z124 z125 z126 z127 z128 z129 z130 z131) q_cL_223 q_dX12_tick (by decide) rfl rfl hl.1 rfl (Nat.le_of_ble_eq_true rfl) dL_law_1748 (fun y133 H locs f132 ry133 h134 hF hB => ?_)
      obtain ⟨qy133, z135⟩ := h134
      have z136 : q_j f132 out 0 = (q_l 0) := (hF.j hout (by rw [kout]; rfl)).trans z94
      have z137 : q_r f132 x 0 = src := (hF.r hx (by rw [kx]; rfl)).trans z113
      have z138 : q_r f132 x 1 = rdr := (hF.r hx (by rw [kx]; rfl)).trans z114
      have z139 : q_r f132 x 2 = scr := (hF.r hx (by rw [kx]; rfl)).trans z115
      have z140 : q_r f132 x 3 = fc := (hF.r hx (by rw [kx]; rfl)).trans z116
      have z141 : q_r f132 x 4 = hist := (hF.r hx (by rw [kx]; rfl)).trans z117
      have z142 : q_r f132 x 5 = rep := (hF.r hx (by rw [kx]; rfl)).trans z118
      have z143 : q_r f132 x 6 = now := (hF.r hx (by rw [kx]; rfl)).trans z119
      have z144 : q_r f132 x 7 = dr := (hF.r hx (by rw [kx]; rfl)).trans z120
      have z145 : q_r f132 x 8 = sv := (hF.r hx (by rw [kx]; rfl)).trans z121
      have z146 : q_r f132 fc 0 = tr := (hF.r hfc (by rw [kfc]; rfl)).trans z122
      subst qy133
      refine lv_istore (lv' := [(7, .int (q_i 0)), (6, .int (q_i 0)), (5, .int (q_i 0)), (0, .ref b), (1, .ref x), (2, .ref mo), (3, .ref out), (4, .ref outD)]) cx.1 cx.2.1 dL_law_1751 hl (by decide) rfl (fun ls hl => ?_)
      refine q_ald_n cx dL_law_1753 rfl (lv_at hl 5 rfl) ?_
      refine q_cVi (As := []) (rest := []) cx hB (fun q h => hLA q h) hN hmo kmo (by decide) rfl (r_thrown l g hN hB.2.1 mo hmo kmo 0 (by decide) (by decide) z135) q_cL_124 q_dX12_thrown (by decide) rfl rfl hl.1 rfl (Nat.le_of_ble_eq_true rfl) dL_law_1754 (fun y148 H locs f147 ry148 h149 hF hB => ?_)
      obtain ⟨rfl, qy148⟩ := h149
      subst qy148
      refine lv_iload cx.1 cx.2.1 dL_law_1757 (lv_at hl 1 rfl) ?_
      refine q_iceq (tgt := 1764) cx ⟨by decide, by decide⟩ ⟨by decide, by decide⟩ dL_law_1759 (by decide) (fun c150 => ?_) (fun c150 => ?_)
      · refine lv_iload cx.1 cx.2.1 dL_law_1764 (lv_at hl 1 rfl) ?_
        refine q_ifne (tgt := 1781) cx ⟨by decide, by decide⟩ dL_law_1766 (by decide) (fun c151 => ?_) (fun c151 => ?_)
        · exact absurd c151 (by omega)
        · refine q_ald_n cx dL_law_1769 rfl (lv_at hl 6 rfl) ?_
          refine q_iconst cx dL_law_1770 ?_
          refine q_lald (n := 1) cx hB hout kout (by decide) rfl rfl (by decide) (by decide) (by decide) rfl z136 dL_law_1771 ?_
          refine lv_iload cx.1 cx.2.1 dL_law_1772 (lv_at hl 0 rfl) ?_
          refine q_i2l cx ⟨by decide, by decide⟩ dL_law_1774 ?_
          refine q_lcmp cx dL_law_1775 (fun y152 ly152 uy152 ey152 gy152 hy152 => ?_)
          rw [q_lInt ⟨by decide, by decide⟩] at ey152 hy152
          refine q_ifeq (tgt := 1781) cx ⟨by omega, by omega⟩ dL_law_1776 (by decide) (fun c153 => ?_) (fun c153 => ?_)
          · refine lv_goto (tgt := 2394) cx.1 cx.2.1 dL_law_1781 (by decide) ?_
            refine q_iinc (lv' := [(5, .int (q_i (0 + 6))), (7, .int (q_i 0)), (6, .int (q_i 0)), (0, .ref b), (1, .ref x), (2, .ref mo), (3, .ref out), (4, .ref outD)]) cx dL_law_2394 hl (k := 2) rfl (by decide) rfl (fun ls hl => ?_)
            refine lv_goto (tgt := 28) cx.1 cx.2.1 dL_law_2397 (by decide) ?_
            refine lv_iload cx.1 cx.2.1 dL_law_28 (lv_at hl 0 rfl) ?_
            refine q_ald_n cx dL_law_30 rfl (lv_at hl 3 rfl) ?_
            refine va_slen cx.1 cx.2.1 hXs hbl hbA hB.1.2.2.2 dL_law_31 ?_
            rw [show Int32.ofNat 6 = q_i 6 from by decide]
            refine q_bipush cx dL_law_32 rfl ?_
            refine q_isub cx dL_law_34 ?_
            refine q_icgt (tgt := 2400) cx ⟨by decide, by decide⟩ ⟨by decide, by decide⟩ dL_law_35 (by decide) (fun c154 => ?_) (fun c154 => ?_)
            · refine q_iconst cx dL_law_2400 ?_
              exact q_lawret C0 hB (by decide) (by decide) dL_law_2401
            · exact absurd c154 (by omega)
          · exact absurd c153 (by omega)
      · exact absurd c150 (by omega)
    · refine q_cWS (As := [.ref x, .int (q_i x1), .ref out]) (rest := []) cx hX hB (fun q h => hLA q h) (fun q h1 h2 => absurd h1 (Nat.not_le_of_lt h2)) hN (w_tickc l g hN hB.2.1 hfl x hx kx x1 (by omega) (by omega) out hout kout src hsrc ksrc rdr hrdr krdr scr hscr kscr fc hfc kfc hist hhist khist rep hrep krep now hnow know dr hdr kdr sv hsv ksv tr htr ktr hf0 hf1 hf2 hf3 hf4 hf5 hf6 hf7 hf8 hf9 hf10 hf11 hf12 hf13 hr0 hr1 hr2 hr3 hr4 hr5 hr6 hr7 hr8 hr9) q_cL_221 q_dL_tick (by decide) rfl rfl hl.1 rfl (Nat.le_of_ble_eq_true rfl) dL_law_1736 (fun v9 H locs f155 h157 hF hB => ?_)
      obtain ⟨y156, rfl, ry156, h157⟩ := h157
      refine W.eq (g2 := F0 m 1739 ls [.int (q_i y156)]) rfl ?_
      have qy156 := h157
      have z158 : q_z f155 x 9 = 0 := (hF.z hx (by rw [kx]; rfl)).trans hf0
      have z159 : q_z f155 src 1 = 0 := (hF.z hsrc (by rw [ksrc]; rfl)).trans hf1
      have z160 : q_z f155 src 2 = 0 := (hF.z hsrc (by rw [ksrc]; rfl)).trans hf2
      have z161 : q_z f155 src 3 = (-1) := (hF.z hsrc (by rw [ksrc]; rfl)).trans hf3
      have z162 : q_z f155 hist 1 = 0 := (hF.z hhist (by rw [khist]; rfl)).trans hf4
      have z163 : q_z f155 hist 2 = 0 := (hF.z hhist (by rw [khist]; rfl)).trans hf5
      have z164 : q_z f155 rep 1 = 0 := (hF.z hrep (by rw [krep]; rfl)).trans hf6
      have z165 : q_z f155 now 3 = 0 := (hF.z hnow (by rw [know]; rfl)).trans hf7
      have z166 : q_z f155 now 4 = 0 := (hF.z hnow (by rw [know]; rfl)).trans hf8
      have z167 : q_z f155 now 5 = 0 := (hF.z hnow (by rw [know]; rfl)).trans hf9
      have z168 : q_z f155 now 6 = 12 := (hF.z hnow (by rw [know]; rfl)).trans hf10
      have z169 : q_z f155 now 10 = 3 := (hF.z hnow (by rw [know]; rfl)).trans hf11
      have z170 : q_z f155 now 11 = 0 := (hF.z hnow (by rw [know]; rfl)).trans hf12
      have z171 : q_z f155 now 12 = 0 := (hF.z hnow (by rw [know]; rfl)).trans hf13
      have z172 : q_z f155 mo 2 = 0 := (hF.z hmo (by rw [kmo]; rfl)).trans hf14
      have z173 : q_z f155 mo 8 = 0 := (hF.z hmo (by rw [kmo]; rfl)).trans hf15
      have z174 : q_z f155 mo 9 = (-1) := (hF.z hmo (by rw [kmo]; rfl)).trans hf16
      have z175 : q_z f155 mo 10 = 0 := (hF.z hmo (by rw [kmo]; rfl)).trans hf17
      have z176 : q_z f155 mo 11 = (-1) := (hF.z hmo (by rw [kmo]; rfl)).trans hf18
      have z177 : q_z f155 mo 21 = 0 := (hF.z hmo (by rw [kmo]; rfl)).trans hf19
      have z178 : q_z f155 mo 22 = 0 := (hF.z hmo (by rw [kmo]; rfl)).trans hf20
      have z179 : q_z f155 mo 40 = 0 := (hF.z hmo (by rw [kmo]; rfl)).trans hf21
      have z180 : q_z f155 sr 0 = 0 := (hF.z hsr (by rw [ksr]; rfl)).trans hf22
      have z181 : q_z f155 sr 1 = 0 := (hF.z hsr (by rw [ksr]; rfl)).trans hf23
      have z182 : q_z f155 sr 2 = 12 := (hF.z hsr (by rw [ksr]; rfl)).trans hf24
      have z183 : q_z f155 sr 3 = 0 := (hF.z hsr (by rw [ksr]; rfl)).trans hf25
      have z184 : q_z f155 sr 4 = 0 := (hF.z hsr (by rw [ksr]; rfl)).trans hf26
      have z185 : q_z f155 sr 5 = 1 := (hF.z hsr (by rw [ksr]; rfl)).trans hf27
      have z186 : q_z f155 sr 6 = 2 := (hF.z hsr (by rw [ksr]; rfl)).trans hf28
      have z187 : q_z f155 sr 7 = 5 := (hF.z hsr (by rw [ksr]; rfl)).trans hf29
      have z188 : q_z f155 sr 8 = 3 := (hF.z hsr (by rw [ksr]; rfl)).trans hf30
      have z189 : q_z f155 sr 9 = 0 := (hF.z hsr (by rw [ksr]; rfl)).trans hf31
      have z190 : q_r f155 x 0 = src := (hF.r hx (by rw [kx]; rfl)).trans hr0
      have z191 : q_r f155 x 1 = rdr := (hF.r hx (by rw [kx]; rfl)).trans hr1
      have z192 : q_r f155 x 2 = scr := (hF.r hx (by rw [kx]; rfl)).trans hr2
      have z193 : q_r f155 x 3 = fc := (hF.r hx (by rw [kx]; rfl)).trans hr3
      have z194 : q_r f155 x 4 = hist := (hF.r hx (by rw [kx]; rfl)).trans hr4
      have z195 : q_r f155 x 5 = rep := (hF.r hx (by rw [kx]; rfl)).trans hr5
      have z196 : q_r f155 x 6 = now := (hF.r hx (by rw [kx]; rfl)).trans hr6
      have z197 : q_r f155 x 7 = dr := (hF.r hx (by rw [kx]; rfl)).trans hr7
      have z198 : q_r f155 x 8 = sv := (hF.r hx (by rw [kx]; rfl)).trans hr8
      have z199 : q_r f155 fc 0 = tr := (hF.r hfc (by rw [kfc]; rfl)).trans hr9
      have z200 : q_r f155 mo 1 = bu := (hF.r hmo (by rw [kmo]; rfl)).trans hr10
      have z201 : q_r f155 mo 13 = sr := (hF.r hmo (by rw [kmo]; rfl)).trans hr11
      have z202 : q_r f155 mo 14 = sd := (hF.r hmo (by rw [kmo]; rfl)).trans hr12
      have z203 : q_r f155 mo 15 = as := (hF.r hmo (by rw [kmo]; rfl)).trans hr13
      have z204 : q_r f155 mo 16 = aw := (hF.r hmo (by rw [kmo]; rfl)).trans hr14
      have z205 : q_r f155 mo 17 = pa := (hF.r hmo (by rw [kmo]; rfl)).trans hr15
      have z206 : q_r f155 mo 18 = nm := (hF.r hmo (by rw [kmo]; rfl)).trans hr16
      have z207 : q_r f155 mo 19 = snm := (hF.r hmo (by rw [kmo]; rfl)).trans hr17
      have z208 : q_r f155 mo 20 = anm := (hF.r hmo (by rw [kmo]; rfl)).trans hr18
      subst qy156
      refine lv_istore (lv' := [(6, .int (q_i 1)), (5, .int (q_i 0)), (0, .ref b), (1, .ref x), (2, .ref mo), (3, .ref out), (4, .ref outD)]) cx.1 cx.2.1 dL_law_1739 hl (by decide) rfl (fun ls hl => ?_)
      refine q_ald_n cx dL_law_1741 rfl (lv_at hl 4 rfl) ?_
      refine q_ald_n cx dL_law_1742 rfl (lv_at hl 2 rfl) ?_
      refine lv_iload cx.1 cx.2.1 dL_law_1743 (lv_at hl 1 rfl) ?_
      refine q_iconst cx dL_law_1745 ?_
      refine q_iadd cx dL_law_1746 ?_
      refine va_sld cx.1 cx.2.1 hXs hbl hbA hB.1.2.2.2 (q_in (by decide) (by decide) (by decide)) dL_law_1747 ?_
      rw [show (q_i (0 + 1)).toNatClampNeg = 1 from by decide, ex1]
      refine q_cVi (As := [.int (q_i x1)]) (rest := []) cx hB (fun q h => hLA q h) hN hmo kmo (by decide) rfl (p_tickc l g hN hB.2.1 mo hmo kmo x1 (by omega) (by omega) bu hbu kbu sr hsr ksr sd hsd ksd as has kas aw haw kaw pa hpa kpa nm hnm knm snm hsnm ksnm anm hanm kanm z172 z173 z174 z175 z176 z177 z178 z179 z180 z181 z182 z183 z184 z185 z186 z187 z188 z189 z200 z201 z202 z203 z204 z205 z206 z207 z208) q_cL_223 q_dX12_tick (by decide) rfl rfl hl.1 rfl (Nat.le_of_ble_eq_true rfl) dL_law_1748 (fun y210 H locs f209 ry210 h211 hF hB => ?_)
      obtain ⟨qy210, z212⟩ := h211
      have z213 : q_z f209 x 9 = 0 := (hF.z hx (by rw [kx]; rfl)).trans z158
      have z214 : q_z f209 src 1 = 0 := (hF.z hsrc (by rw [ksrc]; rfl)).trans z159
      have z215 : q_z f209 src 2 = 0 := (hF.z hsrc (by rw [ksrc]; rfl)).trans z160
      have z216 : q_z f209 src 3 = (-1) := (hF.z hsrc (by rw [ksrc]; rfl)).trans z161
      have z217 : q_z f209 hist 1 = 0 := (hF.z hhist (by rw [khist]; rfl)).trans z162
      have z218 : q_z f209 hist 2 = 0 := (hF.z hhist (by rw [khist]; rfl)).trans z163
      have z219 : q_z f209 rep 1 = 0 := (hF.z hrep (by rw [krep]; rfl)).trans z164
      have z220 : q_z f209 now 3 = 0 := (hF.z hnow (by rw [know]; rfl)).trans z165
      have z221 : q_z f209 now 4 = 0 := (hF.z hnow (by rw [know]; rfl)).trans z166
      have z222 : q_z f209 now 5 = 0 := (hF.z hnow (by rw [know]; rfl)).trans z167
      have z223 : q_z f209 now 6 = 12 := (hF.z hnow (by rw [know]; rfl)).trans z168
      have z224 : q_z f209 now 10 = 3 := (hF.z hnow (by rw [know]; rfl)).trans z169
      have z225 : q_z f209 now 11 = 0 := (hF.z hnow (by rw [know]; rfl)).trans z170
      have z226 : q_z f209 now 12 = 0 := (hF.z hnow (by rw [know]; rfl)).trans z171
      have z227 : q_r f209 x 0 = src := (hF.r hx (by rw [kx]; rfl)).trans z190
      have z228 : q_r f209 x 1 = rdr := (hF.r hx (by rw [kx]; rfl)).trans z191
      have z229 : q_r f209 x 2 = scr := (hF.r hx (by rw [kx]; rfl)).trans z192
      have z230 : q_r f209 x 3 = fc := (hF.r hx (by rw [kx]; rfl)).trans z193
      have z231 : q_r f209 x 4 = hist := (hF.r hx (by rw [kx]; rfl)).trans z194
      have z232 : q_r f209 x 5 = rep := (hF.r hx (by rw [kx]; rfl)).trans z195
      have z233 : q_r f209 x 6 = now := (hF.r hx (by rw [kx]; rfl)).trans z196
      have z234 : q_r f209 x 7 = dr := (hF.r hx (by rw [kx]; rfl)).trans z197
      have z235 : q_r f209 x 8 = sv := (hF.r hx (by rw [kx]; rfl)).trans z198
      have z236 : q_r f209 fc 0 = tr := (hF.r hfc (by rw [kfc]; rfl)).trans z199
      subst qy210
      refine lv_istore (lv' := [(7, .int (q_i 0)), (6, .int (q_i 1)), (5, .int (q_i 0)), (0, .ref b), (1, .ref x), (2, .ref mo), (3, .ref out), (4, .ref outD)]) cx.1 cx.2.1 dL_law_1751 hl (by decide) rfl (fun ls hl => ?_)
      refine q_ald_n cx dL_law_1753 rfl (lv_at hl 5 rfl) ?_
      refine q_cVi (As := []) (rest := []) cx hB (fun q h => hLA q h) hN hmo kmo (by decide) rfl (r_thrown l g hN hB.2.1 mo hmo kmo 1 (by decide) (by decide) z212) q_cL_124 q_dX12_thrown (by decide) rfl rfl hl.1 rfl (Nat.le_of_ble_eq_true rfl) dL_law_1754 (fun y238 H locs f237 ry238 h239 hF hB => ?_)
      obtain ⟨rfl, qy238⟩ := h239
      subst qy238
      refine lv_iload cx.1 cx.2.1 dL_law_1757 (lv_at hl 1 rfl) ?_
      refine q_iceq (tgt := 1764) cx ⟨by decide, by decide⟩ ⟨by decide, by decide⟩ dL_law_1759 (by decide) (fun c240 => ?_) (fun c240 => ?_)
      · refine lv_iload cx.1 cx.2.1 dL_law_1764 (lv_at hl 1 rfl) ?_
        refine q_ifne (tgt := 1781) cx ⟨by decide, by decide⟩ dL_law_1766 (by decide) (fun c241 => ?_) (fun c241 => ?_)
        · refine lv_goto (tgt := 2394) cx.1 cx.2.1 dL_law_1781 (by decide) ?_
          refine q_iinc (lv' := [(5, .int (q_i (0 + 6))), (7, .int (q_i 0)), (6, .int (q_i 1)), (0, .ref b), (1, .ref x), (2, .ref mo), (3, .ref out), (4, .ref outD)]) cx dL_law_2394 hl (k := 2) rfl (by decide) rfl (fun ls hl => ?_)
          refine lv_goto (tgt := 28) cx.1 cx.2.1 dL_law_2397 (by decide) ?_
          refine lv_iload cx.1 cx.2.1 dL_law_28 (lv_at hl 0 rfl) ?_
          refine q_ald_n cx dL_law_30 rfl (lv_at hl 3 rfl) ?_
          refine va_slen cx.1 cx.2.1 hXs hbl hbA hB.1.2.2.2 dL_law_31 ?_
          rw [show Int32.ofNat 6 = q_i 6 from by decide]
          refine q_bipush cx dL_law_32 rfl ?_
          refine q_isub cx dL_law_34 ?_
          refine q_icgt (tgt := 2400) cx ⟨by decide, by decide⟩ ⟨by decide, by decide⟩ dL_law_35 (by decide) (fun c242 => ?_) (fun c242 => ?_)
          · refine q_iconst cx dL_law_2400 ?_
            exact q_lawret C0 hB (by decide) (by decide) dL_law_2401
          · exact absurd c242 (by omega)
        · exact absurd c241 (by omega)
      · exact absurd c240 (by omega)
set_option maxHeartbeats 4000000 in
set_option maxRecDepth 100000 in
theorem law_c1784 {p : Program} {l : Launch} {e : Env} {s : State} {m : MethodId} {below : List Frame} {meth : Method} {c : Code} {b : Nat} {xs : Nat → Int32} (hfl : l.stackTraces = false) (C0 : lw_At p s m meth c b 6 xs) (cx : CallFix p m c cL_law 10 s #[Value.ref b] q_al RL) {g : q_G} {K : Nat → Nat} {L : List Nat} {f : Nat → va_E} {H : Heap} {locs : List Loc} {ls : Array Slot} (hN : L.Nodup) (hLA : ∀ q, q ∈ L → s.heap.size ≤ q) (hX : q_X (fun q => q ∈ L) s) (hB : q_B g K L (fun q => s.heap.size ≤ q) [(2, 1, 2), (6, 1, 1), (7, 1, 4), (8, 1, 9), (9, 0, 2), (10, 3, 15), (11, 9, 9), (12, 0, 40), (13, 3, 15), (14, 3, 15), (15, 3, 15), (16, 3, 15), (142, 0, 599), (150, 0, 599), (151, 0, 657), (152, 0, 657), (153, 0, 657), (154, 0, 657), (155, 0, 3947), (156, 0, 9), (157, 0, 9), (158, 0, 9), (168, 0, 0), (169, 0, 0)] f f s H locs) {x : Nat} (hx : x ∈ L) (kx : K x = 11) {src : Nat} (hsrc : src ∈ L) (ksrc : K src = 8) {rdr : Nat} (hrdr : rdr ∈ L) (krdr : K rdr = 9) {scr : Nat} (hscr : scr ∈ L) (kscr : K scr = 7) {fc : Nat} (hfc : fc ∈ L) (kfc : K fc = 1) {hist : Nat} (hhist : hist ∈ L) (khist : K hist = 2) {rep : Nat} (hrep : rep ∈ L) (krep : K rep = 6) {now : Nat} (hnow : now ∈ L) (know : K now = 10) {dr : Nat} (hdr : dr ∈ L) (kdr : K dr = 13) {sv : Nat} (hsv : sv ∈ L) (ksv : K sv = 14) {tr : Nat} (htr : tr ∈ L) (ktr : K tr = 15) {mo : Nat} (hmo : mo ∈ L) (kmo : K mo = 12) {bu : Nat} (hbu : bu ∈ L) (kbu : K bu = 150) {sr : Nat} (hsr : sr ∈ L) (ksr : K sr = 151) {sd : Nat} (hsd : sd ∈ L) (ksd : K sd = 152) {as : Nat} (has : as ∈ L) (kas : K as = 153) {aw : Nat} (haw : aw ∈ L) (kaw : K aw = 154) {pa : Nat} (hpa : pa ∈ L) (kpa : K pa = 155) {nm : Nat} (hnm : nm ∈ L) (knm : K nm = 156) {snm : Nat} (hsnm : snm ∈ L) (ksnm : K snm = 157) {anm : Nat} (hanm : anm ∈ L) (kanm : K anm = 158) {out : Nat} (hout : out ∈ L) (kout : K out = 168) {outD : Nat} (houtD : outD ∈ L) (koutD : K outD = 169) (hf0 : q_z f x 9 = 0) (hf1 : q_z f src 1 = 0) (hf2 : q_z f src 2 = 0) (hf3 : q_z f src 3 = (-1)) (hf4 : q_z f hist 1 = 0) (hf5 : q_z f hist 2 = 0) (hf6 : q_z f rep 1 = 0) (hf7 : q_z f now 3 = 0) (hf8 : q_z f now 4 = 0) (hf9 : q_z f now 5 = 0) (hf10 : q_z f now 6 = 12) (hf11 : q_z f now 10 = 3) (hf12 : q_z f now 11 = 0) (hf13 : q_z f now 12 = 0) (hf14 : q_z f mo 2 = 0) (hf15 : q_z f mo 8 = 0) (hf16 : q_z f mo 9 = (-1)) (hf17 : q_z f mo 10 = 0) (hf18 : q_z f mo 11 = (-1)) (hf19 : q_z f mo 21 = 0) (hf20 : q_z f mo 22 = 0) (hf21 : q_z f mo 40 = 0) (hf22 : q_z f sr 0 = 0) (hf23 : q_z f sr 1 = 0) (hf24 : q_z f sr 2 = 12) (hf25 : q_z f sr 3 = 0) (hf26 : q_z f sr 4 = 0) (hf27 : q_z f sr 5 = 1) (hf28 : q_z f sr 6 = 2) (hf29 : q_z f sr 7 = 5) (hf30 : q_z f sr 8 = 3) (hf31 : q_z f sr 9 = 0) (hr0 : q_r f x 0 = src) (hr1 : q_r f x 1 = rdr) (hr2 : q_r f x 2 = scr) (hr3 : q_r f x 3 = fc) (hr4 : q_r f x 4 = hist) (hr5 : q_r f x 5 = rep) (hr6 : q_r f x 6 = now) (hr7 : q_r f x 7 = dr) (hr8 : q_r f x 8 = sv) (hr9 : q_r f fc 0 = tr) (hr10 : q_r f mo 1 = bu) (hr11 : q_r f mo 13 = sr) (hr12 : q_r f mo 14 = sd) (hr13 : q_r f mo 15 = as) (hr14 : q_r f mo 16 = aw) (hr15 : q_r f mo 17 = pa) (hr16 : q_r f mo 18 = nm) (hr17 : q_r f mo 19 = snm) (hr18 : q_r f mo 20 = anm) (hl : lv_has ls 10 [(5, .int (q_i 0)), (0, .ref b), (1, .ref x), (2, .ref mo), (3, .ref out), (4, .ref outD)]) : W p l e room_1 s m #[Value.ref b] below meth c H locs 1100 20000 (lw_Z below #[Value.ref b] s) (F0 m 1784 ls []) := by
  have hXs := C0.2.2.2.2.2.2.1
  have hbl := C0.2.2.2.2.2.2.2.1
  have hbA := q_bA hbl
  obtain ⟨x0, rx0, ex0⟩ : ∃ z : Int, q_R z ∧ xs 0 = q_i z := ⟨_, q_rng _, (q_of _).symm⟩
  have lx0 := rx0.1
  have ux0 := rx0.2
  obtain ⟨x1, rx1, ex1⟩ : ∃ z : Int, q_R z ∧ xs 1 = q_i z := ⟨_, q_rng _, (q_of _).symm⟩
  have lx1 := rx1.1
  have ux1 := rx1.2
  obtain ⟨x2, rx2, ex2⟩ : ∃ z : Int, q_R z ∧ xs 2 = q_i z := ⟨_, q_rng _, (q_of _).symm⟩
  have lx2 := rx2.1
  have ux2 := rx2.2
  obtain ⟨x3, rx3, ex3⟩ : ∃ z : Int, q_R z ∧ xs 3 = q_i z := ⟨_, q_rng _, (q_of _).symm⟩
  have lx3 := rx3.1
  have ux3 := rx3.2
  obtain ⟨x4, rx4, ex4⟩ : ∃ z : Int, q_R z ∧ xs 4 = q_i z := ⟨_, q_rng _, (q_of _).symm⟩
  have lx4 := rx4.1
  have ux4 := rx4.2
  obtain ⟨x5, rx5, ex5⟩ : ∃ z : Int, q_R z ∧ xs 5 = q_i z := ⟨_, q_rng _, (q_of _).symm⟩
  have lx5 := rx5.1
  have ux5 := rx5.2
  refine q_ald_n cx dL_law_1784 rfl (lv_at hl 2 rfl) ?_
  refine q_ald_n cx dL_law_1785 rfl (lv_at hl 1 rfl) ?_
  refine lv_iload cx.1 cx.2.1 dL_law_1786 (lv_at hl 0 rfl) ?_
  refine q_iconst cx dL_law_1788 ?_
  refine q_iadd cx dL_law_1789 ?_
  refine va_sld cx.1 cx.2.1 hXs hbl hbA hB.1.2.2.2 (q_in (by decide) (by decide) (by decide)) dL_law_1790 ?_
  rw [show (q_i (0 + 1)).toNatClampNeg = 1 from by decide, ex1]
  refine q_ald_n cx dL_law_1791 rfl (lv_at hl 1 rfl) ?_
  refine lv_iload cx.1 cx.2.1 dL_law_1792 (lv_at hl 0 rfl) ?_
  refine q_iconst cx dL_law_1794 ?_
  refine q_iadd cx dL_law_1795 ?_
  refine va_sld cx.1 cx.2.1 hXs hbl hbA hB.1.2.2.2 (q_in (by decide) (by decide) (by decide)) dL_law_1796 ?_
  rw [show (q_i (0 + 2)).toNatClampNeg = 2 from by decide, ex2]
  refine q_ald_n cx dL_law_1797 rfl (lv_at hl 1 rfl) ?_
  refine lv_iload cx.1 cx.2.1 dL_law_1798 (lv_at hl 0 rfl) ?_
  refine q_iconst cx dL_law_1800 ?_
  refine q_iadd cx dL_law_1801 ?_
  refine va_sld cx.1 cx.2.1 hXs hbl hbA hB.1.2.2.2 (q_in (by decide) (by decide) (by decide)) dL_law_1802 ?_
  rw [show (q_i (0 + 3)).toNatClampNeg = 3 from by decide, ex3]
  refine q_ald_n cx dL_law_1803 rfl (lv_at hl 1 rfl) ?_
  refine lv_iload cx.1 cx.2.1 dL_law_1804 (lv_at hl 0 rfl) ?_
  refine q_iconst cx dL_law_1806 ?_
  refine q_iadd cx dL_law_1807 ?_
  refine va_sld cx.1 cx.2.1 hXs hbl hbA hB.1.2.2.2 (q_in (by decide) (by decide) (by decide)) dL_law_1808 ?_
  rw [show (q_i (0 + 4)).toNatClampNeg = 4 from by decide, ex4]
  refine q_ifeq (tgt := 1816) cx ⟨by omega, by omega⟩ dL_law_1809 (by decide) (fun c1 => ?_) (fun c1 => ?_)
  · refine q_iconst cx dL_law_1816 ?_
    refine q_ald_n cx dL_law_1817 rfl (lv_at hl 4 rfl) ?_
    refine q_cWS (As := [.ref x, .int (q_i x1), .int (q_i x2), .int (q_i x3), .int (q_i 0), .ref out]) (rest := []) cx hX hB (fun q h => hLA q h) (fun q h1 h2 => absurd h1 (Nat.not_le_of_lt h2)) hN (w_send l g hN hB.2.1 hfl x hx kx x1 (by omega) (by omega) x2 (by omega) (by omega) x3 (by omega) (by omega) 0 (by decide) (by decide) out hout kout src hsrc ksrc rdr hrdr krdr scr hscr kscr fc hfc kfc hist hhist khist rep hrep krep now hnow know dr hdr kdr sv hsv ksv tr htr ktr hf0 hf1 hf2 hf3 hf4 hf5 hf6 hf7 hf8 hf9 hf10 hf11 hf12 hf13 hr0 hr1 hr2 hr3 hr4 hr5 hr6 hr7 hr8 hr9) q_cL_224 q_dL_send (by decide) rfl rfl hl.1 rfl (Nat.le_of_ble_eq_true rfl) dL_law_1818 (fun v9 H locs f2 h4 hF hB => ?_)
    obtain ⟨y3, rfl, ry3, h4⟩ := h4
    refine W.eq (g2 := F0 m 1821 ls [.int (q_i y3)]) rfl ?_
    have qy3 := h4
    have z5 : q_z f2 x 9 = 0 := (hF.z hx (by rw [kx]; rfl)).trans hf0
    have z6 : q_z f2 src 1 = 0 := (hF.z hsrc (by rw [ksrc]; rfl)).trans hf1
    have z7 : q_z f2 src 2 = 0 := (hF.z hsrc (by rw [ksrc]; rfl)).trans hf2
    have z8 : q_z f2 src 3 = (-1) := (hF.z hsrc (by rw [ksrc]; rfl)).trans hf3
    have z9 : q_z f2 hist 1 = 0 := (hF.z hhist (by rw [khist]; rfl)).trans hf4
    have z10 : q_z f2 hist 2 = 0 := (hF.z hhist (by rw [khist]; rfl)).trans hf5
    have z11 : q_z f2 rep 1 = 0 := (hF.z hrep (by rw [krep]; rfl)).trans hf6
    have z12 : q_z f2 now 3 = 0 := (hF.z hnow (by rw [know]; rfl)).trans hf7
    have z13 : q_z f2 now 4 = 0 := (hF.z hnow (by rw [know]; rfl)).trans hf8
    have z14 : q_z f2 now 5 = 0 := (hF.z hnow (by rw [know]; rfl)).trans hf9
    have z15 : q_z f2 now 6 = 12 := (hF.z hnow (by rw [know]; rfl)).trans hf10
    have z16 : q_z f2 now 10 = 3 := (hF.z hnow (by rw [know]; rfl)).trans hf11
    have z17 : q_z f2 now 11 = 0 := (hF.z hnow (by rw [know]; rfl)).trans hf12
    have z18 : q_z f2 now 12 = 0 := (hF.z hnow (by rw [know]; rfl)).trans hf13
    have z19 : q_z f2 mo 2 = 0 := (hF.z hmo (by rw [kmo]; rfl)).trans hf14
    have z20 : q_z f2 mo 8 = 0 := (hF.z hmo (by rw [kmo]; rfl)).trans hf15
    have z21 : q_z f2 mo 9 = (-1) := (hF.z hmo (by rw [kmo]; rfl)).trans hf16
    have z22 : q_z f2 mo 10 = 0 := (hF.z hmo (by rw [kmo]; rfl)).trans hf17
    have z23 : q_z f2 mo 11 = (-1) := (hF.z hmo (by rw [kmo]; rfl)).trans hf18
    have z24 : q_z f2 mo 21 = 0 := (hF.z hmo (by rw [kmo]; rfl)).trans hf19
    have z25 : q_z f2 mo 22 = 0 := (hF.z hmo (by rw [kmo]; rfl)).trans hf20
    have z26 : q_z f2 mo 40 = 0 := (hF.z hmo (by rw [kmo]; rfl)).trans hf21
    have z27 : q_z f2 sr 0 = 0 := (hF.z hsr (by rw [ksr]; rfl)).trans hf22
    have z28 : q_z f2 sr 1 = 0 := (hF.z hsr (by rw [ksr]; rfl)).trans hf23
    have z29 : q_z f2 sr 2 = 12 := (hF.z hsr (by rw [ksr]; rfl)).trans hf24
    have z30 : q_z f2 sr 3 = 0 := (hF.z hsr (by rw [ksr]; rfl)).trans hf25
    have z31 : q_z f2 sr 4 = 0 := (hF.z hsr (by rw [ksr]; rfl)).trans hf26
    have z32 : q_z f2 sr 5 = 1 := (hF.z hsr (by rw [ksr]; rfl)).trans hf27
    have z33 : q_z f2 sr 6 = 2 := (hF.z hsr (by rw [ksr]; rfl)).trans hf28
    have z34 : q_z f2 sr 7 = 5 := (hF.z hsr (by rw [ksr]; rfl)).trans hf29
    have z35 : q_z f2 sr 8 = 3 := (hF.z hsr (by rw [ksr]; rfl)).trans hf30
    have z36 : q_z f2 sr 9 = 0 := (hF.z hsr (by rw [ksr]; rfl)).trans hf31
    have z37 : q_r f2 x 0 = src := (hF.r hx (by rw [kx]; rfl)).trans hr0
    have z38 : q_r f2 x 1 = rdr := (hF.r hx (by rw [kx]; rfl)).trans hr1
    have z39 : q_r f2 x 2 = scr := (hF.r hx (by rw [kx]; rfl)).trans hr2
    have z40 : q_r f2 x 3 = fc := (hF.r hx (by rw [kx]; rfl)).trans hr3
    have z41 : q_r f2 x 4 = hist := (hF.r hx (by rw [kx]; rfl)).trans hr4
    have z42 : q_r f2 x 5 = rep := (hF.r hx (by rw [kx]; rfl)).trans hr5
    have z43 : q_r f2 x 6 = now := (hF.r hx (by rw [kx]; rfl)).trans hr6
    have z44 : q_r f2 x 7 = dr := (hF.r hx (by rw [kx]; rfl)).trans hr7
    have z45 : q_r f2 x 8 = sv := (hF.r hx (by rw [kx]; rfl)).trans hr8
    have z46 : q_r f2 fc 0 = tr := (hF.r hfc (by rw [kfc]; rfl)).trans hr9
    have z47 : q_r f2 mo 1 = bu := (hF.r hmo (by rw [kmo]; rfl)).trans hr10
    have z48 : q_r f2 mo 13 = sr := (hF.r hmo (by rw [kmo]; rfl)).trans hr11
    have z49 : q_r f2 mo 14 = sd := (hF.r hmo (by rw [kmo]; rfl)).trans hr12
    have z50 : q_r f2 mo 15 = as := (hF.r hmo (by rw [kmo]; rfl)).trans hr13
    have z51 : q_r f2 mo 16 = aw := (hF.r hmo (by rw [kmo]; rfl)).trans hr14
    have z52 : q_r f2 mo 17 = pa := (hF.r hmo (by rw [kmo]; rfl)).trans hr15
    have z53 : q_r f2 mo 18 = nm := (hF.r hmo (by rw [kmo]; rfl)).trans hr16
    have z54 : q_r f2 mo 19 = snm := (hF.r hmo (by rw [kmo]; rfl)).trans hr17
    have z55 : q_r f2 mo 20 = anm := (hF.r hmo (by rw [kmo]; rfl)).trans hr18
    subst qy3
    refine lv_istore (lv' := [(6, .int (q_i 1)), (5, .int (q_i 0)), (0, .ref b), (1, .ref x), (2, .ref mo), (3, .ref out), (4, .ref outD)]) cx.1 cx.2.1 dL_law_1821 hl (by decide) rfl (fun ls hl => ?_)
    refine q_ald_n cx dL_law_1823 rfl (lv_at hl 4 rfl) ?_
    refine q_ald_n cx dL_law_1824 rfl (lv_at hl 2 rfl) ?_
    refine lv_iload cx.1 cx.2.1 dL_law_1825 (lv_at hl 1 rfl) ?_
    refine q_iconst cx dL_law_1827 ?_
    refine q_iadd cx dL_law_1828 ?_
    refine va_sld cx.1 cx.2.1 hXs hbl hbA hB.1.2.2.2 (q_in (by decide) (by decide) (by decide)) dL_law_1829 ?_
    rw [show (q_i (0 + 1)).toNatClampNeg = 1 from by decide, ex1]
    refine q_ald_n cx dL_law_1830 rfl (lv_at hl 2 rfl) ?_
    refine lv_iload cx.1 cx.2.1 dL_law_1831 (lv_at hl 1 rfl) ?_
    refine q_iconst cx dL_law_1833 ?_
    refine q_iadd cx dL_law_1834 ?_
    refine va_sld cx.1 cx.2.1 hXs hbl hbA hB.1.2.2.2 (q_in (by decide) (by decide) (by decide)) dL_law_1835 ?_
    rw [show (q_i (0 + 2)).toNatClampNeg = 2 from by decide, ex2]
    refine q_ald_n cx dL_law_1836 rfl (lv_at hl 2 rfl) ?_
    refine lv_iload cx.1 cx.2.1 dL_law_1837 (lv_at hl 1 rfl) ?_
    refine q_iconst cx dL_law_1839 ?_
    refine q_iadd cx dL_law_1840 ?_
    refine va_sld cx.1 cx.2.1 hXs hbl hbA hB.1.2.2.2 (q_in (by decide) (by decide) (by decide)) dL_law_1841 ?_
    rw [show (q_i (0 + 3)).toNatClampNeg = 3 from by decide, ex3]
    refine q_ald_n cx dL_law_1842 rfl (lv_at hl 2 rfl) ?_
    refine lv_iload cx.1 cx.2.1 dL_law_1843 (lv_at hl 1 rfl) ?_
    refine q_iconst cx dL_law_1845 ?_
    refine q_iadd cx dL_law_1846 ?_
    refine va_sld cx.1 cx.2.1 hXs hbl hbA hB.1.2.2.2 (q_in (by decide) (by decide) (by decide)) dL_law_1847 ?_
    rw [show (q_i (0 + 4)).toNatClampNeg = 4 from by decide, ex4]
    refine q_ifeq (tgt := 1855) cx ⟨by omega, by omega⟩ dL_law_1848 (by decide) (fun c56 => ?_) (fun c56 => ?_)
    · refine q_iconst cx dL_law_1855 ?_
      refine q_cVi (As := [.int (q_i x1), .int (q_i x2), .int (q_i x3), .int (q_i 0)]) (rest := []) cx hB (fun q h => hLA q h) hN hmo kmo (by decide) rfl (p_send l g hN hB.2.1 mo hmo kmo x1 (by omega) (by omega) x2 (by omega) (by omega) x3 (by omega) (by omega) 0 (by decide) (by decide) bu hbu kbu sr hsr ksr sd hsd ksd as has kas aw haw kaw pa hpa kpa nm hnm knm snm hsnm ksnm anm hanm kanm z19 z20 z21 z22 z23 z24 z25 z26 z27 z28 z29 z30 z31 z32 z33 z34 z35 z36 z47 z48 z49 z50 z51 z52 z53 z54 z55) q_cL_227 q_dX12_send (by decide) rfl rfl hl.1 rfl (Nat.le_of_ble_eq_true rfl) dL_law_1856 (fun y58 H locs f57 ry58 h59 hF hB => ?_)
      obtain ⟨qy58, z60⟩ := h59
      have z61 : q_z f57 x 9 = 0 := (hF.z hx (by rw [kx]; rfl)).trans z5
      have z62 : q_z f57 src 1 = 0 := (hF.z hsrc (by rw [ksrc]; rfl)).trans z6
      have z63 : q_z f57 src 2 = 0 := (hF.z hsrc (by rw [ksrc]; rfl)).trans z7
      have z64 : q_z f57 src 3 = (-1) := (hF.z hsrc (by rw [ksrc]; rfl)).trans z8
      have z65 : q_z f57 hist 1 = 0 := (hF.z hhist (by rw [khist]; rfl)).trans z9
      have z66 : q_z f57 hist 2 = 0 := (hF.z hhist (by rw [khist]; rfl)).trans z10
      have z67 : q_z f57 rep 1 = 0 := (hF.z hrep (by rw [krep]; rfl)).trans z11
      have z68 : q_z f57 now 3 = 0 := (hF.z hnow (by rw [know]; rfl)).trans z12
      have z69 : q_z f57 now 4 = 0 := (hF.z hnow (by rw [know]; rfl)).trans z13
      have z70 : q_z f57 now 5 = 0 := (hF.z hnow (by rw [know]; rfl)).trans z14
      have z71 : q_z f57 now 6 = 12 := (hF.z hnow (by rw [know]; rfl)).trans z15
      have z72 : q_z f57 now 10 = 3 := (hF.z hnow (by rw [know]; rfl)).trans z16
      have z73 : q_z f57 now 11 = 0 := (hF.z hnow (by rw [know]; rfl)).trans z17
      have z74 : q_z f57 now 12 = 0 := (hF.z hnow (by rw [know]; rfl)).trans z18
      have z75 : q_r f57 x 0 = src := (hF.r hx (by rw [kx]; rfl)).trans z37
      have z76 : q_r f57 x 1 = rdr := (hF.r hx (by rw [kx]; rfl)).trans z38
      have z77 : q_r f57 x 2 = scr := (hF.r hx (by rw [kx]; rfl)).trans z39
      have z78 : q_r f57 x 3 = fc := (hF.r hx (by rw [kx]; rfl)).trans z40
      have z79 : q_r f57 x 4 = hist := (hF.r hx (by rw [kx]; rfl)).trans z41
      have z80 : q_r f57 x 5 = rep := (hF.r hx (by rw [kx]; rfl)).trans z42
      have z81 : q_r f57 x 6 = now := (hF.r hx (by rw [kx]; rfl)).trans z43
      have z82 : q_r f57 x 7 = dr := (hF.r hx (by rw [kx]; rfl)).trans z44
      have z83 : q_r f57 x 8 = sv := (hF.r hx (by rw [kx]; rfl)).trans z45
      have z84 : q_r f57 fc 0 = tr := (hF.r hfc (by rw [kfc]; rfl)).trans z46
      subst qy58
      refine lv_istore (lv' := [(7, .int (q_i 0)), (6, .int (q_i 1)), (5, .int (q_i 0)), (0, .ref b), (1, .ref x), (2, .ref mo), (3, .ref out), (4, .ref outD)]) cx.1 cx.2.1 dL_law_1859 hl (by decide) rfl (fun ls hl => ?_)
      refine q_ald_n cx dL_law_1861 rfl (lv_at hl 5 rfl) ?_
      refine q_cVi (As := []) (rest := []) cx hB (fun q h => hLA q h) hN hmo kmo (by decide) rfl (r_thrown l g hN hB.2.1 mo hmo kmo 1 (by decide) (by decide) z60) q_cL_124 q_dX12_thrown (by decide) rfl rfl hl.1 rfl (Nat.le_of_ble_eq_true rfl) dL_law_1862 (fun y86 H locs f85 ry86 h87 hF hB => ?_)
      obtain ⟨rfl, qy86⟩ := h87
      subst qy86
      refine lv_iload cx.1 cx.2.1 dL_law_1865 (lv_at hl 1 rfl) ?_
      refine q_iceq (tgt := 1872) cx ⟨by decide, by decide⟩ ⟨by decide, by decide⟩ dL_law_1867 (by decide) (fun c88 => ?_) (fun c88 => ?_)
      · refine lv_iload cx.1 cx.2.1 dL_law_1872 (lv_at hl 1 rfl) ?_
        refine q_ifne (tgt := 1889) cx ⟨by decide, by decide⟩ dL_law_1874 (by decide) (fun c89 => ?_) (fun c89 => ?_)
        · refine lv_goto (tgt := 2394) cx.1 cx.2.1 dL_law_1889 (by decide) ?_
          refine q_iinc (lv' := [(5, .int (q_i (0 + 6))), (7, .int (q_i 0)), (6, .int (q_i 1)), (0, .ref b), (1, .ref x), (2, .ref mo), (3, .ref out), (4, .ref outD)]) cx dL_law_2394 hl (k := 2) rfl (by decide) rfl (fun ls hl => ?_)
          refine lv_goto (tgt := 28) cx.1 cx.2.1 dL_law_2397 (by decide) ?_
          refine lv_iload cx.1 cx.2.1 dL_law_28 (lv_at hl 0 rfl) ?_
          refine q_ald_n cx dL_law_30 rfl (lv_at hl 3 rfl) ?_
          refine va_slen cx.1 cx.2.1 hXs hbl hbA hB.1.2.2.2 dL_law_31 ?_
          rw [show Int32.ofNat 6 = q_i 6 from by decide]
          refine q_bipush cx dL_law_32 rfl ?_
          refine q_isub cx dL_law_34 ?_
          refine q_icgt (tgt := 2400) cx ⟨by decide, by decide⟩ ⟨by decide, by decide⟩ dL_law_35 (by decide) (fun c90 => ?_) (fun c90 => ?_)
          · refine q_iconst cx dL_law_2400 ?_
            exact q_lawret C0 hB (by decide) (by decide) dL_law_2401
          · exact absurd c90 (by omega)
        · exact absurd c89 (by omega)
      · exact absurd c88 (by omega)
    · exact absurd c56 (by omega)
  · refine q_iconst cx dL_law_1812 ?_
    refine lv_goto (tgt := 1817) cx.1 cx.2.1 dL_law_1813 (by decide) ?_
    refine q_ald_n cx dL_law_1817 rfl (lv_at hl 4 rfl) ?_
    refine q_cWS (As := [.ref x, .int (q_i x1), .int (q_i x2), .int (q_i x3), .int (q_i 1), .ref out]) (rest := []) cx hX hB (fun q h => hLA q h) (fun q h1 h2 => absurd h1 (Nat.not_le_of_lt h2)) hN (w_send l g hN hB.2.1 hfl x hx kx x1 (by omega) (by omega) x2 (by omega) (by omega) x3 (by omega) (by omega) 1 (by decide) (by decide) out hout kout src hsrc ksrc rdr hrdr krdr scr hscr kscr fc hfc kfc hist hhist khist rep hrep krep now hnow know dr hdr kdr sv hsv ksv tr htr ktr hf0 hf1 hf2 hf3 hf4 hf5 hf6 hf7 hf8 hf9 hf10 hf11 hf12 hf13 hr0 hr1 hr2 hr3 hr4 hr5 hr6 hr7 hr8 hr9) q_cL_224 q_dL_send (by decide) rfl rfl hl.1 rfl (Nat.le_of_ble_eq_true rfl) dL_law_1818 (fun v9 H locs f91 h93 hF hB => ?_)
    obtain ⟨y92, rfl, ry92, h93⟩ := h93
    refine W.eq (g2 := F0 m 1821 ls [.int (q_i y92)]) rfl ?_
    have qy92 := h93
    have z94 : q_z f91 x 9 = 0 := (hF.z hx (by rw [kx]; rfl)).trans hf0
    have z95 : q_z f91 src 1 = 0 := (hF.z hsrc (by rw [ksrc]; rfl)).trans hf1
    have z96 : q_z f91 src 2 = 0 := (hF.z hsrc (by rw [ksrc]; rfl)).trans hf2
    have z97 : q_z f91 src 3 = (-1) := (hF.z hsrc (by rw [ksrc]; rfl)).trans hf3
    have z98 : q_z f91 hist 1 = 0 := (hF.z hhist (by rw [khist]; rfl)).trans hf4
    have z99 : q_z f91 hist 2 = 0 := (hF.z hhist (by rw [khist]; rfl)).trans hf5
    have z100 : q_z f91 rep 1 = 0 := (hF.z hrep (by rw [krep]; rfl)).trans hf6
    have z101 : q_z f91 now 3 = 0 := (hF.z hnow (by rw [know]; rfl)).trans hf7
    have z102 : q_z f91 now 4 = 0 := (hF.z hnow (by rw [know]; rfl)).trans hf8
    have z103 : q_z f91 now 5 = 0 := (hF.z hnow (by rw [know]; rfl)).trans hf9
    have z104 : q_z f91 now 6 = 12 := (hF.z hnow (by rw [know]; rfl)).trans hf10
    have z105 : q_z f91 now 10 = 3 := (hF.z hnow (by rw [know]; rfl)).trans hf11
    have z106 : q_z f91 now 11 = 0 := (hF.z hnow (by rw [know]; rfl)).trans hf12
    have z107 : q_z f91 now 12 = 0 := (hF.z hnow (by rw [know]; rfl)).trans hf13
    have z108 : q_z f91 mo 2 = 0 := (hF.z hmo (by rw [kmo]; rfl)).trans hf14
    have z109 : q_z f91 mo 8 = 0 := (hF.z hmo (by rw [kmo]; rfl)).trans hf15
    have z110 : q_z f91 mo 9 = (-1) := (hF.z hmo (by rw [kmo]; rfl)).trans hf16
    have z111 : q_z f91 mo 10 = 0 := (hF.z hmo (by rw [kmo]; rfl)).trans hf17
    have z112 : q_z f91 mo 11 = (-1) := (hF.z hmo (by rw [kmo]; rfl)).trans hf18
    have z113 : q_z f91 mo 21 = 0 := (hF.z hmo (by rw [kmo]; rfl)).trans hf19
    have z114 : q_z f91 mo 22 = 0 := (hF.z hmo (by rw [kmo]; rfl)).trans hf20
    have z115 : q_z f91 mo 40 = 0 := (hF.z hmo (by rw [kmo]; rfl)).trans hf21
    have z116 : q_z f91 sr 0 = 0 := (hF.z hsr (by rw [ksr]; rfl)).trans hf22
    have z117 : q_z f91 sr 1 = 0 := (hF.z hsr (by rw [ksr]; rfl)).trans hf23
    have z118 : q_z f91 sr 2 = 12 := (hF.z hsr (by rw [ksr]; rfl)).trans hf24
    have z119 : q_z f91 sr 3 = 0 := (hF.z hsr (by rw [ksr]; rfl)).trans hf25
    have z120 : q_z f91 sr 4 = 0 := (hF.z hsr (by rw [ksr]; rfl)).trans hf26
    have z121 : q_z f91 sr 5 = 1 := (hF.z hsr (by rw [ksr]; rfl)).trans hf27
    have z122 : q_z f91 sr 6 = 2 := (hF.z hsr (by rw [ksr]; rfl)).trans hf28
    have z123 : q_z f91 sr 7 = 5 := (hF.z hsr (by rw [ksr]; rfl)).trans hf29
    have z124 : q_z f91 sr 8 = 3 := (hF.z hsr (by rw [ksr]; rfl)).trans hf30
    have z125 : q_z f91 sr 9 = 0 := (hF.z hsr (by rw [ksr]; rfl)).trans hf31
    have z126 : q_r f91 x 0 = src := (hF.r hx (by rw [kx]; rfl)).trans hr0
    have z127 : q_r f91 x 1 = rdr := (hF.r hx (by rw [kx]; rfl)).trans hr1
    have z128 : q_r f91 x 2 = scr := (hF.r hx (by rw [kx]; rfl)).trans hr2
    have z129 : q_r f91 x 3 = fc := (hF.r hx (by rw [kx]; rfl)).trans hr3
    have z130 : q_r f91 x 4 = hist := (hF.r hx (by rw [kx]; rfl)).trans hr4
    have z131 : q_r f91 x 5 = rep := (hF.r hx (by rw [kx]; rfl)).trans hr5
    have z132 : q_r f91 x 6 = now := (hF.r hx (by rw [kx]; rfl)).trans hr6
    have z133 : q_r f91 x 7 = dr := (hF.r hx (by rw [kx]; rfl)).trans hr7
    have z134 : q_r f91 x 8 = sv := (hF.r hx (by rw [kx]; rfl)).trans hr8
    have z135 : q_r f91 fc 0 = tr := (hF.r hfc (by rw [kfc]; rfl)).trans hr9
    have z136 : q_r f91 mo 1 = bu := (hF.r hmo (by rw [kmo]; rfl)).trans hr10
    have z137 : q_r f91 mo 13 = sr := (hF.r hmo (by rw [kmo]; rfl)).trans hr11
    have z138 : q_r f91 mo 14 = sd := (hF.r hmo (by rw [kmo]; rfl)).trans hr12
    have z139 : q_r f91 mo 15 = as := (hF.r hmo (by rw [kmo]; rfl)).trans hr13
    have z140 : q_r f91 mo 16 = aw := (hF.r hmo (by rw [kmo]; rfl)).trans hr14
    have z141 : q_r f91 mo 17 = pa := (hF.r hmo (by rw [kmo]; rfl)).trans hr15
    have z142 : q_r f91 mo 18 = nm := (hF.r hmo (by rw [kmo]; rfl)).trans hr16
    have z143 : q_r f91 mo 19 = snm := (hF.r hmo (by rw [kmo]; rfl)).trans hr17
    have z144 : q_r f91 mo 20 = anm := (hF.r hmo (by rw [kmo]; rfl)).trans hr18
    subst qy92
    refine lv_istore (lv' := [(6, .int (q_i 1)), (5, .int (q_i 0)), (0, .ref b), (1, .ref x), (2, .ref mo), (3, .ref out), (4, .ref outD)]) cx.1 cx.2.1 dL_law_1821 hl (by decide) rfl (fun ls hl => ?_)
    refine q_ald_n cx dL_law_1823 rfl (lv_at hl 4 rfl) ?_
    refine q_ald_n cx dL_law_1824 rfl (lv_at hl 2 rfl) ?_
    refine lv_iload cx.1 cx.2.1 dL_law_1825 (lv_at hl 1 rfl) ?_
    refine q_iconst cx dL_law_1827 ?_
    refine q_iadd cx dL_law_1828 ?_
    refine va_sld cx.1 cx.2.1 hXs hbl hbA hB.1.2.2.2 (q_in (by decide) (by decide) (by decide)) dL_law_1829 ?_
    rw [show (q_i (0 + 1)).toNatClampNeg = 1 from by decide, ex1]
    refine q_ald_n cx dL_law_1830 rfl (lv_at hl 2 rfl) ?_
    refine lv_iload cx.1 cx.2.1 dL_law_1831 (lv_at hl 1 rfl) ?_
    refine q_iconst cx dL_law_1833 ?_
    refine q_iadd cx dL_law_1834 ?_
    refine va_sld cx.1 cx.2.1 hXs hbl hbA hB.1.2.2.2 (q_in (by decide) (by decide) (by decide)) dL_law_1835 ?_
    rw [show (q_i (0 + 2)).toNatClampNeg = 2 from by decide, ex2]
    refine q_ald_n cx dL_law_1836 rfl (lv_at hl 2 rfl) ?_
    refine lv_iload cx.1 cx.2.1 dL_law_1837 (lv_at hl 1 rfl) ?_
    refine q_iconst cx dL_law_1839 ?_
    refine q_iadd cx dL_law_1840 ?_
    refine va_sld cx.1 cx.2.1 hXs hbl hbA hB.1.2.2.2 (q_in (by decide) (by decide) (by decide)) dL_law_1841 ?_
    rw [show (q_i (0 + 3)).toNatClampNeg = 3 from by decide, ex3]
    refine q_ald_n cx dL_law_1842 rfl (lv_at hl 2 rfl) ?_
    refine lv_iload cx.1 cx.2.1 dL_law_1843 (lv_at hl 1 rfl) ?_
    refine q_iconst cx dL_law_1845 ?_
    refine q_iadd cx dL_law_1846 ?_
    refine va_sld cx.1 cx.2.1 hXs hbl hbA hB.1.2.2.2 (q_in (by decide) (by decide) (by decide)) dL_law_1847 ?_
    rw [show (q_i (0 + 4)).toNatClampNeg = 4 from by decide, ex4]
    refine q_ifeq (tgt := 1855) cx ⟨by omega, by omega⟩ dL_law_1848 (by decide) (fun c145 => ?_) (fun c145 => ?_)
    · refine q_iconst cx dL_law_1855 ?_
      refine q_cVi (As := [.int (q_i x1), .int (q_i x2), .int (q_i x3), .int (q_i 0)]) (rest := []) cx hB (fun q h => hLA q h) hN hmo kmo (by decide) rfl (p_send l g hN hB.2.1 mo hmo kmo x1 (by omega) (by omega) x2 (by omega) (by omega) x3 (by omega) (by omega) 0 (by decide) (by decide) bu hbu kbu sr hsr ksr sd hsd ksd as has kas aw haw kaw pa hpa kpa nm hnm knm snm hsnm ksnm anm hanm kanm z108 z109 z110 z111 z112 z113 z114 z115 z116 z117 z118 z119 z120 z121 z122 z123 z124 z125 z136 z137 z138 z139 z140 z141 z142 z143 z144) q_cL_227 q_dX12_send (by decide) rfl rfl hl.1 rfl (Nat.le_of_ble_eq_true rfl) dL_law_1856 (fun y147 H locs f146 ry147 h148 hF hB => ?_)
      obtain ⟨qy147, z149⟩ := h148
      have z150 : q_z f146 x 9 = 0 := (hF.z hx (by rw [kx]; rfl)).trans z94
      have z151 : q_z f146 src 1 = 0 := (hF.z hsrc (by rw [ksrc]; rfl)).trans z95
      have z152 : q_z f146 src 2 = 0 := (hF.z hsrc (by rw [ksrc]; rfl)).trans z96
      have z153 : q_z f146 src 3 = (-1) := (hF.z hsrc (by rw [ksrc]; rfl)).trans z97
      have z154 : q_z f146 hist 1 = 0 := (hF.z hhist (by rw [khist]; rfl)).trans z98
      have z155 : q_z f146 hist 2 = 0 := (hF.z hhist (by rw [khist]; rfl)).trans z99
      have z156 : q_z f146 rep 1 = 0 := (hF.z hrep (by rw [krep]; rfl)).trans z100
      have z157 : q_z f146 now 3 = 0 := (hF.z hnow (by rw [know]; rfl)).trans z101
      have z158 : q_z f146 now 4 = 0 := (hF.z hnow (by rw [know]; rfl)).trans z102
      have z159 : q_z f146 now 5 = 0 := (hF.z hnow (by rw [know]; rfl)).trans z103
      have z160 : q_z f146 now 6 = 12 := (hF.z hnow (by rw [know]; rfl)).trans z104
      have z161 : q_z f146 now 10 = 3 := (hF.z hnow (by rw [know]; rfl)).trans z105
      have z162 : q_z f146 now 11 = 0 := (hF.z hnow (by rw [know]; rfl)).trans z106
      have z163 : q_z f146 now 12 = 0 := (hF.z hnow (by rw [know]; rfl)).trans z107
      have z164 : q_r f146 x 0 = src := (hF.r hx (by rw [kx]; rfl)).trans z126
      have z165 : q_r f146 x 1 = rdr := (hF.r hx (by rw [kx]; rfl)).trans z127
      have z166 : q_r f146 x 2 = scr := (hF.r hx (by rw [kx]; rfl)).trans z128
      have z167 : q_r f146 x 3 = fc := (hF.r hx (by rw [kx]; rfl)).trans z129
      have z168 : q_r f146 x 4 = hist := (hF.r hx (by rw [kx]; rfl)).trans z130
      have z169 : q_r f146 x 5 = rep := (hF.r hx (by rw [kx]; rfl)).trans z131
      have z170 : q_r f146 x 6 = now := (hF.r hx (by rw [kx]; rfl)).trans z132
      have z171 : q_r f146 x 7 = dr := (hF.r hx (by rw [kx]; rfl)).trans z133
      have z172 : q_r f146 x 8 = sv := (hF.r hx (by rw [kx]; rfl)).trans z134
      have z173 : q_r f146 fc 0 = tr := (hF.r hfc (by rw [kfc]; rfl)).trans z135
      subst qy147
      refine lv_istore (lv' := [(7, .int (q_i 0)), (6, .int (q_i 1)), (5, .int (q_i 0)), (0, .ref b), (1, .ref x), (2, .ref mo), (3, .ref out), (4, .ref outD)]) cx.1 cx.2.1 dL_law_1859 hl (by decide) rfl (fun ls hl => ?_)
      refine q_ald_n cx dL_law_1861 rfl (lv_at hl 5 rfl) ?_
      refine q_cVi (As := []) (rest := []) cx hB (fun q h => hLA q h) hN hmo kmo (by decide) rfl (r_thrown l g hN hB.2.1 mo hmo kmo 1 (by decide) (by decide) z149) q_cL_124 q_dX12_thrown (by decide) rfl rfl hl.1 rfl (Nat.le_of_ble_eq_true rfl) dL_law_1862 (fun y175 H locs f174 ry175 h176 hF hB => ?_)
      obtain ⟨rfl, qy175⟩ := h176
      subst qy175
      refine lv_iload cx.1 cx.2.1 dL_law_1865 (lv_at hl 1 rfl) ?_
      refine q_iceq (tgt := 1872) cx ⟨by decide, by decide⟩ ⟨by decide, by decide⟩ dL_law_1867 (by decide) (fun c177 => ?_) (fun c177 => ?_)
      · refine lv_iload cx.1 cx.2.1 dL_law_1872 (lv_at hl 1 rfl) ?_
        refine q_ifne (tgt := 1889) cx ⟨by decide, by decide⟩ dL_law_1874 (by decide) (fun c178 => ?_) (fun c178 => ?_)
        · refine lv_goto (tgt := 2394) cx.1 cx.2.1 dL_law_1889 (by decide) ?_
          refine q_iinc (lv' := [(5, .int (q_i (0 + 6))), (7, .int (q_i 0)), (6, .int (q_i 1)), (0, .ref b), (1, .ref x), (2, .ref mo), (3, .ref out), (4, .ref outD)]) cx dL_law_2394 hl (k := 2) rfl (by decide) rfl (fun ls hl => ?_)
          refine lv_goto (tgt := 28) cx.1 cx.2.1 dL_law_2397 (by decide) ?_
          refine lv_iload cx.1 cx.2.1 dL_law_28 (lv_at hl 0 rfl) ?_
          refine q_ald_n cx dL_law_30 rfl (lv_at hl 3 rfl) ?_
          refine va_slen cx.1 cx.2.1 hXs hbl hbA hB.1.2.2.2 dL_law_31 ?_
          rw [show Int32.ofNat 6 = q_i 6 from by decide]
          refine q_bipush cx dL_law_32 rfl ?_
          refine q_isub cx dL_law_34 ?_
          refine q_icgt (tgt := 2400) cx ⟨by decide, by decide⟩ ⟨by decide, by decide⟩ dL_law_35 (by decide) (fun c179 => ?_) (fun c179 => ?_)
          · refine q_iconst cx dL_law_2400 ?_
            exact q_lawret C0 hB (by decide) (by decide) dL_law_2401
          · exact absurd c179 (by omega)
        · exact absurd c178 (by omega)
      · exact absurd c177 (by omega)
    · refine q_iconst cx dL_law_1851 ?_
      refine lv_goto (tgt := 1856) cx.1 cx.2.1 dL_law_1852 (by decide) ?_
      refine q_cVi (As := [.int (q_i x1), .int (q_i x2), .int (q_i x3), .int (q_i 1)]) (rest := []) cx hB (fun q h => hLA q h) hN hmo kmo (by decide) rfl (p_send l g hN hB.2.1 mo hmo kmo x1 (by omega) (by omega) x2 (by omega) (by omega) x3 (by omega) (by omega) 1 (by decide) (by decide) bu hbu kbu sr hsr ksr sd hsd ksd as has kas aw haw kaw pa hpa kpa nm hnm knm snm hsnm ksnm anm hanm kanm z108 z109 z110 z111 z112 z113 z114 z115 z116 z117 z118 z119 z120 z121 z122 z123 z124 z125 z136 z137 z138 z139 z140 z141 z142 z143 z144) q_cL_227 q_dX12_send (by decide) rfl rfl hl.1 rfl (Nat.le_of_ble_eq_true rfl) dL_law_1856 (fun y181 H locs f180 ry181 h182 hF hB => ?_)
      obtain ⟨qy181, z183⟩ := h182
      have z184 : q_z f180 x 9 = 0 := (hF.z hx (by rw [kx]; rfl)).trans z94
      have z185 : q_z f180 src 1 = 0 := (hF.z hsrc (by rw [ksrc]; rfl)).trans z95
      have z186 : q_z f180 src 2 = 0 := (hF.z hsrc (by rw [ksrc]; rfl)).trans z96
      have z187 : q_z f180 src 3 = (-1) := (hF.z hsrc (by rw [ksrc]; rfl)).trans z97
      have z188 : q_z f180 hist 1 = 0 := (hF.z hhist (by rw [khist]; rfl)).trans z98
      have z189 : q_z f180 hist 2 = 0 := (hF.z hhist (by rw [khist]; rfl)).trans z99
      have z190 : q_z f180 rep 1 = 0 := (hF.z hrep (by rw [krep]; rfl)).trans z100
      have z191 : q_z f180 now 3 = 0 := (hF.z hnow (by rw [know]; rfl)).trans z101
      have z192 : q_z f180 now 4 = 0 := (hF.z hnow (by rw [know]; rfl)).trans z102
      have z193 : q_z f180 now 5 = 0 := (hF.z hnow (by rw [know]; rfl)).trans z103
      have z194 : q_z f180 now 6 = 12 := (hF.z hnow (by rw [know]; rfl)).trans z104
      have z195 : q_z f180 now 10 = 3 := (hF.z hnow (by rw [know]; rfl)).trans z105
      have z196 : q_z f180 now 11 = 0 := (hF.z hnow (by rw [know]; rfl)).trans z106
      have z197 : q_z f180 now 12 = 0 := (hF.z hnow (by rw [know]; rfl)).trans z107
      have z198 : q_r f180 x 0 = src := (hF.r hx (by rw [kx]; rfl)).trans z126
      have z199 : q_r f180 x 1 = rdr := (hF.r hx (by rw [kx]; rfl)).trans z127
      have z200 : q_r f180 x 2 = scr := (hF.r hx (by rw [kx]; rfl)).trans z128
      have z201 : q_r f180 x 3 = fc := (hF.r hx (by rw [kx]; rfl)).trans z129
      have z202 : q_r f180 x 4 = hist := (hF.r hx (by rw [kx]; rfl)).trans z130
      have z203 : q_r f180 x 5 = rep := (hF.r hx (by rw [kx]; rfl)).trans z131
      have z204 : q_r f180 x 6 = now := (hF.r hx (by rw [kx]; rfl)).trans z132
      have z205 : q_r f180 x 7 = dr := (hF.r hx (by rw [kx]; rfl)).trans z133
      have z206 : q_r f180 x 8 = sv := (hF.r hx (by rw [kx]; rfl)).trans z134
      have z207 : q_r f180 fc 0 = tr := (hF.r hfc (by rw [kfc]; rfl)).trans z135
      subst qy181
      refine lv_istore (lv' := [(7, .int (q_i 0)), (6, .int (q_i 1)), (5, .int (q_i 0)), (0, .ref b), (1, .ref x), (2, .ref mo), (3, .ref out), (4, .ref outD)]) cx.1 cx.2.1 dL_law_1859 hl (by decide) rfl (fun ls hl => ?_)
      refine q_ald_n cx dL_law_1861 rfl (lv_at hl 5 rfl) ?_
      refine q_cVi (As := []) (rest := []) cx hB (fun q h => hLA q h) hN hmo kmo (by decide) rfl (r_thrown l g hN hB.2.1 mo hmo kmo 1 (by decide) (by decide) z183) q_cL_124 q_dX12_thrown (by decide) rfl rfl hl.1 rfl (Nat.le_of_ble_eq_true rfl) dL_law_1862 (fun y209 H locs f208 ry209 h210 hF hB => ?_)
      obtain ⟨rfl, qy209⟩ := h210
      subst qy209
      refine lv_iload cx.1 cx.2.1 dL_law_1865 (lv_at hl 1 rfl) ?_
      refine q_iceq (tgt := 1872) cx ⟨by decide, by decide⟩ ⟨by decide, by decide⟩ dL_law_1867 (by decide) (fun c211 => ?_) (fun c211 => ?_)
      · refine lv_iload cx.1 cx.2.1 dL_law_1872 (lv_at hl 1 rfl) ?_
        refine q_ifne (tgt := 1889) cx ⟨by decide, by decide⟩ dL_law_1874 (by decide) (fun c212 => ?_) (fun c212 => ?_)
        · refine lv_goto (tgt := 2394) cx.1 cx.2.1 dL_law_1889 (by decide) ?_
          refine q_iinc (lv' := [(5, .int (q_i (0 + 6))), (7, .int (q_i 0)), (6, .int (q_i 1)), (0, .ref b), (1, .ref x), (2, .ref mo), (3, .ref out), (4, .ref outD)]) cx dL_law_2394 hl (k := 2) rfl (by decide) rfl (fun ls hl => ?_)
          refine lv_goto (tgt := 28) cx.1 cx.2.1 dL_law_2397 (by decide) ?_
          refine lv_iload cx.1 cx.2.1 dL_law_28 (lv_at hl 0 rfl) ?_
          refine q_ald_n cx dL_law_30 rfl (lv_at hl 3 rfl) ?_
          refine va_slen cx.1 cx.2.1 hXs hbl hbA hB.1.2.2.2 dL_law_31 ?_
          rw [show Int32.ofNat 6 = q_i 6 from by decide]
          refine q_bipush cx dL_law_32 rfl ?_
          refine q_isub cx dL_law_34 ?_
          refine q_icgt (tgt := 2400) cx ⟨by decide, by decide⟩ ⟨by decide, by decide⟩ dL_law_35 (by decide) (fun c213 => ?_) (fun c213 => ?_)
          · refine q_iconst cx dL_law_2400 ?_
            exact q_lawret C0 hB (by decide) (by decide) dL_law_2401
          · exact absurd c213 (by omega)
        · exact absurd c212 (by omega)
      · exact absurd c211 (by omega)
set_option maxHeartbeats 4000000 in
set_option maxRecDepth 100000 in
theorem law_c1892 {p : Program} {l : Launch} {e : Env} {s : State} {m : MethodId} {below : List Frame} {meth : Method} {c : Code} {b : Nat} {xs : Nat → Int32} (hfl : l.stackTraces = false) (C0 : lw_At p s m meth c b 6 xs) (cx : CallFix p m c cL_law 10 s #[Value.ref b] q_al RL) {g : q_G} {K : Nat → Nat} {L : List Nat} {f : Nat → va_E} {H : Heap} {locs : List Loc} {ls : Array Slot} (hN : L.Nodup) (hLA : ∀ q, q ∈ L → s.heap.size ≤ q) (hX : q_X (fun q => q ∈ L) s) (hB : q_B g K L (fun q => s.heap.size ≤ q) [(2, 1, 2), (6, 1, 1), (7, 1, 4), (8, 1, 9), (9, 0, 2), (10, 3, 15), (11, 9, 9), (12, 0, 40), (13, 3, 15), (14, 3, 15), (15, 3, 15), (16, 3, 15), (142, 0, 599), (150, 0, 599), (151, 0, 657), (152, 0, 657), (153, 0, 657), (154, 0, 657), (155, 0, 3947), (156, 0, 9), (157, 0, 9), (158, 0, 9), (168, 0, 0), (169, 0, 0)] f f s H locs) {x : Nat} (hx : x ∈ L) (kx : K x = 11) {src : Nat} (hsrc : src ∈ L) (ksrc : K src = 8) {rdr : Nat} (hrdr : rdr ∈ L) (krdr : K rdr = 9) {scr : Nat} (hscr : scr ∈ L) (kscr : K scr = 7) {fc : Nat} (hfc : fc ∈ L) (kfc : K fc = 1) {hist : Nat} (hhist : hist ∈ L) (khist : K hist = 2) {rep : Nat} (hrep : rep ∈ L) (krep : K rep = 6) {now : Nat} (hnow : now ∈ L) (know : K now = 10) {dr : Nat} (hdr : dr ∈ L) (kdr : K dr = 13) {sv : Nat} (hsv : sv ∈ L) (ksv : K sv = 14) {tr : Nat} (htr : tr ∈ L) (ktr : K tr = 15) {mo : Nat} (hmo : mo ∈ L) (kmo : K mo = 12) {bu : Nat} (hbu : bu ∈ L) (kbu : K bu = 150) {sr : Nat} (hsr : sr ∈ L) (ksr : K sr = 151) {sd : Nat} (hsd : sd ∈ L) (ksd : K sd = 152) {as : Nat} (has : as ∈ L) (kas : K as = 153) {aw : Nat} (haw : aw ∈ L) (kaw : K aw = 154) {pa : Nat} (hpa : pa ∈ L) (kpa : K pa = 155) {nm : Nat} (hnm : nm ∈ L) (knm : K nm = 156) {snm : Nat} (hsnm : snm ∈ L) (ksnm : K snm = 157) {anm : Nat} (hanm : anm ∈ L) (kanm : K anm = 158) {out : Nat} (hout : out ∈ L) (kout : K out = 168) {outD : Nat} (houtD : outD ∈ L) (koutD : K outD = 169) (hf0 : q_z f x 9 = 0) (hf1 : q_z f src 1 = 0) (hf2 : q_z f src 2 = 0) (hf3 : q_z f src 3 = (-1)) (hf4 : q_z f hist 1 = 0) (hf5 : q_z f hist 2 = 0) (hf6 : q_z f rep 1 = 0) (hf7 : q_z f now 3 = 0) (hf8 : q_z f now 4 = 0) (hf9 : q_z f now 5 = 0) (hf10 : q_z f now 6 = 12) (hf11 : q_z f now 10 = 3) (hf12 : q_z f now 11 = 0) (hf13 : q_z f now 12 = 0) (hf14 : q_z f mo 2 = 0) (hf15 : q_z f mo 8 = 0) (hf16 : q_z f mo 9 = (-1)) (hf17 : q_z f mo 10 = 0) (hf18 : q_z f mo 11 = (-1)) (hf19 : q_z f mo 21 = 0) (hf20 : q_z f mo 22 = 0) (hf21 : q_z f mo 40 = 0) (hf22 : q_z f sr 0 = 0) (hf23 : q_z f sr 1 = 0) (hf24 : q_z f sr 2 = 12) (hf25 : q_z f sr 3 = 0) (hf26 : q_z f sr 4 = 0) (hf27 : q_z f sr 5 = 1) (hf28 : q_z f sr 6 = 2) (hf29 : q_z f sr 7 = 5) (hf30 : q_z f sr 8 = 3) (hf31 : q_z f sr 9 = 0) (hr0 : q_r f x 0 = src) (hr1 : q_r f x 1 = rdr) (hr2 : q_r f x 2 = scr) (hr3 : q_r f x 3 = fc) (hr4 : q_r f x 4 = hist) (hr5 : q_r f x 5 = rep) (hr6 : q_r f x 6 = now) (hr7 : q_r f x 7 = dr) (hr8 : q_r f x 8 = sv) (hr9 : q_r f fc 0 = tr) (hr10 : q_r f mo 1 = bu) (hr11 : q_r f mo 13 = sr) (hr12 : q_r f mo 14 = sd) (hr13 : q_r f mo 15 = as) (hr14 : q_r f mo 16 = aw) (hr15 : q_r f mo 17 = pa) (hr16 : q_r f mo 18 = nm) (hr17 : q_r f mo 19 = snm) (hr18 : q_r f mo 20 = anm) (hl : lv_has ls 10 [(5, .int (q_i 0)), (0, .ref b), (1, .ref x), (2, .ref mo), (3, .ref out), (4, .ref outD)]) : W p l e room_1 s m #[Value.ref b] below meth c H locs 1100 20000 (lw_Z below #[Value.ref b] s) (F0 m 1892 ls []) := by
  have hXs := C0.2.2.2.2.2.2.1
  have hbl := C0.2.2.2.2.2.2.2.1
  have hbA := q_bA hbl
  obtain ⟨x0, rx0, ex0⟩ : ∃ z : Int, q_R z ∧ xs 0 = q_i z := ⟨_, q_rng _, (q_of _).symm⟩
  have lx0 := rx0.1
  have ux0 := rx0.2
  obtain ⟨x1, rx1, ex1⟩ : ∃ z : Int, q_R z ∧ xs 1 = q_i z := ⟨_, q_rng _, (q_of _).symm⟩
  have lx1 := rx1.1
  have ux1 := rx1.2
  obtain ⟨x2, rx2, ex2⟩ : ∃ z : Int, q_R z ∧ xs 2 = q_i z := ⟨_, q_rng _, (q_of _).symm⟩
  have lx2 := rx2.1
  have ux2 := rx2.2
  obtain ⟨x3, rx3, ex3⟩ : ∃ z : Int, q_R z ∧ xs 3 = q_i z := ⟨_, q_rng _, (q_of _).symm⟩
  have lx3 := rx3.1
  have ux3 := rx3.2
  obtain ⟨x4, rx4, ex4⟩ : ∃ z : Int, q_R z ∧ xs 4 = q_i z := ⟨_, q_rng _, (q_of _).symm⟩
  have lx4 := rx4.1
  have ux4 := rx4.2
  obtain ⟨x5, rx5, ex5⟩ : ∃ z : Int, q_R z ∧ xs 5 = q_i z := ⟨_, q_rng _, (q_of _).symm⟩
  have lx5 := rx5.1
  have ux5 := rx5.2
  refine q_ald_n cx dL_law_1892 rfl (lv_at hl 2 rfl) ?_
  refine q_ald_n cx dL_law_1893 rfl (lv_at hl 1 rfl) ?_
  refine lv_iload cx.1 cx.2.1 dL_law_1894 (lv_at hl 0 rfl) ?_
  refine q_iconst cx dL_law_1896 ?_
  refine q_iadd cx dL_law_1897 ?_
  refine va_sld cx.1 cx.2.1 hXs hbl hbA hB.1.2.2.2 (q_in (by decide) (by decide) (by decide)) dL_law_1898 ?_
  rw [show (q_i (0 + 1)).toNatClampNeg = 1 from by decide, ex1]
  refine q_ald_n cx dL_law_1899 rfl (lv_at hl 1 rfl) ?_
  refine lv_iload cx.1 cx.2.1 dL_law_1900 (lv_at hl 0 rfl) ?_
  refine q_iconst cx dL_law_1902 ?_
  refine q_iadd cx dL_law_1903 ?_
  refine va_sld cx.1 cx.2.1 hXs hbl hbA hB.1.2.2.2 (q_in (by decide) (by decide) (by decide)) dL_law_1904 ?_
  rw [show (q_i (0 + 2)).toNatClampNeg = 2 from by decide, ex2]
  refine q_ald_n cx dL_law_1905 rfl (lv_at hl 4 rfl) ?_
  refine q_cWS (As := [.ref x, .int (q_i x1), .int (q_i x2), .ref out]) (rest := []) cx hX hB (fun q h => hLA q h) (fun q h1 h2 => absurd h1 (Nat.not_le_of_lt h2)) hN (w_setShift l g hN hB.2.1 hfl x hx kx x1 (by omega) (by omega) x2 (by omega) (by omega) out hout kout src hsrc ksrc rdr hrdr krdr scr hscr kscr fc hfc kfc hist hhist khist rep hrep krep now hnow know dr hdr kdr sv hsv ksv tr htr ktr hf0 hf1 hf2 hf3 hf4 hf5 hf6 hf7 hf8 hf9 hf10 hf11 hf12 hf13 hr0 hr1 hr2 hr3 hr4 hr5 hr6 hr7 hr8 hr9) q_cL_228 q_dL_setShift (by decide) rfl rfl hl.1 rfl (Nat.le_of_ble_eq_true rfl) dL_law_1906 (fun v9 H locs f1 h3 hF hB => ?_)
  obtain ⟨y2, rfl, ry2, h3⟩ := h3
  refine W.eq (g2 := F0 m 1909 ls [.int (q_i y2)]) rfl ?_
  have qy2 := h3
  have z4 : q_z f1 x 9 = 0 := (hF.z hx (by rw [kx]; rfl)).trans hf0
  have z5 : q_z f1 src 1 = 0 := (hF.z hsrc (by rw [ksrc]; rfl)).trans hf1
  have z6 : q_z f1 src 2 = 0 := (hF.z hsrc (by rw [ksrc]; rfl)).trans hf2
  have z7 : q_z f1 src 3 = (-1) := (hF.z hsrc (by rw [ksrc]; rfl)).trans hf3
  have z8 : q_z f1 hist 1 = 0 := (hF.z hhist (by rw [khist]; rfl)).trans hf4
  have z9 : q_z f1 hist 2 = 0 := (hF.z hhist (by rw [khist]; rfl)).trans hf5
  have z10 : q_z f1 rep 1 = 0 := (hF.z hrep (by rw [krep]; rfl)).trans hf6
  have z11 : q_z f1 now 3 = 0 := (hF.z hnow (by rw [know]; rfl)).trans hf7
  have z12 : q_z f1 now 4 = 0 := (hF.z hnow (by rw [know]; rfl)).trans hf8
  have z13 : q_z f1 now 5 = 0 := (hF.z hnow (by rw [know]; rfl)).trans hf9
  have z14 : q_z f1 now 6 = 12 := (hF.z hnow (by rw [know]; rfl)).trans hf10
  have z15 : q_z f1 now 10 = 3 := (hF.z hnow (by rw [know]; rfl)).trans hf11
  have z16 : q_z f1 now 11 = 0 := (hF.z hnow (by rw [know]; rfl)).trans hf12
  have z17 : q_z f1 now 12 = 0 := (hF.z hnow (by rw [know]; rfl)).trans hf13
  have z18 : q_z f1 mo 2 = 0 := (hF.z hmo (by rw [kmo]; rfl)).trans hf14
  have z19 : q_z f1 mo 8 = 0 := (hF.z hmo (by rw [kmo]; rfl)).trans hf15
  have z20 : q_z f1 mo 9 = (-1) := (hF.z hmo (by rw [kmo]; rfl)).trans hf16
  have z21 : q_z f1 mo 10 = 0 := (hF.z hmo (by rw [kmo]; rfl)).trans hf17
  have z22 : q_z f1 mo 11 = (-1) := (hF.z hmo (by rw [kmo]; rfl)).trans hf18
  have z23 : q_z f1 mo 21 = 0 := (hF.z hmo (by rw [kmo]; rfl)).trans hf19
  have z24 : q_z f1 mo 22 = 0 := (hF.z hmo (by rw [kmo]; rfl)).trans hf20
  have z25 : q_z f1 mo 40 = 0 := (hF.z hmo (by rw [kmo]; rfl)).trans hf21
  have z26 : q_z f1 sr 0 = 0 := (hF.z hsr (by rw [ksr]; rfl)).trans hf22
  have z27 : q_z f1 sr 1 = 0 := (hF.z hsr (by rw [ksr]; rfl)).trans hf23
  have z28 : q_z f1 sr 2 = 12 := (hF.z hsr (by rw [ksr]; rfl)).trans hf24
  have z29 : q_z f1 sr 3 = 0 := (hF.z hsr (by rw [ksr]; rfl)).trans hf25
  have z30 : q_z f1 sr 4 = 0 := (hF.z hsr (by rw [ksr]; rfl)).trans hf26
  have z31 : q_z f1 sr 5 = 1 := (hF.z hsr (by rw [ksr]; rfl)).trans hf27
  have z32 : q_z f1 sr 6 = 2 := (hF.z hsr (by rw [ksr]; rfl)).trans hf28
  have z33 : q_z f1 sr 7 = 5 := (hF.z hsr (by rw [ksr]; rfl)).trans hf29
  have z34 : q_z f1 sr 8 = 3 := (hF.z hsr (by rw [ksr]; rfl)).trans hf30
  have z35 : q_z f1 sr 9 = 0 := (hF.z hsr (by rw [ksr]; rfl)).trans hf31
  have z36 : q_r f1 x 0 = src := (hF.r hx (by rw [kx]; rfl)).trans hr0
  have z37 : q_r f1 x 1 = rdr := (hF.r hx (by rw [kx]; rfl)).trans hr1
  have z38 : q_r f1 x 2 = scr := (hF.r hx (by rw [kx]; rfl)).trans hr2
  have z39 : q_r f1 x 3 = fc := (hF.r hx (by rw [kx]; rfl)).trans hr3
  have z40 : q_r f1 x 4 = hist := (hF.r hx (by rw [kx]; rfl)).trans hr4
  have z41 : q_r f1 x 5 = rep := (hF.r hx (by rw [kx]; rfl)).trans hr5
  have z42 : q_r f1 x 6 = now := (hF.r hx (by rw [kx]; rfl)).trans hr6
  have z43 : q_r f1 x 7 = dr := (hF.r hx (by rw [kx]; rfl)).trans hr7
  have z44 : q_r f1 x 8 = sv := (hF.r hx (by rw [kx]; rfl)).trans hr8
  have z45 : q_r f1 fc 0 = tr := (hF.r hfc (by rw [kfc]; rfl)).trans hr9
  have z46 : q_r f1 mo 1 = bu := (hF.r hmo (by rw [kmo]; rfl)).trans hr10
  have z47 : q_r f1 mo 13 = sr := (hF.r hmo (by rw [kmo]; rfl)).trans hr11
  have z48 : q_r f1 mo 14 = sd := (hF.r hmo (by rw [kmo]; rfl)).trans hr12
  have z49 : q_r f1 mo 15 = as := (hF.r hmo (by rw [kmo]; rfl)).trans hr13
  have z50 : q_r f1 mo 16 = aw := (hF.r hmo (by rw [kmo]; rfl)).trans hr14
  have z51 : q_r f1 mo 17 = pa := (hF.r hmo (by rw [kmo]; rfl)).trans hr15
  have z52 : q_r f1 mo 18 = nm := (hF.r hmo (by rw [kmo]; rfl)).trans hr16
  have z53 : q_r f1 mo 19 = snm := (hF.r hmo (by rw [kmo]; rfl)).trans hr17
  have z54 : q_r f1 mo 20 = anm := (hF.r hmo (by rw [kmo]; rfl)).trans hr18
  subst qy2
  refine lv_istore (lv' := [(6, .int (q_i 1)), (5, .int (q_i 0)), (0, .ref b), (1, .ref x), (2, .ref mo), (3, .ref out), (4, .ref outD)]) cx.1 cx.2.1 dL_law_1909 hl (by decide) rfl (fun ls hl => ?_)
  refine q_ald_n cx dL_law_1911 rfl (lv_at hl 4 rfl) ?_
  refine q_ald_n cx dL_law_1912 rfl (lv_at hl 2 rfl) ?_
  refine lv_iload cx.1 cx.2.1 dL_law_1913 (lv_at hl 1 rfl) ?_
  refine q_iconst cx dL_law_1915 ?_
  refine q_iadd cx dL_law_1916 ?_
  refine va_sld cx.1 cx.2.1 hXs hbl hbA hB.1.2.2.2 (q_in (by decide) (by decide) (by decide)) dL_law_1917 ?_
  rw [show (q_i (0 + 1)).toNatClampNeg = 1 from by decide, ex1]
  refine q_ald_n cx dL_law_1918 rfl (lv_at hl 2 rfl) ?_
  refine lv_iload cx.1 cx.2.1 dL_law_1919 (lv_at hl 1 rfl) ?_
  refine q_iconst cx dL_law_1921 ?_
  refine q_iadd cx dL_law_1922 ?_
  refine va_sld cx.1 cx.2.1 hXs hbl hbA hB.1.2.2.2 (q_in (by decide) (by decide) (by decide)) dL_law_1923 ?_
  rw [show (q_i (0 + 2)).toNatClampNeg = 2 from by decide, ex2]
  refine q_cVi (As := [.int (q_i x1), .int (q_i x2)]) (rest := []) cx hB (fun q h => hLA q h) hN hmo kmo (by decide) rfl (p_setShift l g hN hB.2.1 mo hmo kmo x1 (by omega) (by omega) x2 (by omega) (by omega) bu hbu kbu sr hsr ksr sd hsd ksd as has kas aw haw kaw pa hpa kpa nm hnm knm snm hsnm ksnm anm hanm kanm z18 z19 z20 z21 z22 z23 z24 z25 z26 z27 z28 z29 z30 z31 z32 z33 z34 z35 z46 z47 z48 z49 z50 z51 z52 z53 z54) q_cL_230 q_dX12_setShift (by decide) rfl rfl hl.1 rfl (Nat.le_of_ble_eq_true rfl) dL_law_1924 (fun y56 H locs f55 ry56 h57 hF hB => ?_)
  obtain ⟨qy56, z58⟩ := h57
  have z59 : q_z f55 x 9 = 0 := (hF.z hx (by rw [kx]; rfl)).trans z4
  have z60 : q_z f55 src 1 = 0 := (hF.z hsrc (by rw [ksrc]; rfl)).trans z5
  have z61 : q_z f55 src 2 = 0 := (hF.z hsrc (by rw [ksrc]; rfl)).trans z6
  have z62 : q_z f55 src 3 = (-1) := (hF.z hsrc (by rw [ksrc]; rfl)).trans z7
  have z63 : q_z f55 hist 1 = 0 := (hF.z hhist (by rw [khist]; rfl)).trans z8
  have z64 : q_z f55 hist 2 = 0 := (hF.z hhist (by rw [khist]; rfl)).trans z9
  have z65 : q_z f55 rep 1 = 0 := (hF.z hrep (by rw [krep]; rfl)).trans z10
  have z66 : q_z f55 now 3 = 0 := (hF.z hnow (by rw [know]; rfl)).trans z11
  have z67 : q_z f55 now 4 = 0 := (hF.z hnow (by rw [know]; rfl)).trans z12
  have z68 : q_z f55 now 5 = 0 := (hF.z hnow (by rw [know]; rfl)).trans z13
  have z69 : q_z f55 now 6 = 12 := (hF.z hnow (by rw [know]; rfl)).trans z14
  have z70 : q_z f55 now 10 = 3 := (hF.z hnow (by rw [know]; rfl)).trans z15
  have z71 : q_z f55 now 11 = 0 := (hF.z hnow (by rw [know]; rfl)).trans z16
  have z72 : q_z f55 now 12 = 0 := (hF.z hnow (by rw [know]; rfl)).trans z17
  have z73 : q_r f55 x 0 = src := (hF.r hx (by rw [kx]; rfl)).trans z36
  have z74 : q_r f55 x 1 = rdr := (hF.r hx (by rw [kx]; rfl)).trans z37
  have z75 : q_r f55 x 2 = scr := (hF.r hx (by rw [kx]; rfl)).trans z38
  have z76 : q_r f55 x 3 = fc := (hF.r hx (by rw [kx]; rfl)).trans z39
  have z77 : q_r f55 x 4 = hist := (hF.r hx (by rw [kx]; rfl)).trans z40
  have z78 : q_r f55 x 5 = rep := (hF.r hx (by rw [kx]; rfl)).trans z41
  have z79 : q_r f55 x 6 = now := (hF.r hx (by rw [kx]; rfl)).trans z42
  have z80 : q_r f55 x 7 = dr := (hF.r hx (by rw [kx]; rfl)).trans z43
  have z81 : q_r f55 x 8 = sv := (hF.r hx (by rw [kx]; rfl)).trans z44
  have z82 : q_r f55 fc 0 = tr := (hF.r hfc (by rw [kfc]; rfl)).trans z45
  subst qy56
  refine lv_istore (lv' := [(7, .int (q_i 0)), (6, .int (q_i 1)), (5, .int (q_i 0)), (0, .ref b), (1, .ref x), (2, .ref mo), (3, .ref out), (4, .ref outD)]) cx.1 cx.2.1 dL_law_1927 hl (by decide) rfl (fun ls hl => ?_)
  refine q_ald_n cx dL_law_1929 rfl (lv_at hl 5 rfl) ?_
  refine q_cVi (As := []) (rest := []) cx hB (fun q h => hLA q h) hN hmo kmo (by decide) rfl (r_thrown l g hN hB.2.1 mo hmo kmo 1 (by decide) (by decide) z58) q_cL_124 q_dX12_thrown (by decide) rfl rfl hl.1 rfl (Nat.le_of_ble_eq_true rfl) dL_law_1930 (fun y84 H locs f83 ry84 h85 hF hB => ?_)
  obtain ⟨rfl, qy84⟩ := h85
  subst qy84
  refine lv_iload cx.1 cx.2.1 dL_law_1933 (lv_at hl 1 rfl) ?_
  refine q_iceq (tgt := 1940) cx ⟨by decide, by decide⟩ ⟨by decide, by decide⟩ dL_law_1935 (by decide) (fun c86 => ?_) (fun c86 => ?_)
  · refine lv_iload cx.1 cx.2.1 dL_law_1940 (lv_at hl 1 rfl) ?_
    refine q_ifne (tgt := 1957) cx ⟨by decide, by decide⟩ dL_law_1942 (by decide) (fun c87 => ?_) (fun c87 => ?_)
    · refine lv_goto (tgt := 2394) cx.1 cx.2.1 dL_law_1957 (by decide) ?_
      refine q_iinc (lv' := [(5, .int (q_i (0 + 6))), (7, .int (q_i 0)), (6, .int (q_i 1)), (0, .ref b), (1, .ref x), (2, .ref mo), (3, .ref out), (4, .ref outD)]) cx dL_law_2394 hl (k := 2) rfl (by decide) rfl (fun ls hl => ?_)
      refine lv_goto (tgt := 28) cx.1 cx.2.1 dL_law_2397 (by decide) ?_
      refine lv_iload cx.1 cx.2.1 dL_law_28 (lv_at hl 0 rfl) ?_
      refine q_ald_n cx dL_law_30 rfl (lv_at hl 3 rfl) ?_
      refine va_slen cx.1 cx.2.1 hXs hbl hbA hB.1.2.2.2 dL_law_31 ?_
      rw [show Int32.ofNat 6 = q_i 6 from by decide]
      refine q_bipush cx dL_law_32 rfl ?_
      refine q_isub cx dL_law_34 ?_
      refine q_icgt (tgt := 2400) cx ⟨by decide, by decide⟩ ⟨by decide, by decide⟩ dL_law_35 (by decide) (fun c88 => ?_) (fun c88 => ?_)
      · refine q_iconst cx dL_law_2400 ?_
        exact q_lawret C0 hB (by decide) (by decide) dL_law_2401
      · exact absurd c88 (by omega)
    · exact absurd c87 (by omega)
  · exact absurd c86 (by omega)
set_option maxHeartbeats 4000000 in
set_option maxRecDepth 100000 in
theorem law_c1960 {p : Program} {l : Launch} {e : Env} {s : State} {m : MethodId} {below : List Frame} {meth : Method} {c : Code} {b : Nat} {xs : Nat → Int32} (hfl : l.stackTraces = false) (C0 : lw_At p s m meth c b 6 xs) (cx : CallFix p m c cL_law 10 s #[Value.ref b] q_al RL) {g : q_G} {K : Nat → Nat} {L : List Nat} {f : Nat → va_E} {H : Heap} {locs : List Loc} {ls : Array Slot} (hN : L.Nodup) (hLA : ∀ q, q ∈ L → s.heap.size ≤ q) (hX : q_X (fun q => q ∈ L) s) (hB : q_B g K L (fun q => s.heap.size ≤ q) [(2, 1, 2), (6, 1, 1), (7, 1, 4), (8, 1, 9), (9, 0, 2), (10, 3, 15), (11, 9, 9), (12, 0, 40), (13, 3, 15), (14, 3, 15), (15, 3, 15), (16, 3, 15), (142, 0, 599), (150, 0, 599), (151, 0, 657), (152, 0, 657), (153, 0, 657), (154, 0, 657), (155, 0, 3947), (156, 0, 9), (157, 0, 9), (158, 0, 9), (168, 0, 0), (169, 0, 0)] f f s H locs) {x : Nat} (hx : x ∈ L) (kx : K x = 11) {src : Nat} (hsrc : src ∈ L) (ksrc : K src = 8) {rdr : Nat} (hrdr : rdr ∈ L) (krdr : K rdr = 9) {scr : Nat} (hscr : scr ∈ L) (kscr : K scr = 7) {fc : Nat} (hfc : fc ∈ L) (kfc : K fc = 1) {hist : Nat} (hhist : hist ∈ L) (khist : K hist = 2) {rep : Nat} (hrep : rep ∈ L) (krep : K rep = 6) {now : Nat} (hnow : now ∈ L) (know : K now = 10) {dr : Nat} (hdr : dr ∈ L) (kdr : K dr = 13) {sv : Nat} (hsv : sv ∈ L) (ksv : K sv = 14) {tr : Nat} (htr : tr ∈ L) (ktr : K tr = 15) {mo : Nat} (hmo : mo ∈ L) (kmo : K mo = 12) {bu : Nat} (hbu : bu ∈ L) (kbu : K bu = 150) {sr : Nat} (hsr : sr ∈ L) (ksr : K sr = 151) {sd : Nat} (hsd : sd ∈ L) (ksd : K sd = 152) {as : Nat} (has : as ∈ L) (kas : K as = 153) {aw : Nat} (haw : aw ∈ L) (kaw : K aw = 154) {pa : Nat} (hpa : pa ∈ L) (kpa : K pa = 155) {nm : Nat} (hnm : nm ∈ L) (knm : K nm = 156) {snm : Nat} (hsnm : snm ∈ L) (ksnm : K snm = 157) {anm : Nat} (hanm : anm ∈ L) (kanm : K anm = 158) {out : Nat} (hout : out ∈ L) (kout : K out = 168) {outD : Nat} (houtD : outD ∈ L) (koutD : K outD = 169) (hf0 : q_z f x 9 = 0) (hf1 : q_z f src 1 = 0) (hf2 : q_z f src 2 = 0) (hf3 : q_z f src 3 = (-1)) (hf4 : q_z f hist 1 = 0) (hf5 : q_z f hist 2 = 0) (hf6 : q_z f rep 1 = 0) (hf7 : q_z f now 3 = 0) (hf8 : q_z f now 4 = 0) (hf9 : q_z f now 5 = 0) (hf10 : q_z f now 6 = 12) (hf11 : q_z f now 10 = 3) (hf12 : q_z f now 11 = 0) (hf13 : q_z f now 12 = 0) (hf14 : q_z f mo 2 = 0) (hf15 : q_z f mo 8 = 0) (hf16 : q_z f mo 9 = (-1)) (hf17 : q_z f mo 10 = 0) (hf18 : q_z f mo 11 = (-1)) (hf19 : q_z f mo 21 = 0) (hf20 : q_z f mo 22 = 0) (hf21 : q_z f mo 40 = 0) (hf22 : q_z f sr 0 = 0) (hf23 : q_z f sr 1 = 0) (hf24 : q_z f sr 2 = 12) (hf25 : q_z f sr 3 = 0) (hf26 : q_z f sr 4 = 0) (hf27 : q_z f sr 5 = 1) (hf28 : q_z f sr 6 = 2) (hf29 : q_z f sr 7 = 5) (hf30 : q_z f sr 8 = 3) (hf31 : q_z f sr 9 = 0) (hr0 : q_r f x 0 = src) (hr1 : q_r f x 1 = rdr) (hr2 : q_r f x 2 = scr) (hr3 : q_r f x 3 = fc) (hr4 : q_r f x 4 = hist) (hr5 : q_r f x 5 = rep) (hr6 : q_r f x 6 = now) (hr7 : q_r f x 7 = dr) (hr8 : q_r f x 8 = sv) (hr9 : q_r f fc 0 = tr) (hr10 : q_r f mo 1 = bu) (hr11 : q_r f mo 13 = sr) (hr12 : q_r f mo 14 = sd) (hr13 : q_r f mo 15 = as) (hr14 : q_r f mo 16 = aw) (hr15 : q_r f mo 17 = pa) (hr16 : q_r f mo 18 = nm) (hr17 : q_r f mo 19 = snm) (hr18 : q_r f mo 20 = anm) (hl : lv_has ls 10 [(5, .int (q_i 0)), (0, .ref b), (1, .ref x), (2, .ref mo), (3, .ref out), (4, .ref outD)]) : W p l e room_1 s m #[Value.ref b] below meth c H locs 1100 20000 (lw_Z below #[Value.ref b] s) (F0 m 1960 ls []) := by
  have hXs := C0.2.2.2.2.2.2.1
  have hbl := C0.2.2.2.2.2.2.2.1
  have hbA := q_bA hbl
  obtain ⟨x0, rx0, ex0⟩ : ∃ z : Int, q_R z ∧ xs 0 = q_i z := ⟨_, q_rng _, (q_of _).symm⟩
  have lx0 := rx0.1
  have ux0 := rx0.2
  obtain ⟨x1, rx1, ex1⟩ : ∃ z : Int, q_R z ∧ xs 1 = q_i z := ⟨_, q_rng _, (q_of _).symm⟩
  have lx1 := rx1.1
  have ux1 := rx1.2
  obtain ⟨x2, rx2, ex2⟩ : ∃ z : Int, q_R z ∧ xs 2 = q_i z := ⟨_, q_rng _, (q_of _).symm⟩
  have lx2 := rx2.1
  have ux2 := rx2.2
  obtain ⟨x3, rx3, ex3⟩ : ∃ z : Int, q_R z ∧ xs 3 = q_i z := ⟨_, q_rng _, (q_of _).symm⟩
  have lx3 := rx3.1
  have ux3 := rx3.2
  obtain ⟨x4, rx4, ex4⟩ : ∃ z : Int, q_R z ∧ xs 4 = q_i z := ⟨_, q_rng _, (q_of _).symm⟩
  have lx4 := rx4.1
  have ux4 := rx4.2
  obtain ⟨x5, rx5, ex5⟩ : ∃ z : Int, q_R z ∧ xs 5 = q_i z := ⟨_, q_rng _, (q_of _).symm⟩
  have lx5 := rx5.1
  have ux5 := rx5.2
  refine q_ald_n cx dL_law_1960 rfl (lv_at hl 2 rfl) ?_
  refine q_ald_n cx dL_law_1961 rfl (lv_at hl 1 rfl) ?_
  refine lv_iload cx.1 cx.2.1 dL_law_1962 (lv_at hl 0 rfl) ?_
  refine q_iconst cx dL_law_1964 ?_
  refine q_iadd cx dL_law_1965 ?_
  refine va_sld cx.1 cx.2.1 hXs hbl hbA hB.1.2.2.2 (q_in (by decide) (by decide) (by decide)) dL_law_1966 ?_
  rw [show (q_i (0 + 1)).toNatClampNeg = 1 from by decide, ex1]
  refine q_ald_n cx dL_law_1967 rfl (lv_at hl 1 rfl) ?_
  refine lv_iload cx.1 cx.2.1 dL_law_1968 (lv_at hl 0 rfl) ?_
  refine q_iconst cx dL_law_1970 ?_
  refine q_iadd cx dL_law_1971 ?_
  refine va_sld cx.1 cx.2.1 hXs hbl hbA hB.1.2.2.2 (q_in (by decide) (by decide) (by decide)) dL_law_1972 ?_
  rw [show (q_i (0 + 2)).toNatClampNeg = 2 from by decide, ex2]
  refine q_ald_n cx dL_law_1973 rfl (lv_at hl 1 rfl) ?_
  refine lv_iload cx.1 cx.2.1 dL_law_1974 (lv_at hl 0 rfl) ?_
  refine q_iconst cx dL_law_1976 ?_
  refine q_iadd cx dL_law_1977 ?_
  refine va_sld cx.1 cx.2.1 hXs hbl hbA hB.1.2.2.2 (q_in (by decide) (by decide) (by decide)) dL_law_1978 ?_
  rw [show (q_i (0 + 3)).toNatClampNeg = 3 from by decide, ex3]
  refine q_ifeq (tgt := 1986) cx ⟨by omega, by omega⟩ dL_law_1979 (by decide) (fun c1 => ?_) (fun c1 => ?_)
  · refine q_iconst cx dL_law_1986 ?_
    refine q_ald_n cx dL_law_1987 rfl (lv_at hl 4 rfl) ?_
    refine q_cWS (As := [.ref x, .int (q_i x1), .int (q_i x2), .int (q_i 0), .ref out]) (rest := []) cx hX hB (fun q h => hLA q h) (fun q h1 h2 => absurd h1 (Nat.not_le_of_lt h2)) hN (w_watch l g hN hB.2.1 hfl x hx kx x1 (by omega) (by omega) x2 (by omega) (by omega) 0 (by decide) (by decide) out hout kout src hsrc ksrc rdr hrdr krdr scr hscr kscr fc hfc kfc hist hhist khist rep hrep krep now hnow know dr hdr kdr sv hsv ksv tr htr ktr hf0 hf1 hf2 hf3 hf4 hf5 hf6 hf7 hf8 hf9 hf10 hf11 hf12 hf13 hr0 hr1 hr2 hr3 hr4 hr5 hr6 hr7 hr8 hr9) q_cL_231 q_dL_watch (by decide) rfl rfl hl.1 rfl (Nat.le_of_ble_eq_true rfl) dL_law_1988 (fun v9 H locs f2 h4 hF hB => ?_)
    obtain ⟨y3, rfl, ry3, h4⟩ := h4
    refine W.eq (g2 := F0 m 1991 ls [.int (q_i y3)]) rfl ?_
    have qy3 := h4
    have z5 : q_z f2 x 9 = 0 := (hF.z hx (by rw [kx]; rfl)).trans hf0
    have z6 : q_z f2 src 1 = 0 := (hF.z hsrc (by rw [ksrc]; rfl)).trans hf1
    have z7 : q_z f2 src 2 = 0 := (hF.z hsrc (by rw [ksrc]; rfl)).trans hf2
    have z8 : q_z f2 src 3 = (-1) := (hF.z hsrc (by rw [ksrc]; rfl)).trans hf3
    have z9 : q_z f2 hist 1 = 0 := (hF.z hhist (by rw [khist]; rfl)).trans hf4
    have z10 : q_z f2 hist 2 = 0 := (hF.z hhist (by rw [khist]; rfl)).trans hf5
    have z11 : q_z f2 rep 1 = 0 := (hF.z hrep (by rw [krep]; rfl)).trans hf6
    have z12 : q_z f2 now 3 = 0 := (hF.z hnow (by rw [know]; rfl)).trans hf7
    have z13 : q_z f2 now 4 = 0 := (hF.z hnow (by rw [know]; rfl)).trans hf8
    have z14 : q_z f2 now 5 = 0 := (hF.z hnow (by rw [know]; rfl)).trans hf9
    have z15 : q_z f2 now 6 = 12 := (hF.z hnow (by rw [know]; rfl)).trans hf10
    have z16 : q_z f2 now 10 = 3 := (hF.z hnow (by rw [know]; rfl)).trans hf11
    have z17 : q_z f2 now 11 = 0 := (hF.z hnow (by rw [know]; rfl)).trans hf12
    have z18 : q_z f2 now 12 = 0 := (hF.z hnow (by rw [know]; rfl)).trans hf13
    have z19 : q_z f2 mo 2 = 0 := (hF.z hmo (by rw [kmo]; rfl)).trans hf14
    have z20 : q_z f2 mo 8 = 0 := (hF.z hmo (by rw [kmo]; rfl)).trans hf15
    have z21 : q_z f2 mo 9 = (-1) := (hF.z hmo (by rw [kmo]; rfl)).trans hf16
    have z22 : q_z f2 mo 10 = 0 := (hF.z hmo (by rw [kmo]; rfl)).trans hf17
    have z23 : q_z f2 mo 11 = (-1) := (hF.z hmo (by rw [kmo]; rfl)).trans hf18
    have z24 : q_z f2 mo 21 = 0 := (hF.z hmo (by rw [kmo]; rfl)).trans hf19
    have z25 : q_z f2 mo 22 = 0 := (hF.z hmo (by rw [kmo]; rfl)).trans hf20
    have z26 : q_z f2 mo 40 = 0 := (hF.z hmo (by rw [kmo]; rfl)).trans hf21
    have z27 : q_z f2 sr 0 = 0 := (hF.z hsr (by rw [ksr]; rfl)).trans hf22
    have z28 : q_z f2 sr 1 = 0 := (hF.z hsr (by rw [ksr]; rfl)).trans hf23
    have z29 : q_z f2 sr 2 = 12 := (hF.z hsr (by rw [ksr]; rfl)).trans hf24
    have z30 : q_z f2 sr 3 = 0 := (hF.z hsr (by rw [ksr]; rfl)).trans hf25
    have z31 : q_z f2 sr 4 = 0 := (hF.z hsr (by rw [ksr]; rfl)).trans hf26
    have z32 : q_z f2 sr 5 = 1 := (hF.z hsr (by rw [ksr]; rfl)).trans hf27
    have z33 : q_z f2 sr 6 = 2 := (hF.z hsr (by rw [ksr]; rfl)).trans hf28
    have z34 : q_z f2 sr 7 = 5 := (hF.z hsr (by rw [ksr]; rfl)).trans hf29
    have z35 : q_z f2 sr 8 = 3 := (hF.z hsr (by rw [ksr]; rfl)).trans hf30
    have z36 : q_z f2 sr 9 = 0 := (hF.z hsr (by rw [ksr]; rfl)).trans hf31
    have z37 : q_r f2 x 0 = src := (hF.r hx (by rw [kx]; rfl)).trans hr0
    have z38 : q_r f2 x 1 = rdr := (hF.r hx (by rw [kx]; rfl)).trans hr1
    have z39 : q_r f2 x 2 = scr := (hF.r hx (by rw [kx]; rfl)).trans hr2
    have z40 : q_r f2 x 3 = fc := (hF.r hx (by rw [kx]; rfl)).trans hr3
    have z41 : q_r f2 x 4 = hist := (hF.r hx (by rw [kx]; rfl)).trans hr4
    have z42 : q_r f2 x 5 = rep := (hF.r hx (by rw [kx]; rfl)).trans hr5
    have z43 : q_r f2 x 6 = now := (hF.r hx (by rw [kx]; rfl)).trans hr6
    have z44 : q_r f2 x 7 = dr := (hF.r hx (by rw [kx]; rfl)).trans hr7
    have z45 : q_r f2 x 8 = sv := (hF.r hx (by rw [kx]; rfl)).trans hr8
    have z46 : q_r f2 fc 0 = tr := (hF.r hfc (by rw [kfc]; rfl)).trans hr9
    have z47 : q_r f2 mo 1 = bu := (hF.r hmo (by rw [kmo]; rfl)).trans hr10
    have z48 : q_r f2 mo 13 = sr := (hF.r hmo (by rw [kmo]; rfl)).trans hr11
    have z49 : q_r f2 mo 14 = sd := (hF.r hmo (by rw [kmo]; rfl)).trans hr12
    have z50 : q_r f2 mo 15 = as := (hF.r hmo (by rw [kmo]; rfl)).trans hr13
    have z51 : q_r f2 mo 16 = aw := (hF.r hmo (by rw [kmo]; rfl)).trans hr14
    have z52 : q_r f2 mo 17 = pa := (hF.r hmo (by rw [kmo]; rfl)).trans hr15
    have z53 : q_r f2 mo 18 = nm := (hF.r hmo (by rw [kmo]; rfl)).trans hr16
    have z54 : q_r f2 mo 19 = snm := (hF.r hmo (by rw [kmo]; rfl)).trans hr17
    have z55 : q_r f2 mo 20 = anm := (hF.r hmo (by rw [kmo]; rfl)).trans hr18
    subst qy3
    refine lv_istore (lv' := [(6, .int (q_i 1)), (5, .int (q_i 0)), (0, .ref b), (1, .ref x), (2, .ref mo), (3, .ref out), (4, .ref outD)]) cx.1 cx.2.1 dL_law_1991 hl (by decide) rfl (fun ls hl => ?_)
    refine q_ald_n cx dL_law_1993 rfl (lv_at hl 4 rfl) ?_
    refine q_ald_n cx dL_law_1994 rfl (lv_at hl 2 rfl) ?_
    refine lv_iload cx.1 cx.2.1 dL_law_1995 (lv_at hl 1 rfl) ?_
    refine q_iconst cx dL_law_1997 ?_
    refine q_iadd cx dL_law_1998 ?_
    refine va_sld cx.1 cx.2.1 hXs hbl hbA hB.1.2.2.2 (q_in (by decide) (by decide) (by decide)) dL_law_1999 ?_
    rw [show (q_i (0 + 1)).toNatClampNeg = 1 from by decide, ex1]
    refine q_ald_n cx dL_law_2000 rfl (lv_at hl 2 rfl) ?_
    refine lv_iload cx.1 cx.2.1 dL_law_2001 (lv_at hl 1 rfl) ?_
    refine q_iconst cx dL_law_2003 ?_
    refine q_iadd cx dL_law_2004 ?_
    refine va_sld cx.1 cx.2.1 hXs hbl hbA hB.1.2.2.2 (q_in (by decide) (by decide) (by decide)) dL_law_2005 ?_
    rw [show (q_i (0 + 2)).toNatClampNeg = 2 from by decide, ex2]
    refine q_ald_n cx dL_law_2006 rfl (lv_at hl 2 rfl) ?_
    refine lv_iload cx.1 cx.2.1 dL_law_2007 (lv_at hl 1 rfl) ?_
    refine q_iconst cx dL_law_2009 ?_
    refine q_iadd cx dL_law_2010 ?_
    refine va_sld cx.1 cx.2.1 hXs hbl hbA hB.1.2.2.2 (q_in (by decide) (by decide) (by decide)) dL_law_2011 ?_
    rw [show (q_i (0 + 3)).toNatClampNeg = 3 from by decide, ex3]
    refine q_ifeq (tgt := 2019) cx ⟨by omega, by omega⟩ dL_law_2012 (by decide) (fun c56 => ?_) (fun c56 => ?_)
    · refine q_iconst cx dL_law_2019 ?_
      refine q_cVi (As := [.int (q_i x1), .int (q_i x2), .int (q_i 0)]) (rest := []) cx hB (fun q h => hLA q h) hN hmo kmo (by decide) rfl (p_watch l g hN hB.2.1 mo hmo kmo x1 (by omega) (by omega) x2 (by omega) (by omega) 0 (by decide) (by decide) bu hbu kbu sr hsr ksr sd hsd ksd as has kas aw haw kaw pa hpa kpa nm hnm knm snm hsnm ksnm anm hanm kanm z19 z20 z21 z22 z23 z24 z25 z26 z27 z28 z29 z30 z31 z32 z33 z34 z35 z36 z47 z48 z49 z50 z51 z52 z53 z54 z55) q_cL_233 q_dX12_watch (by decide) rfl rfl hl.1 rfl (Nat.le_of_ble_eq_true rfl) dL_law_2020 (fun y58 H locs f57 ry58 h59 hF hB => ?_)
      obtain ⟨qy58, z60⟩ := h59
      have z61 : q_z f57 x 9 = 0 := (hF.z hx (by rw [kx]; rfl)).trans z5
      have z62 : q_z f57 src 1 = 0 := (hF.z hsrc (by rw [ksrc]; rfl)).trans z6
      have z63 : q_z f57 src 2 = 0 := (hF.z hsrc (by rw [ksrc]; rfl)).trans z7
      have z64 : q_z f57 src 3 = (-1) := (hF.z hsrc (by rw [ksrc]; rfl)).trans z8
      have z65 : q_z f57 hist 1 = 0 := (hF.z hhist (by rw [khist]; rfl)).trans z9
      have z66 : q_z f57 hist 2 = 0 := (hF.z hhist (by rw [khist]; rfl)).trans z10
      have z67 : q_z f57 rep 1 = 0 := (hF.z hrep (by rw [krep]; rfl)).trans z11
      have z68 : q_z f57 now 3 = 0 := (hF.z hnow (by rw [know]; rfl)).trans z12
      have z69 : q_z f57 now 4 = 0 := (hF.z hnow (by rw [know]; rfl)).trans z13
      have z70 : q_z f57 now 5 = 0 := (hF.z hnow (by rw [know]; rfl)).trans z14
      have z71 : q_z f57 now 6 = 12 := (hF.z hnow (by rw [know]; rfl)).trans z15
      have z72 : q_z f57 now 10 = 3 := (hF.z hnow (by rw [know]; rfl)).trans z16
      have z73 : q_z f57 now 11 = 0 := (hF.z hnow (by rw [know]; rfl)).trans z17
      have z74 : q_z f57 now 12 = 0 := (hF.z hnow (by rw [know]; rfl)).trans z18
      have z75 : q_r f57 x 0 = src := (hF.r hx (by rw [kx]; rfl)).trans z37
      have z76 : q_r f57 x 1 = rdr := (hF.r hx (by rw [kx]; rfl)).trans z38
      have z77 : q_r f57 x 2 = scr := (hF.r hx (by rw [kx]; rfl)).trans z39
      have z78 : q_r f57 x 3 = fc := (hF.r hx (by rw [kx]; rfl)).trans z40
      have z79 : q_r f57 x 4 = hist := (hF.r hx (by rw [kx]; rfl)).trans z41
      have z80 : q_r f57 x 5 = rep := (hF.r hx (by rw [kx]; rfl)).trans z42
      have z81 : q_r f57 x 6 = now := (hF.r hx (by rw [kx]; rfl)).trans z43
      have z82 : q_r f57 x 7 = dr := (hF.r hx (by rw [kx]; rfl)).trans z44
      have z83 : q_r f57 x 8 = sv := (hF.r hx (by rw [kx]; rfl)).trans z45
      have z84 : q_r f57 fc 0 = tr := (hF.r hfc (by rw [kfc]; rfl)).trans z46
      subst qy58
      refine lv_istore (lv' := [(7, .int (q_i 0)), (6, .int (q_i 1)), (5, .int (q_i 0)), (0, .ref b), (1, .ref x), (2, .ref mo), (3, .ref out), (4, .ref outD)]) cx.1 cx.2.1 dL_law_2023 hl (by decide) rfl (fun ls hl => ?_)
      refine q_ald_n cx dL_law_2025 rfl (lv_at hl 5 rfl) ?_
      refine q_cVi (As := []) (rest := []) cx hB (fun q h => hLA q h) hN hmo kmo (by decide) rfl (r_thrown l g hN hB.2.1 mo hmo kmo 1 (by decide) (by decide) z60) q_cL_124 q_dX12_thrown (by decide) rfl rfl hl.1 rfl (Nat.le_of_ble_eq_true rfl) dL_law_2026 (fun y86 H locs f85 ry86 h87 hF hB => ?_)
      obtain ⟨rfl, qy86⟩ := h87
      subst qy86
      refine lv_iload cx.1 cx.2.1 dL_law_2029 (lv_at hl 1 rfl) ?_
      refine q_iceq (tgt := 2036) cx ⟨by decide, by decide⟩ ⟨by decide, by decide⟩ dL_law_2031 (by decide) (fun c88 => ?_) (fun c88 => ?_)
      · refine lv_iload cx.1 cx.2.1 dL_law_2036 (lv_at hl 1 rfl) ?_
        refine q_ifne (tgt := 2060) cx ⟨by decide, by decide⟩ dL_law_2038 (by decide) (fun c89 => ?_) (fun c89 => ?_)
        · refine lv_goto (tgt := 2394) cx.1 cx.2.1 dL_law_2060 (by decide) ?_
          refine q_iinc (lv' := [(5, .int (q_i (0 + 6))), (7, .int (q_i 0)), (6, .int (q_i 1)), (0, .ref b), (1, .ref x), (2, .ref mo), (3, .ref out), (4, .ref outD)]) cx dL_law_2394 hl (k := 2) rfl (by decide) rfl (fun ls hl => ?_)
          refine lv_goto (tgt := 28) cx.1 cx.2.1 dL_law_2397 (by decide) ?_
          refine lv_iload cx.1 cx.2.1 dL_law_28 (lv_at hl 0 rfl) ?_
          refine q_ald_n cx dL_law_30 rfl (lv_at hl 3 rfl) ?_
          refine va_slen cx.1 cx.2.1 hXs hbl hbA hB.1.2.2.2 dL_law_31 ?_
          rw [show Int32.ofNat 6 = q_i 6 from by decide]
          refine q_bipush cx dL_law_32 rfl ?_
          refine q_isub cx dL_law_34 ?_
          refine q_icgt (tgt := 2400) cx ⟨by decide, by decide⟩ ⟨by decide, by decide⟩ dL_law_35 (by decide) (fun c90 => ?_) (fun c90 => ?_)
          · refine q_iconst cx dL_law_2400 ?_
            exact q_lawret C0 hB (by decide) (by decide) dL_law_2401
          · exact absurd c90 (by omega)
        · exact absurd c89 (by omega)
      · exact absurd c88 (by omega)
    · exact absurd c56 (by omega)
  · refine q_iconst cx dL_law_1982 ?_
    refine lv_goto (tgt := 1987) cx.1 cx.2.1 dL_law_1983 (by decide) ?_
    refine q_ald_n cx dL_law_1987 rfl (lv_at hl 4 rfl) ?_
    refine q_cWS (As := [.ref x, .int (q_i x1), .int (q_i x2), .int (q_i 1), .ref out]) (rest := []) cx hX hB (fun q h => hLA q h) (fun q h1 h2 => absurd h1 (Nat.not_le_of_lt h2)) hN (w_watch l g hN hB.2.1 hfl x hx kx x1 (by omega) (by omega) x2 (by omega) (by omega) 1 (by decide) (by decide) out hout kout src hsrc ksrc rdr hrdr krdr scr hscr kscr fc hfc kfc hist hhist khist rep hrep krep now hnow know dr hdr kdr sv hsv ksv tr htr ktr hf0 hf1 hf2 hf3 hf4 hf5 hf6 hf7 hf8 hf9 hf10 hf11 hf12 hf13 hr0 hr1 hr2 hr3 hr4 hr5 hr6 hr7 hr8 hr9) q_cL_231 q_dL_watch (by decide) rfl rfl hl.1 rfl (Nat.le_of_ble_eq_true rfl) dL_law_1988 (fun v9 H locs f91 h93 hF hB => ?_)
    obtain ⟨y92, rfl, ry92, h93⟩ := h93
    refine W.eq (g2 := F0 m 1991 ls [.int (q_i y92)]) rfl ?_
    have qy92 := h93
    have z94 : q_z f91 x 9 = 0 := (hF.z hx (by rw [kx]; rfl)).trans hf0
    have z95 : q_z f91 src 1 = 0 := (hF.z hsrc (by rw [ksrc]; rfl)).trans hf1
    have z96 : q_z f91 src 2 = 0 := (hF.z hsrc (by rw [ksrc]; rfl)).trans hf2
    have z97 : q_z f91 src 3 = (-1) := (hF.z hsrc (by rw [ksrc]; rfl)).trans hf3
    have z98 : q_z f91 hist 1 = 0 := (hF.z hhist (by rw [khist]; rfl)).trans hf4
    have z99 : q_z f91 hist 2 = 0 := (hF.z hhist (by rw [khist]; rfl)).trans hf5
    have z100 : q_z f91 rep 1 = 0 := (hF.z hrep (by rw [krep]; rfl)).trans hf6
    have z101 : q_z f91 now 3 = 0 := (hF.z hnow (by rw [know]; rfl)).trans hf7
    have z102 : q_z f91 now 4 = 0 := (hF.z hnow (by rw [know]; rfl)).trans hf8
    have z103 : q_z f91 now 5 = 0 := (hF.z hnow (by rw [know]; rfl)).trans hf9
    have z104 : q_z f91 now 6 = 12 := (hF.z hnow (by rw [know]; rfl)).trans hf10
    have z105 : q_z f91 now 10 = 3 := (hF.z hnow (by rw [know]; rfl)).trans hf11
    have z106 : q_z f91 now 11 = 0 := (hF.z hnow (by rw [know]; rfl)).trans hf12
    have z107 : q_z f91 now 12 = 0 := (hF.z hnow (by rw [know]; rfl)).trans hf13
    have z108 : q_z f91 mo 2 = 0 := (hF.z hmo (by rw [kmo]; rfl)).trans hf14
    have z109 : q_z f91 mo 8 = 0 := (hF.z hmo (by rw [kmo]; rfl)).trans hf15
    have z110 : q_z f91 mo 9 = (-1) := (hF.z hmo (by rw [kmo]; rfl)).trans hf16
    have z111 : q_z f91 mo 10 = 0 := (hF.z hmo (by rw [kmo]; rfl)).trans hf17
    have z112 : q_z f91 mo 11 = (-1) := (hF.z hmo (by rw [kmo]; rfl)).trans hf18
    have z113 : q_z f91 mo 21 = 0 := (hF.z hmo (by rw [kmo]; rfl)).trans hf19
    have z114 : q_z f91 mo 22 = 0 := (hF.z hmo (by rw [kmo]; rfl)).trans hf20
    have z115 : q_z f91 mo 40 = 0 := (hF.z hmo (by rw [kmo]; rfl)).trans hf21
    have z116 : q_z f91 sr 0 = 0 := (hF.z hsr (by rw [ksr]; rfl)).trans hf22
    have z117 : q_z f91 sr 1 = 0 := (hF.z hsr (by rw [ksr]; rfl)).trans hf23
    have z118 : q_z f91 sr 2 = 12 := (hF.z hsr (by rw [ksr]; rfl)).trans hf24
    have z119 : q_z f91 sr 3 = 0 := (hF.z hsr (by rw [ksr]; rfl)).trans hf25
    have z120 : q_z f91 sr 4 = 0 := (hF.z hsr (by rw [ksr]; rfl)).trans hf26
    have z121 : q_z f91 sr 5 = 1 := (hF.z hsr (by rw [ksr]; rfl)).trans hf27
    have z122 : q_z f91 sr 6 = 2 := (hF.z hsr (by rw [ksr]; rfl)).trans hf28
    have z123 : q_z f91 sr 7 = 5 := (hF.z hsr (by rw [ksr]; rfl)).trans hf29
    have z124 : q_z f91 sr 8 = 3 := (hF.z hsr (by rw [ksr]; rfl)).trans hf30
    have z125 : q_z f91 sr 9 = 0 := (hF.z hsr (by rw [ksr]; rfl)).trans hf31
    have z126 : q_r f91 x 0 = src := (hF.r hx (by rw [kx]; rfl)).trans hr0
    have z127 : q_r f91 x 1 = rdr := (hF.r hx (by rw [kx]; rfl)).trans hr1
    have z128 : q_r f91 x 2 = scr := (hF.r hx (by rw [kx]; rfl)).trans hr2
    have z129 : q_r f91 x 3 = fc := (hF.r hx (by rw [kx]; rfl)).trans hr3
    have z130 : q_r f91 x 4 = hist := (hF.r hx (by rw [kx]; rfl)).trans hr4
    have z131 : q_r f91 x 5 = rep := (hF.r hx (by rw [kx]; rfl)).trans hr5
    have z132 : q_r f91 x 6 = now := (hF.r hx (by rw [kx]; rfl)).trans hr6
    have z133 : q_r f91 x 7 = dr := (hF.r hx (by rw [kx]; rfl)).trans hr7
    have z134 : q_r f91 x 8 = sv := (hF.r hx (by rw [kx]; rfl)).trans hr8
    have z135 : q_r f91 fc 0 = tr := (hF.r hfc (by rw [kfc]; rfl)).trans hr9
    have z136 : q_r f91 mo 1 = bu := (hF.r hmo (by rw [kmo]; rfl)).trans hr10
    have z137 : q_r f91 mo 13 = sr := (hF.r hmo (by rw [kmo]; rfl)).trans hr11
    have z138 : q_r f91 mo 14 = sd := (hF.r hmo (by rw [kmo]; rfl)).trans hr12
    have z139 : q_r f91 mo 15 = as := (hF.r hmo (by rw [kmo]; rfl)).trans hr13
    have z140 : q_r f91 mo 16 = aw := (hF.r hmo (by rw [kmo]; rfl)).trans hr14
    have z141 : q_r f91 mo 17 = pa := (hF.r hmo (by rw [kmo]; rfl)).trans hr15
    have z142 : q_r f91 mo 18 = nm := (hF.r hmo (by rw [kmo]; rfl)).trans hr16
    have z143 : q_r f91 mo 19 = snm := (hF.r hmo (by rw [kmo]; rfl)).trans hr17
    have z144 : q_r f91 mo 20 = anm := (hF.r hmo (by rw [kmo]; rfl)).trans hr18
    subst qy92
    refine lv_istore (lv' := [(6, .int (q_i 1)), (5, .int (q_i 0)), (0, .ref b), (1, .ref x), (2, .ref mo), (3, .ref out), (4, .ref outD)]) cx.1 cx.2.1 dL_law_1991 hl (by decide) rfl (fun ls hl => ?_)
    refine q_ald_n cx dL_law_1993 rfl (lv_at hl 4 rfl) ?_
    refine q_ald_n cx dL_law_1994 rfl (lv_at hl 2 rfl) ?_
    refine lv_iload cx.1 cx.2.1 dL_law_1995 (lv_at hl 1 rfl) ?_
    refine q_iconst cx dL_law_1997 ?_
    refine q_iadd cx dL_law_1998 ?_
    refine va_sld cx.1 cx.2.1 hXs hbl hbA hB.1.2.2.2 (q_in (by decide) (by decide) (by decide)) dL_law_1999 ?_
    rw [show (q_i (0 + 1)).toNatClampNeg = 1 from by decide, ex1]
    refine q_ald_n cx dL_law_2000 rfl (lv_at hl 2 rfl) ?_
    refine lv_iload cx.1 cx.2.1 dL_law_2001 (lv_at hl 1 rfl) ?_
    refine q_iconst cx dL_law_2003 ?_
    refine q_iadd cx dL_law_2004 ?_
    refine va_sld cx.1 cx.2.1 hXs hbl hbA hB.1.2.2.2 (q_in (by decide) (by decide) (by decide)) dL_law_2005 ?_
    rw [show (q_i (0 + 2)).toNatClampNeg = 2 from by decide, ex2]
    refine q_ald_n cx dL_law_2006 rfl (lv_at hl 2 rfl) ?_
    refine lv_iload cx.1 cx.2.1 dL_law_2007 (lv_at hl 1 rfl) ?_
    refine q_iconst cx dL_law_2009 ?_
    refine q_iadd cx dL_law_2010 ?_
    refine va_sld cx.1 cx.2.1 hXs hbl hbA hB.1.2.2.2 (q_in (by decide) (by decide) (by decide)) dL_law_2011 ?_
    rw [show (q_i (0 + 3)).toNatClampNeg = 3 from by decide, ex3]
    refine q_ifeq (tgt := 2019) cx ⟨by omega, by omega⟩ dL_law_2012 (by decide) (fun c145 => ?_) (fun c145 => ?_)
    · refine q_iconst cx dL_law_2019 ?_
      refine q_cVi (As := [.int (q_i x1), .int (q_i x2), .int (q_i 0)]) (rest := []) cx hB (fun q h => hLA q h) hN hmo kmo (by decide) rfl (p_watch l g hN hB.2.1 mo hmo kmo x1 (by omega) (by omega) x2 (by omega) (by omega) 0 (by decide) (by decide) bu hbu kbu sr hsr ksr sd hsd ksd as has kas aw haw kaw pa hpa kpa nm hnm knm snm hsnm ksnm anm hanm kanm z108 z109 z110 z111 z112 z113 z114 z115 z116 z117 z118 z119 z120 z121 z122 z123 z124 z125 z136 z137 z138 z139 z140 z141 z142 z143 z144) q_cL_233 q_dX12_watch (by decide) rfl rfl hl.1 rfl (Nat.le_of_ble_eq_true rfl) dL_law_2020 (fun y147 H locs f146 ry147 h148 hF hB => ?_)
      obtain ⟨qy147, z149⟩ := h148
      have z150 : q_z f146 x 9 = 0 := (hF.z hx (by rw [kx]; rfl)).trans z94
      have z151 : q_z f146 src 1 = 0 := (hF.z hsrc (by rw [ksrc]; rfl)).trans z95
      have z152 : q_z f146 src 2 = 0 := (hF.z hsrc (by rw [ksrc]; rfl)).trans z96
      have z153 : q_z f146 src 3 = (-1) := (hF.z hsrc (by rw [ksrc]; rfl)).trans z97
      have z154 : q_z f146 hist 1 = 0 := (hF.z hhist (by rw [khist]; rfl)).trans z98
      have z155 : q_z f146 hist 2 = 0 := (hF.z hhist (by rw [khist]; rfl)).trans z99
      have z156 : q_z f146 rep 1 = 0 := (hF.z hrep (by rw [krep]; rfl)).trans z100
      have z157 : q_z f146 now 3 = 0 := (hF.z hnow (by rw [know]; rfl)).trans z101
      have z158 : q_z f146 now 4 = 0 := (hF.z hnow (by rw [know]; rfl)).trans z102
      have z159 : q_z f146 now 5 = 0 := (hF.z hnow (by rw [know]; rfl)).trans z103
      have z160 : q_z f146 now 6 = 12 := (hF.z hnow (by rw [know]; rfl)).trans z104
      have z161 : q_z f146 now 10 = 3 := (hF.z hnow (by rw [know]; rfl)).trans z105
      have z162 : q_z f146 now 11 = 0 := (hF.z hnow (by rw [know]; rfl)).trans z106
      have z163 : q_z f146 now 12 = 0 := (hF.z hnow (by rw [know]; rfl)).trans z107
      have z164 : q_r f146 x 0 = src := (hF.r hx (by rw [kx]; rfl)).trans z126
      have z165 : q_r f146 x 1 = rdr := (hF.r hx (by rw [kx]; rfl)).trans z127
      have z166 : q_r f146 x 2 = scr := (hF.r hx (by rw [kx]; rfl)).trans z128
      have z167 : q_r f146 x 3 = fc := (hF.r hx (by rw [kx]; rfl)).trans z129
      have z168 : q_r f146 x 4 = hist := (hF.r hx (by rw [kx]; rfl)).trans z130
      have z169 : q_r f146 x 5 = rep := (hF.r hx (by rw [kx]; rfl)).trans z131
      have z170 : q_r f146 x 6 = now := (hF.r hx (by rw [kx]; rfl)).trans z132
      have z171 : q_r f146 x 7 = dr := (hF.r hx (by rw [kx]; rfl)).trans z133
      have z172 : q_r f146 x 8 = sv := (hF.r hx (by rw [kx]; rfl)).trans z134
      have z173 : q_r f146 fc 0 = tr := (hF.r hfc (by rw [kfc]; rfl)).trans z135
      subst qy147
      refine lv_istore (lv' := [(7, .int (q_i 0)), (6, .int (q_i 1)), (5, .int (q_i 0)), (0, .ref b), (1, .ref x), (2, .ref mo), (3, .ref out), (4, .ref outD)]) cx.1 cx.2.1 dL_law_2023 hl (by decide) rfl (fun ls hl => ?_)
      refine q_ald_n cx dL_law_2025 rfl (lv_at hl 5 rfl) ?_
      refine q_cVi (As := []) (rest := []) cx hB (fun q h => hLA q h) hN hmo kmo (by decide) rfl (r_thrown l g hN hB.2.1 mo hmo kmo 1 (by decide) (by decide) z149) q_cL_124 q_dX12_thrown (by decide) rfl rfl hl.1 rfl (Nat.le_of_ble_eq_true rfl) dL_law_2026 (fun y175 H locs f174 ry175 h176 hF hB => ?_)
      obtain ⟨rfl, qy175⟩ := h176
      subst qy175
      refine lv_iload cx.1 cx.2.1 dL_law_2029 (lv_at hl 1 rfl) ?_
      refine q_iceq (tgt := 2036) cx ⟨by decide, by decide⟩ ⟨by decide, by decide⟩ dL_law_2031 (by decide) (fun c177 => ?_) (fun c177 => ?_)
      · refine lv_iload cx.1 cx.2.1 dL_law_2036 (lv_at hl 1 rfl) ?_
        refine q_ifne (tgt := 2060) cx ⟨by decide, by decide⟩ dL_law_2038 (by decide) (fun c178 => ?_) (fun c178 => ?_)
        · refine lv_goto (tgt := 2394) cx.1 cx.2.1 dL_law_2060 (by decide) ?_
          refine q_iinc (lv' := [(5, .int (q_i (0 + 6))), (7, .int (q_i 0)), (6, .int (q_i 1)), (0, .ref b), (1, .ref x), (2, .ref mo), (3, .ref out), (4, .ref outD)]) cx dL_law_2394 hl (k := 2) rfl (by decide) rfl (fun ls hl => ?_)
          refine lv_goto (tgt := 28) cx.1 cx.2.1 dL_law_2397 (by decide) ?_
          refine lv_iload cx.1 cx.2.1 dL_law_28 (lv_at hl 0 rfl) ?_
          refine q_ald_n cx dL_law_30 rfl (lv_at hl 3 rfl) ?_
          refine va_slen cx.1 cx.2.1 hXs hbl hbA hB.1.2.2.2 dL_law_31 ?_
          rw [show Int32.ofNat 6 = q_i 6 from by decide]
          refine q_bipush cx dL_law_32 rfl ?_
          refine q_isub cx dL_law_34 ?_
          refine q_icgt (tgt := 2400) cx ⟨by decide, by decide⟩ ⟨by decide, by decide⟩ dL_law_35 (by decide) (fun c179 => ?_) (fun c179 => ?_)
          · refine q_iconst cx dL_law_2400 ?_
            exact q_lawret C0 hB (by decide) (by decide) dL_law_2401
          · exact absurd c179 (by omega)
        · exact absurd c178 (by omega)
      · exact absurd c177 (by omega)
    · refine q_iconst cx dL_law_2015 ?_
      refine lv_goto (tgt := 2020) cx.1 cx.2.1 dL_law_2016 (by decide) ?_
      refine q_cVi (As := [.int (q_i x1), .int (q_i x2), .int (q_i 1)]) (rest := []) cx hB (fun q h => hLA q h) hN hmo kmo (by decide) rfl (p_watch l g hN hB.2.1 mo hmo kmo x1 (by omega) (by omega) x2 (by omega) (by omega) 1 (by decide) (by decide) bu hbu kbu sr hsr ksr sd hsd ksd as has kas aw haw kaw pa hpa kpa nm hnm knm snm hsnm ksnm anm hanm kanm z108 z109 z110 z111 z112 z113 z114 z115 z116 z117 z118 z119 z120 z121 z122 z123 z124 z125 z136 z137 z138 z139 z140 z141 z142 z143 z144) q_cL_233 q_dX12_watch (by decide) rfl rfl hl.1 rfl (Nat.le_of_ble_eq_true rfl) dL_law_2020 (fun y181 H locs f180 ry181 h182 hF hB => ?_)
      obtain ⟨qy181, z183⟩ := h182
      have z184 : q_z f180 x 9 = 0 := (hF.z hx (by rw [kx]; rfl)).trans z94
      have z185 : q_z f180 src 1 = 0 := (hF.z hsrc (by rw [ksrc]; rfl)).trans z95
      have z186 : q_z f180 src 2 = 0 := (hF.z hsrc (by rw [ksrc]; rfl)).trans z96
      have z187 : q_z f180 src 3 = (-1) := (hF.z hsrc (by rw [ksrc]; rfl)).trans z97
      have z188 : q_z f180 hist 1 = 0 := (hF.z hhist (by rw [khist]; rfl)).trans z98
      have z189 : q_z f180 hist 2 = 0 := (hF.z hhist (by rw [khist]; rfl)).trans z99
      have z190 : q_z f180 rep 1 = 0 := (hF.z hrep (by rw [krep]; rfl)).trans z100
      have z191 : q_z f180 now 3 = 0 := (hF.z hnow (by rw [know]; rfl)).trans z101
      have z192 : q_z f180 now 4 = 0 := (hF.z hnow (by rw [know]; rfl)).trans z102
      have z193 : q_z f180 now 5 = 0 := (hF.z hnow (by rw [know]; rfl)).trans z103
      have z194 : q_z f180 now 6 = 12 := (hF.z hnow (by rw [know]; rfl)).trans z104
      have z195 : q_z f180 now 10 = 3 := (hF.z hnow (by rw [know]; rfl)).trans z105
      have z196 : q_z f180 now 11 = 0 := (hF.z hnow (by rw [know]; rfl)).trans z106
      have z197 : q_z f180 now 12 = 0 := (hF.z hnow (by rw [know]; rfl)).trans z107
      have z198 : q_r f180 x 0 = src := (hF.r hx (by rw [kx]; rfl)).trans z126
      have z199 : q_r f180 x 1 = rdr := (hF.r hx (by rw [kx]; rfl)).trans z127
      have z200 : q_r f180 x 2 = scr := (hF.r hx (by rw [kx]; rfl)).trans z128
      have z201 : q_r f180 x 3 = fc := (hF.r hx (by rw [kx]; rfl)).trans z129
      have z202 : q_r f180 x 4 = hist := (hF.r hx (by rw [kx]; rfl)).trans z130
      have z203 : q_r f180 x 5 = rep := (hF.r hx (by rw [kx]; rfl)).trans z131
      have z204 : q_r f180 x 6 = now := (hF.r hx (by rw [kx]; rfl)).trans z132
      have z205 : q_r f180 x 7 = dr := (hF.r hx (by rw [kx]; rfl)).trans z133
      have z206 : q_r f180 x 8 = sv := (hF.r hx (by rw [kx]; rfl)).trans z134
      have z207 : q_r f180 fc 0 = tr := (hF.r hfc (by rw [kfc]; rfl)).trans z135
      subst qy181
      refine lv_istore (lv' := [(7, .int (q_i 0)), (6, .int (q_i 1)), (5, .int (q_i 0)), (0, .ref b), (1, .ref x), (2, .ref mo), (3, .ref out), (4, .ref outD)]) cx.1 cx.2.1 dL_law_2023 hl (by decide) rfl (fun ls hl => ?_)
      refine q_ald_n cx dL_law_2025 rfl (lv_at hl 5 rfl) ?_
      refine q_cVi (As := []) (rest := []) cx hB (fun q h => hLA q h) hN hmo kmo (by decide) rfl (r_thrown l g hN hB.2.1 mo hmo kmo 1 (by decide) (by decide) z183) q_cL_124 q_dX12_thrown (by decide) rfl rfl hl.1 rfl (Nat.le_of_ble_eq_true rfl) dL_law_2026 (fun y209 H locs f208 ry209 h210 hF hB => ?_)
      obtain ⟨rfl, qy209⟩ := h210
      subst qy209
      refine lv_iload cx.1 cx.2.1 dL_law_2029 (lv_at hl 1 rfl) ?_
      refine q_iceq (tgt := 2036) cx ⟨by decide, by decide⟩ ⟨by decide, by decide⟩ dL_law_2031 (by decide) (fun c211 => ?_) (fun c211 => ?_)
      · refine lv_iload cx.1 cx.2.1 dL_law_2036 (lv_at hl 1 rfl) ?_
        refine q_ifne (tgt := 2060) cx ⟨by decide, by decide⟩ dL_law_2038 (by decide) (fun c212 => ?_) (fun c212 => ?_)
        · refine lv_goto (tgt := 2394) cx.1 cx.2.1 dL_law_2060 (by decide) ?_
          refine q_iinc (lv' := [(5, .int (q_i (0 + 6))), (7, .int (q_i 0)), (6, .int (q_i 1)), (0, .ref b), (1, .ref x), (2, .ref mo), (3, .ref out), (4, .ref outD)]) cx dL_law_2394 hl (k := 2) rfl (by decide) rfl (fun ls hl => ?_)
          refine lv_goto (tgt := 28) cx.1 cx.2.1 dL_law_2397 (by decide) ?_
          refine lv_iload cx.1 cx.2.1 dL_law_28 (lv_at hl 0 rfl) ?_
          refine q_ald_n cx dL_law_30 rfl (lv_at hl 3 rfl) ?_
          refine va_slen cx.1 cx.2.1 hXs hbl hbA hB.1.2.2.2 dL_law_31 ?_
          rw [show Int32.ofNat 6 = q_i 6 from by decide]
          refine q_bipush cx dL_law_32 rfl ?_
          refine q_isub cx dL_law_34 ?_
          refine q_icgt (tgt := 2400) cx ⟨by decide, by decide⟩ ⟨by decide, by decide⟩ dL_law_35 (by decide) (fun c213 => ?_) (fun c213 => ?_)
          · refine q_iconst cx dL_law_2400 ?_
            exact q_lawret C0 hB (by decide) (by decide) dL_law_2401
          · exact absurd c213 (by omega)
        · exact absurd c212 (by omega)
      · exact absurd c211 (by omega)
set_option maxHeartbeats 4000000 in
set_option maxRecDepth 100000 in
theorem law_c2063 {p : Program} {l : Launch} {e : Env} {s : State} {m : MethodId} {below : List Frame} {meth : Method} {c : Code} {b : Nat} {xs : Nat → Int32} (hfl : l.stackTraces = false) (C0 : lw_At p s m meth c b 6 xs) (cx : CallFix p m c cL_law 10 s #[Value.ref b] q_al RL) {g : q_G} {K : Nat → Nat} {L : List Nat} {f : Nat → va_E} {H : Heap} {locs : List Loc} {ls : Array Slot} (hN : L.Nodup) (hLA : ∀ q, q ∈ L → s.heap.size ≤ q) (hX : q_X (fun q => q ∈ L) s) (hB : q_B g K L (fun q => s.heap.size ≤ q) [(2, 1, 2), (6, 1, 1), (7, 1, 4), (8, 1, 9), (9, 0, 2), (10, 3, 15), (11, 9, 9), (12, 0, 40), (13, 3, 15), (14, 3, 15), (15, 3, 15), (16, 3, 15), (142, 0, 599), (150, 0, 599), (151, 0, 657), (152, 0, 657), (153, 0, 657), (154, 0, 657), (155, 0, 3947), (156, 0, 9), (157, 0, 9), (158, 0, 9), (168, 0, 0), (169, 0, 0)] f f s H locs) {x : Nat} (hx : x ∈ L) (kx : K x = 11) {src : Nat} (hsrc : src ∈ L) (ksrc : K src = 8) {rdr : Nat} (hrdr : rdr ∈ L) (krdr : K rdr = 9) {scr : Nat} (hscr : scr ∈ L) (kscr : K scr = 7) {fc : Nat} (hfc : fc ∈ L) (kfc : K fc = 1) {hist : Nat} (hhist : hist ∈ L) (khist : K hist = 2) {rep : Nat} (hrep : rep ∈ L) (krep : K rep = 6) {now : Nat} (hnow : now ∈ L) (know : K now = 10) {dr : Nat} (hdr : dr ∈ L) (kdr : K dr = 13) {sv : Nat} (hsv : sv ∈ L) (ksv : K sv = 14) {tr : Nat} (htr : tr ∈ L) (ktr : K tr = 15) {mo : Nat} (hmo : mo ∈ L) (kmo : K mo = 12) {bu : Nat} (hbu : bu ∈ L) (kbu : K bu = 150) {sr : Nat} (hsr : sr ∈ L) (ksr : K sr = 151) {sd : Nat} (hsd : sd ∈ L) (ksd : K sd = 152) {as : Nat} (has : as ∈ L) (kas : K as = 153) {aw : Nat} (haw : aw ∈ L) (kaw : K aw = 154) {pa : Nat} (hpa : pa ∈ L) (kpa : K pa = 155) {nm : Nat} (hnm : nm ∈ L) (knm : K nm = 156) {snm : Nat} (hsnm : snm ∈ L) (ksnm : K snm = 157) {anm : Nat} (hanm : anm ∈ L) (kanm : K anm = 158) {out : Nat} (hout : out ∈ L) (kout : K out = 168) {outD : Nat} (houtD : outD ∈ L) (koutD : K outD = 169) (hf0 : q_z f x 9 = 0) (hf1 : q_z f src 1 = 0) (hf2 : q_z f src 2 = 0) (hf3 : q_z f src 3 = (-1)) (hf4 : q_z f hist 1 = 0) (hf5 : q_z f hist 2 = 0) (hf6 : q_z f rep 1 = 0) (hf7 : q_z f now 3 = 0) (hf8 : q_z f now 4 = 0) (hf9 : q_z f now 5 = 0) (hf10 : q_z f now 6 = 12) (hf11 : q_z f now 10 = 3) (hf12 : q_z f now 11 = 0) (hf13 : q_z f now 12 = 0) (hf14 : q_z f mo 2 = 0) (hf15 : q_z f mo 8 = 0) (hf16 : q_z f mo 9 = (-1)) (hf17 : q_z f mo 10 = 0) (hf18 : q_z f mo 11 = (-1)) (hf19 : q_z f mo 21 = 0) (hf20 : q_z f mo 22 = 0) (hf21 : q_z f mo 40 = 0) (hf22 : q_z f sr 0 = 0) (hf23 : q_z f sr 1 = 0) (hf24 : q_z f sr 2 = 12) (hf25 : q_z f sr 3 = 0) (hf26 : q_z f sr 4 = 0) (hf27 : q_z f sr 5 = 1) (hf28 : q_z f sr 6 = 2) (hf29 : q_z f sr 7 = 5) (hf30 : q_z f sr 8 = 3) (hf31 : q_z f sr 9 = 0) (hr0 : q_r f x 0 = src) (hr1 : q_r f x 1 = rdr) (hr2 : q_r f x 2 = scr) (hr3 : q_r f x 3 = fc) (hr4 : q_r f x 4 = hist) (hr5 : q_r f x 5 = rep) (hr6 : q_r f x 6 = now) (hr7 : q_r f x 7 = dr) (hr8 : q_r f x 8 = sv) (hr9 : q_r f fc 0 = tr) (hr10 : q_r f mo 1 = bu) (hr11 : q_r f mo 13 = sr) (hr12 : q_r f mo 14 = sd) (hr13 : q_r f mo 15 = as) (hr14 : q_r f mo 16 = aw) (hr15 : q_r f mo 17 = pa) (hr16 : q_r f mo 18 = nm) (hr17 : q_r f mo 19 = snm) (hr18 : q_r f mo 20 = anm) (hl : lv_has ls 10 [(5, .int (q_i 0)), (0, .ref b), (1, .ref x), (2, .ref mo), (3, .ref out), (4, .ref outD)]) : W p l e room_1 s m #[Value.ref b] below meth c H locs 1100 20000 (lw_Z below #[Value.ref b] s) (F0 m 2063 ls []) := by
  have hXs := C0.2.2.2.2.2.2.1
  have hbl := C0.2.2.2.2.2.2.2.1
  have hbA := q_bA hbl
  obtain ⟨x0, rx0, ex0⟩ : ∃ z : Int, q_R z ∧ xs 0 = q_i z := ⟨_, q_rng _, (q_of _).symm⟩
  have lx0 := rx0.1
  have ux0 := rx0.2
  obtain ⟨x1, rx1, ex1⟩ : ∃ z : Int, q_R z ∧ xs 1 = q_i z := ⟨_, q_rng _, (q_of _).symm⟩
  have lx1 := rx1.1
  have ux1 := rx1.2
  obtain ⟨x2, rx2, ex2⟩ : ∃ z : Int, q_R z ∧ xs 2 = q_i z := ⟨_, q_rng _, (q_of _).symm⟩
  have lx2 := rx2.1
  have ux2 := rx2.2
  obtain ⟨x3, rx3, ex3⟩ : ∃ z : Int, q_R z ∧ xs 3 = q_i z := ⟨_, q_rng _, (q_of _).symm⟩
  have lx3 := rx3.1
  have ux3 := rx3.2
  obtain ⟨x4, rx4, ex4⟩ : ∃ z : Int, q_R z ∧ xs 4 = q_i z := ⟨_, q_rng _, (q_of _).symm⟩
  have lx4 := rx4.1
  have ux4 := rx4.2
  obtain ⟨x5, rx5, ex5⟩ : ∃ z : Int, q_R z ∧ xs 5 = q_i z := ⟨_, q_rng _, (q_of _).symm⟩
  have lx5 := rx5.1
  have ux5 := rx5.2
  refine q_ald_n cx dL_law_2063 rfl (lv_at hl 2 rfl) ?_
  refine q_ald_n cx dL_law_2064 rfl (lv_at hl 1 rfl) ?_
  refine lv_iload cx.1 cx.2.1 dL_law_2065 (lv_at hl 0 rfl) ?_
  refine q_iconst cx dL_law_2067 ?_
  refine q_iadd cx dL_law_2068 ?_
  refine va_sld cx.1 cx.2.1 hXs hbl hbA hB.1.2.2.2 (q_in (by decide) (by decide) (by decide)) dL_law_2069 ?_
  rw [show (q_i (0 + 1)).toNatClampNeg = 1 from by decide, ex1]
  refine q_ald_n cx dL_law_2070 rfl (lv_at hl 1 rfl) ?_
  refine lv_iload cx.1 cx.2.1 dL_law_2071 (lv_at hl 0 rfl) ?_
  refine q_iconst cx dL_law_2073 ?_
  refine q_iadd cx dL_law_2074 ?_
  refine va_sld cx.1 cx.2.1 hXs hbl hbA hB.1.2.2.2 (q_in (by decide) (by decide) (by decide)) dL_law_2075 ?_
  rw [show (q_i (0 + 2)).toNatClampNeg = 2 from by decide, ex2]
  refine q_ald_n cx dL_law_2076 rfl (lv_at hl 4 rfl) ?_
  refine q_cWS (As := [.ref x, .int (q_i x1), .int (q_i x2), .ref out]) (rest := []) cx hX hB (fun q h => hLA q h) (fun q h1 h2 => absurd h1 (Nat.not_le_of_lt h2)) hN (w_setBorn l g hN hB.2.1 hfl x hx kx x1 (by omega) (by omega) x2 (by omega) (by omega) out hout kout src hsrc ksrc rdr hrdr krdr scr hscr kscr fc hfc kfc hist hhist khist rep hrep krep now hnow know dr hdr kdr sv hsv ksv tr htr ktr hf0 hf1 hf2 hf3 hf4 hf5 hf6 hf7 hf8 hf9 hf10 hf11 hf12 hf13 hr0 hr1 hr2 hr3 hr4 hr5 hr6 hr7 hr8 hr9) q_cL_234 q_dL_setBorn (by decide) rfl rfl hl.1 rfl (Nat.le_of_ble_eq_true rfl) dL_law_2077 (fun v9 H locs f1 h3 hF hB => ?_)
  obtain ⟨y2, rfl, ry2, h3⟩ := h3
  refine W.eq (g2 := F0 m 2080 ls [.int (q_i y2)]) rfl ?_
  have qy2 := h3
  have z4 : q_z f1 x 9 = 0 := (hF.z hx (by rw [kx]; rfl)).trans hf0
  have z5 : q_z f1 src 1 = 0 := (hF.z hsrc (by rw [ksrc]; rfl)).trans hf1
  have z6 : q_z f1 src 2 = 0 := (hF.z hsrc (by rw [ksrc]; rfl)).trans hf2
  have z7 : q_z f1 src 3 = (-1) := (hF.z hsrc (by rw [ksrc]; rfl)).trans hf3
  have z8 : q_z f1 hist 1 = 0 := (hF.z hhist (by rw [khist]; rfl)).trans hf4
  have z9 : q_z f1 hist 2 = 0 := (hF.z hhist (by rw [khist]; rfl)).trans hf5
  have z10 : q_z f1 rep 1 = 0 := (hF.z hrep (by rw [krep]; rfl)).trans hf6
  have z11 : q_z f1 now 3 = 0 := (hF.z hnow (by rw [know]; rfl)).trans hf7
  have z12 : q_z f1 now 4 = 0 := (hF.z hnow (by rw [know]; rfl)).trans hf8
  have z13 : q_z f1 now 5 = 0 := (hF.z hnow (by rw [know]; rfl)).trans hf9
  have z14 : q_z f1 now 6 = 12 := (hF.z hnow (by rw [know]; rfl)).trans hf10
  have z15 : q_z f1 now 10 = 3 := (hF.z hnow (by rw [know]; rfl)).trans hf11
  have z16 : q_z f1 now 11 = 0 := (hF.z hnow (by rw [know]; rfl)).trans hf12
  have z17 : q_z f1 now 12 = 0 := (hF.z hnow (by rw [know]; rfl)).trans hf13
  have z18 : q_z f1 mo 2 = 0 := (hF.z hmo (by rw [kmo]; rfl)).trans hf14
  have z19 : q_z f1 mo 8 = 0 := (hF.z hmo (by rw [kmo]; rfl)).trans hf15
  have z20 : q_z f1 mo 9 = (-1) := (hF.z hmo (by rw [kmo]; rfl)).trans hf16
  have z21 : q_z f1 mo 10 = 0 := (hF.z hmo (by rw [kmo]; rfl)).trans hf17
  have z22 : q_z f1 mo 11 = (-1) := (hF.z hmo (by rw [kmo]; rfl)).trans hf18
  have z23 : q_z f1 mo 21 = 0 := (hF.z hmo (by rw [kmo]; rfl)).trans hf19
  have z24 : q_z f1 mo 22 = 0 := (hF.z hmo (by rw [kmo]; rfl)).trans hf20
  have z25 : q_z f1 mo 40 = 0 := (hF.z hmo (by rw [kmo]; rfl)).trans hf21
  have z26 : q_z f1 sr 0 = 0 := (hF.z hsr (by rw [ksr]; rfl)).trans hf22
  have z27 : q_z f1 sr 1 = 0 := (hF.z hsr (by rw [ksr]; rfl)).trans hf23
  have z28 : q_z f1 sr 2 = 12 := (hF.z hsr (by rw [ksr]; rfl)).trans hf24
  have z29 : q_z f1 sr 3 = 0 := (hF.z hsr (by rw [ksr]; rfl)).trans hf25
  have z30 : q_z f1 sr 4 = 0 := (hF.z hsr (by rw [ksr]; rfl)).trans hf26
  have z31 : q_z f1 sr 5 = 1 := (hF.z hsr (by rw [ksr]; rfl)).trans hf27
  have z32 : q_z f1 sr 6 = 2 := (hF.z hsr (by rw [ksr]; rfl)).trans hf28
  have z33 : q_z f1 sr 7 = 5 := (hF.z hsr (by rw [ksr]; rfl)).trans hf29
  have z34 : q_z f1 sr 8 = 3 := (hF.z hsr (by rw [ksr]; rfl)).trans hf30
  have z35 : q_z f1 sr 9 = 0 := (hF.z hsr (by rw [ksr]; rfl)).trans hf31
  have z36 : q_r f1 x 0 = src := (hF.r hx (by rw [kx]; rfl)).trans hr0
  have z37 : q_r f1 x 1 = rdr := (hF.r hx (by rw [kx]; rfl)).trans hr1
  have z38 : q_r f1 x 2 = scr := (hF.r hx (by rw [kx]; rfl)).trans hr2
  have z39 : q_r f1 x 3 = fc := (hF.r hx (by rw [kx]; rfl)).trans hr3
  have z40 : q_r f1 x 4 = hist := (hF.r hx (by rw [kx]; rfl)).trans hr4
  have z41 : q_r f1 x 5 = rep := (hF.r hx (by rw [kx]; rfl)).trans hr5
  have z42 : q_r f1 x 6 = now := (hF.r hx (by rw [kx]; rfl)).trans hr6
  have z43 : q_r f1 x 7 = dr := (hF.r hx (by rw [kx]; rfl)).trans hr7
  have z44 : q_r f1 x 8 = sv := (hF.r hx (by rw [kx]; rfl)).trans hr8
  have z45 : q_r f1 fc 0 = tr := (hF.r hfc (by rw [kfc]; rfl)).trans hr9
  have z46 : q_r f1 mo 1 = bu := (hF.r hmo (by rw [kmo]; rfl)).trans hr10
  have z47 : q_r f1 mo 13 = sr := (hF.r hmo (by rw [kmo]; rfl)).trans hr11
  have z48 : q_r f1 mo 14 = sd := (hF.r hmo (by rw [kmo]; rfl)).trans hr12
  have z49 : q_r f1 mo 15 = as := (hF.r hmo (by rw [kmo]; rfl)).trans hr13
  have z50 : q_r f1 mo 16 = aw := (hF.r hmo (by rw [kmo]; rfl)).trans hr14
  have z51 : q_r f1 mo 17 = pa := (hF.r hmo (by rw [kmo]; rfl)).trans hr15
  have z52 : q_r f1 mo 18 = nm := (hF.r hmo (by rw [kmo]; rfl)).trans hr16
  have z53 : q_r f1 mo 19 = snm := (hF.r hmo (by rw [kmo]; rfl)).trans hr17
  have z54 : q_r f1 mo 20 = anm := (hF.r hmo (by rw [kmo]; rfl)).trans hr18
  subst qy2
  refine lv_istore (lv' := [(6, .int (q_i 1)), (5, .int (q_i 0)), (0, .ref b), (1, .ref x), (2, .ref mo), (3, .ref out), (4, .ref outD)]) cx.1 cx.2.1 dL_law_2080 hl (by decide) rfl (fun ls hl => ?_)
  refine q_ald_n cx dL_law_2082 rfl (lv_at hl 4 rfl) ?_
  refine q_ald_n cx dL_law_2083 rfl (lv_at hl 2 rfl) ?_
  refine lv_iload cx.1 cx.2.1 dL_law_2084 (lv_at hl 1 rfl) ?_
  refine q_iconst cx dL_law_2086 ?_
  refine q_iadd cx dL_law_2087 ?_
  refine va_sld cx.1 cx.2.1 hXs hbl hbA hB.1.2.2.2 (q_in (by decide) (by decide) (by decide)) dL_law_2088 ?_
  rw [show (q_i (0 + 1)).toNatClampNeg = 1 from by decide, ex1]
  refine q_ald_n cx dL_law_2089 rfl (lv_at hl 2 rfl) ?_
  refine lv_iload cx.1 cx.2.1 dL_law_2090 (lv_at hl 1 rfl) ?_
  refine q_iconst cx dL_law_2092 ?_
  refine q_iadd cx dL_law_2093 ?_
  refine va_sld cx.1 cx.2.1 hXs hbl hbA hB.1.2.2.2 (q_in (by decide) (by decide) (by decide)) dL_law_2094 ?_
  rw [show (q_i (0 + 2)).toNatClampNeg = 2 from by decide, ex2]
  refine q_cVi (As := [.int (q_i x1), .int (q_i x2)]) (rest := []) cx hB (fun q h => hLA q h) hN hmo kmo (by decide) rfl (p_setBorn l g hN hB.2.1 mo hmo kmo x1 (by omega) (by omega) x2 (by omega) (by omega) bu hbu kbu sr hsr ksr sd hsd ksd as has kas aw haw kaw pa hpa kpa nm hnm knm snm hsnm ksnm anm hanm kanm z18 z19 z20 z21 z22 z23 z24 z25 z26 z27 z28 z29 z30 z31 z32 z33 z34 z35 z46 z47 z48 z49 z50 z51 z52 z53 z54) q_cL_236 q_dX12_setBorn (by decide) rfl rfl hl.1 rfl (Nat.le_of_ble_eq_true rfl) dL_law_2095 (fun y56 H locs f55 ry56 h57 hF hB => ?_)
  obtain ⟨qy56, z58⟩ := h57
  have z59 : q_z f55 x 9 = 0 := (hF.z hx (by rw [kx]; rfl)).trans z4
  have z60 : q_z f55 src 1 = 0 := (hF.z hsrc (by rw [ksrc]; rfl)).trans z5
  have z61 : q_z f55 src 2 = 0 := (hF.z hsrc (by rw [ksrc]; rfl)).trans z6
  have z62 : q_z f55 src 3 = (-1) := (hF.z hsrc (by rw [ksrc]; rfl)).trans z7
  have z63 : q_z f55 hist 1 = 0 := (hF.z hhist (by rw [khist]; rfl)).trans z8
  have z64 : q_z f55 hist 2 = 0 := (hF.z hhist (by rw [khist]; rfl)).trans z9
  have z65 : q_z f55 rep 1 = 0 := (hF.z hrep (by rw [krep]; rfl)).trans z10
  have z66 : q_z f55 now 3 = 0 := (hF.z hnow (by rw [know]; rfl)).trans z11
  have z67 : q_z f55 now 4 = 0 := (hF.z hnow (by rw [know]; rfl)).trans z12
  have z68 : q_z f55 now 5 = 0 := (hF.z hnow (by rw [know]; rfl)).trans z13
  have z69 : q_z f55 now 6 = 12 := (hF.z hnow (by rw [know]; rfl)).trans z14
  have z70 : q_z f55 now 10 = 3 := (hF.z hnow (by rw [know]; rfl)).trans z15
  have z71 : q_z f55 now 11 = 0 := (hF.z hnow (by rw [know]; rfl)).trans z16
  have z72 : q_z f55 now 12 = 0 := (hF.z hnow (by rw [know]; rfl)).trans z17
  have z73 : q_r f55 x 0 = src := (hF.r hx (by rw [kx]; rfl)).trans z36
  have z74 : q_r f55 x 1 = rdr := (hF.r hx (by rw [kx]; rfl)).trans z37
  have z75 : q_r f55 x 2 = scr := (hF.r hx (by rw [kx]; rfl)).trans z38
  have z76 : q_r f55 x 3 = fc := (hF.r hx (by rw [kx]; rfl)).trans z39
  have z77 : q_r f55 x 4 = hist := (hF.r hx (by rw [kx]; rfl)).trans z40
  have z78 : q_r f55 x 5 = rep := (hF.r hx (by rw [kx]; rfl)).trans z41
  have z79 : q_r f55 x 6 = now := (hF.r hx (by rw [kx]; rfl)).trans z42
  have z80 : q_r f55 x 7 = dr := (hF.r hx (by rw [kx]; rfl)).trans z43
  have z81 : q_r f55 x 8 = sv := (hF.r hx (by rw [kx]; rfl)).trans z44
  have z82 : q_r f55 fc 0 = tr := (hF.r hfc (by rw [kfc]; rfl)).trans z45
  subst qy56
  refine lv_istore (lv' := [(7, .int (q_i 0)), (6, .int (q_i 1)), (5, .int (q_i 0)), (0, .ref b), (1, .ref x), (2, .ref mo), (3, .ref out), (4, .ref outD)]) cx.1 cx.2.1 dL_law_2098 hl (by decide) rfl (fun ls hl => ?_)
  refine q_ald_n cx dL_law_2100 rfl (lv_at hl 5 rfl) ?_
  refine q_cVi (As := []) (rest := []) cx hB (fun q h => hLA q h) hN hmo kmo (by decide) rfl (r_thrown l g hN hB.2.1 mo hmo kmo 1 (by decide) (by decide) z58) q_cL_124 q_dX12_thrown (by decide) rfl rfl hl.1 rfl (Nat.le_of_ble_eq_true rfl) dL_law_2101 (fun y84 H locs f83 ry84 h85 hF hB => ?_)
  obtain ⟨rfl, qy84⟩ := h85
  subst qy84
  refine lv_iload cx.1 cx.2.1 dL_law_2104 (lv_at hl 1 rfl) ?_
  refine q_iceq (tgt := 2111) cx ⟨by decide, by decide⟩ ⟨by decide, by decide⟩ dL_law_2106 (by decide) (fun c86 => ?_) (fun c86 => ?_)
  · refine lv_iload cx.1 cx.2.1 dL_law_2111 (lv_at hl 1 rfl) ?_
    refine q_ifne (tgt := 2128) cx ⟨by decide, by decide⟩ dL_law_2113 (by decide) (fun c87 => ?_) (fun c87 => ?_)
    · refine lv_goto (tgt := 2394) cx.1 cx.2.1 dL_law_2128 (by decide) ?_
      refine q_iinc (lv' := [(5, .int (q_i (0 + 6))), (7, .int (q_i 0)), (6, .int (q_i 1)), (0, .ref b), (1, .ref x), (2, .ref mo), (3, .ref out), (4, .ref outD)]) cx dL_law_2394 hl (k := 2) rfl (by decide) rfl (fun ls hl => ?_)
      refine lv_goto (tgt := 28) cx.1 cx.2.1 dL_law_2397 (by decide) ?_
      refine lv_iload cx.1 cx.2.1 dL_law_28 (lv_at hl 0 rfl) ?_
      refine q_ald_n cx dL_law_30 rfl (lv_at hl 3 rfl) ?_
      refine va_slen cx.1 cx.2.1 hXs hbl hbA hB.1.2.2.2 dL_law_31 ?_
      rw [show Int32.ofNat 6 = q_i 6 from by decide]
      refine q_bipush cx dL_law_32 rfl ?_
      refine q_isub cx dL_law_34 ?_
      refine q_icgt (tgt := 2400) cx ⟨by decide, by decide⟩ ⟨by decide, by decide⟩ dL_law_35 (by decide) (fun c88 => ?_) (fun c88 => ?_)
      · refine q_iconst cx dL_law_2400 ?_
        exact q_lawret C0 hB (by decide) (by decide) dL_law_2401
      · exact absurd c88 (by omega)
    · exact absurd c87 (by omega)
  · exact absurd c86 (by omega)
set_option maxHeartbeats 4000000 in
set_option maxRecDepth 100000 in
theorem law_c2131 {p : Program} {l : Launch} {e : Env} {s : State} {m : MethodId} {below : List Frame} {meth : Method} {c : Code} {b : Nat} {xs : Nat → Int32} (hfl : l.stackTraces = false) (C0 : lw_At p s m meth c b 6 xs) (cx : CallFix p m c cL_law 10 s #[Value.ref b] q_al RL) {g : q_G} {K : Nat → Nat} {L : List Nat} {f : Nat → va_E} {H : Heap} {locs : List Loc} {ls : Array Slot} (hN : L.Nodup) (hLA : ∀ q, q ∈ L → s.heap.size ≤ q) (hX : q_X (fun q => q ∈ L) s) (hB : q_B g K L (fun q => s.heap.size ≤ q) [(2, 1, 2), (6, 1, 1), (7, 1, 4), (8, 1, 9), (9, 0, 2), (10, 3, 15), (11, 9, 9), (12, 0, 40), (13, 3, 15), (14, 3, 15), (15, 3, 15), (16, 3, 15), (142, 0, 599), (150, 0, 599), (151, 0, 657), (152, 0, 657), (153, 0, 657), (154, 0, 657), (155, 0, 3947), (156, 0, 9), (157, 0, 9), (158, 0, 9), (168, 0, 0), (169, 0, 0)] f f s H locs) {x : Nat} (hx : x ∈ L) (kx : K x = 11) {src : Nat} (hsrc : src ∈ L) (ksrc : K src = 8) {rdr : Nat} (hrdr : rdr ∈ L) (krdr : K rdr = 9) {scr : Nat} (hscr : scr ∈ L) (kscr : K scr = 7) {fc : Nat} (hfc : fc ∈ L) (kfc : K fc = 1) {hist : Nat} (hhist : hist ∈ L) (khist : K hist = 2) {rep : Nat} (hrep : rep ∈ L) (krep : K rep = 6) {now : Nat} (hnow : now ∈ L) (know : K now = 10) {dr : Nat} (hdr : dr ∈ L) (kdr : K dr = 13) {sv : Nat} (hsv : sv ∈ L) (ksv : K sv = 14) {tr : Nat} (htr : tr ∈ L) (ktr : K tr = 15) {mo : Nat} (hmo : mo ∈ L) (kmo : K mo = 12) {bu : Nat} (hbu : bu ∈ L) (kbu : K bu = 150) {sr : Nat} (hsr : sr ∈ L) (ksr : K sr = 151) {sd : Nat} (hsd : sd ∈ L) (ksd : K sd = 152) {as : Nat} (has : as ∈ L) (kas : K as = 153) {aw : Nat} (haw : aw ∈ L) (kaw : K aw = 154) {pa : Nat} (hpa : pa ∈ L) (kpa : K pa = 155) {nm : Nat} (hnm : nm ∈ L) (knm : K nm = 156) {snm : Nat} (hsnm : snm ∈ L) (ksnm : K snm = 157) {anm : Nat} (hanm : anm ∈ L) (kanm : K anm = 158) {out : Nat} (hout : out ∈ L) (kout : K out = 168) {outD : Nat} (houtD : outD ∈ L) (koutD : K outD = 169) (hf0 : q_z f x 9 = 0) (hf1 : q_z f src 1 = 0) (hf2 : q_z f src 2 = 0) (hf3 : q_z f src 3 = (-1)) (hf4 : q_z f hist 1 = 0) (hf5 : q_z f hist 2 = 0) (hf6 : q_z f rep 1 = 0) (hf7 : q_z f now 3 = 0) (hf8 : q_z f now 4 = 0) (hf9 : q_z f now 5 = 0) (hf10 : q_z f now 6 = 12) (hf11 : q_z f now 10 = 3) (hf12 : q_z f now 11 = 0) (hf13 : q_z f now 12 = 0) (hf14 : q_z f mo 2 = 0) (hf15 : q_z f mo 8 = 0) (hf16 : q_z f mo 9 = (-1)) (hf17 : q_z f mo 10 = 0) (hf18 : q_z f mo 11 = (-1)) (hf19 : q_z f mo 21 = 0) (hf20 : q_z f mo 22 = 0) (hf21 : q_z f mo 40 = 0) (hf22 : q_z f sr 0 = 0) (hf23 : q_z f sr 1 = 0) (hf24 : q_z f sr 2 = 12) (hf25 : q_z f sr 3 = 0) (hf26 : q_z f sr 4 = 0) (hf27 : q_z f sr 5 = 1) (hf28 : q_z f sr 6 = 2) (hf29 : q_z f sr 7 = 5) (hf30 : q_z f sr 8 = 3) (hf31 : q_z f sr 9 = 0) (hr0 : q_r f x 0 = src) (hr1 : q_r f x 1 = rdr) (hr2 : q_r f x 2 = scr) (hr3 : q_r f x 3 = fc) (hr4 : q_r f x 4 = hist) (hr5 : q_r f x 5 = rep) (hr6 : q_r f x 6 = now) (hr7 : q_r f x 7 = dr) (hr8 : q_r f x 8 = sv) (hr9 : q_r f fc 0 = tr) (hr10 : q_r f mo 1 = bu) (hr11 : q_r f mo 13 = sr) (hr12 : q_r f mo 14 = sd) (hr13 : q_r f mo 15 = as) (hr14 : q_r f mo 16 = aw) (hr15 : q_r f mo 17 = pa) (hr16 : q_r f mo 18 = nm) (hr17 : q_r f mo 19 = snm) (hr18 : q_r f mo 20 = anm) (hl : lv_has ls 10 [(5, .int (q_i 0)), (0, .ref b), (1, .ref x), (2, .ref mo), (3, .ref out), (4, .ref outD)]) : W p l e room_1 s m #[Value.ref b] below meth c H locs 1100 20000 (lw_Z below #[Value.ref b] s) (F0 m 2131 ls []) := by
  have hXs := C0.2.2.2.2.2.2.1
  have hbl := C0.2.2.2.2.2.2.2.1
  have hbA := q_bA hbl
  obtain ⟨x0, rx0, ex0⟩ : ∃ z : Int, q_R z ∧ xs 0 = q_i z := ⟨_, q_rng _, (q_of _).symm⟩
  have lx0 := rx0.1
  have ux0 := rx0.2
  obtain ⟨x1, rx1, ex1⟩ : ∃ z : Int, q_R z ∧ xs 1 = q_i z := ⟨_, q_rng _, (q_of _).symm⟩
  have lx1 := rx1.1
  have ux1 := rx1.2
  obtain ⟨x2, rx2, ex2⟩ : ∃ z : Int, q_R z ∧ xs 2 = q_i z := ⟨_, q_rng _, (q_of _).symm⟩
  have lx2 := rx2.1
  have ux2 := rx2.2
  obtain ⟨x3, rx3, ex3⟩ : ∃ z : Int, q_R z ∧ xs 3 = q_i z := ⟨_, q_rng _, (q_of _).symm⟩
  have lx3 := rx3.1
  have ux3 := rx3.2
  obtain ⟨x4, rx4, ex4⟩ : ∃ z : Int, q_R z ∧ xs 4 = q_i z := ⟨_, q_rng _, (q_of _).symm⟩
  have lx4 := rx4.1
  have ux4 := rx4.2
  obtain ⟨x5, rx5, ex5⟩ : ∃ z : Int, q_R z ∧ xs 5 = q_i z := ⟨_, q_rng _, (q_of _).symm⟩
  have lx5 := rx5.1
  have ux5 := rx5.2
  refine q_ald_n cx dL_law_2131 rfl (lv_at hl 2 rfl) ?_
  refine q_ald_n cx dL_law_2132 rfl (lv_at hl 1 rfl) ?_
  refine lv_iload cx.1 cx.2.1 dL_law_2133 (lv_at hl 0 rfl) ?_
  refine q_iconst cx dL_law_2135 ?_
  refine q_iadd cx dL_law_2136 ?_
  refine va_sld cx.1 cx.2.1 hXs hbl hbA hB.1.2.2.2 (q_in (by decide) (by decide) (by decide)) dL_law_2137 ?_
  rw [show (q_i (0 + 1)).toNatClampNeg = 1 from by decide, ex1]
  refine q_ald_n cx dL_law_2138 rfl (lv_at hl 1 rfl) ?_
  refine lv_iload cx.1 cx.2.1 dL_law_2139 (lv_at hl 0 rfl) ?_
  refine q_iconst cx dL_law_2141 ?_
  refine q_iadd cx dL_law_2142 ?_
  refine va_sld cx.1 cx.2.1 hXs hbl hbA hB.1.2.2.2 (q_in (by decide) (by decide) (by decide)) dL_law_2143 ?_
  rw [show (q_i (0 + 2)).toNatClampNeg = 2 from by decide, ex2]
  refine q_ald_n cx dL_law_2144 rfl (lv_at hl 4 rfl) ?_
  refine q_cWS (As := [.ref x, .int (q_i x1), .int (q_i x2), .ref out]) (rest := []) cx hX hB (fun q h => hLA q h) (fun q h1 h2 => absurd h1 (Nat.not_le_of_lt h2)) hN (w_charge l g hN hB.2.1 hfl x hx kx x1 (by omega) (by omega) x2 (by omega) (by omega) out hout kout src hsrc ksrc rdr hrdr krdr scr hscr kscr fc hfc kfc hist hhist khist rep hrep krep now hnow know dr hdr kdr sv hsv ksv tr htr ktr hf0 hf1 hf2 hf3 hf4 hf5 hf6 hf7 hf8 hf9 hf10 hf11 hf12 hf13 hr0 hr1 hr2 hr3 hr4 hr5 hr6 hr7 hr8 hr9) q_cL_237 q_dL_charge (by decide) rfl rfl hl.1 rfl (Nat.le_of_ble_eq_true rfl) dL_law_2145 (fun v9 H locs f1 h3 hF hB => ?_)
  obtain ⟨y2, rfl, ry2, h3⟩ := h3
  refine W.eq (g2 := F0 m 2148 ls [.int (q_i y2)]) rfl ?_
  have qy2 := h3
  have z4 : q_z f1 x 9 = 0 := (hF.z hx (by rw [kx]; rfl)).trans hf0
  have z5 : q_z f1 src 1 = 0 := (hF.z hsrc (by rw [ksrc]; rfl)).trans hf1
  have z6 : q_z f1 src 2 = 0 := (hF.z hsrc (by rw [ksrc]; rfl)).trans hf2
  have z7 : q_z f1 src 3 = (-1) := (hF.z hsrc (by rw [ksrc]; rfl)).trans hf3
  have z8 : q_z f1 hist 1 = 0 := (hF.z hhist (by rw [khist]; rfl)).trans hf4
  have z9 : q_z f1 hist 2 = 0 := (hF.z hhist (by rw [khist]; rfl)).trans hf5
  have z10 : q_z f1 rep 1 = 0 := (hF.z hrep (by rw [krep]; rfl)).trans hf6
  have z11 : q_z f1 now 3 = 0 := (hF.z hnow (by rw [know]; rfl)).trans hf7
  have z12 : q_z f1 now 4 = 0 := (hF.z hnow (by rw [know]; rfl)).trans hf8
  have z13 : q_z f1 now 5 = 0 := (hF.z hnow (by rw [know]; rfl)).trans hf9
  have z14 : q_z f1 now 6 = 12 := (hF.z hnow (by rw [know]; rfl)).trans hf10
  have z15 : q_z f1 now 10 = 3 := (hF.z hnow (by rw [know]; rfl)).trans hf11
  have z16 : q_z f1 now 11 = 0 := (hF.z hnow (by rw [know]; rfl)).trans hf12
  have z17 : q_z f1 now 12 = 0 := (hF.z hnow (by rw [know]; rfl)).trans hf13
  have z18 : q_z f1 mo 2 = 0 := (hF.z hmo (by rw [kmo]; rfl)).trans hf14
  have z19 : q_z f1 mo 8 = 0 := (hF.z hmo (by rw [kmo]; rfl)).trans hf15
  have z20 : q_z f1 mo 9 = (-1) := (hF.z hmo (by rw [kmo]; rfl)).trans hf16
  have z21 : q_z f1 mo 10 = 0 := (hF.z hmo (by rw [kmo]; rfl)).trans hf17
  have z22 : q_z f1 mo 11 = (-1) := (hF.z hmo (by rw [kmo]; rfl)).trans hf18
  have z23 : q_z f1 mo 21 = 0 := (hF.z hmo (by rw [kmo]; rfl)).trans hf19
  have z24 : q_z f1 mo 22 = 0 := (hF.z hmo (by rw [kmo]; rfl)).trans hf20
  have z25 : q_z f1 mo 40 = 0 := (hF.z hmo (by rw [kmo]; rfl)).trans hf21
  have z26 : q_z f1 sr 0 = 0 := (hF.z hsr (by rw [ksr]; rfl)).trans hf22
  have z27 : q_z f1 sr 1 = 0 := (hF.z hsr (by rw [ksr]; rfl)).trans hf23
  have z28 : q_z f1 sr 2 = 12 := (hF.z hsr (by rw [ksr]; rfl)).trans hf24
  have z29 : q_z f1 sr 3 = 0 := (hF.z hsr (by rw [ksr]; rfl)).trans hf25
  have z30 : q_z f1 sr 4 = 0 := (hF.z hsr (by rw [ksr]; rfl)).trans hf26
  have z31 : q_z f1 sr 5 = 1 := (hF.z hsr (by rw [ksr]; rfl)).trans hf27
  have z32 : q_z f1 sr 6 = 2 := (hF.z hsr (by rw [ksr]; rfl)).trans hf28
  have z33 : q_z f1 sr 7 = 5 := (hF.z hsr (by rw [ksr]; rfl)).trans hf29
  have z34 : q_z f1 sr 8 = 3 := (hF.z hsr (by rw [ksr]; rfl)).trans hf30
  have z35 : q_z f1 sr 9 = 0 := (hF.z hsr (by rw [ksr]; rfl)).trans hf31
  have z36 : q_r f1 x 0 = src := (hF.r hx (by rw [kx]; rfl)).trans hr0
  have z37 : q_r f1 x 1 = rdr := (hF.r hx (by rw [kx]; rfl)).trans hr1
  have z38 : q_r f1 x 2 = scr := (hF.r hx (by rw [kx]; rfl)).trans hr2
  have z39 : q_r f1 x 3 = fc := (hF.r hx (by rw [kx]; rfl)).trans hr3
  have z40 : q_r f1 x 4 = hist := (hF.r hx (by rw [kx]; rfl)).trans hr4
  have z41 : q_r f1 x 5 = rep := (hF.r hx (by rw [kx]; rfl)).trans hr5
  have z42 : q_r f1 x 6 = now := (hF.r hx (by rw [kx]; rfl)).trans hr6
  have z43 : q_r f1 x 7 = dr := (hF.r hx (by rw [kx]; rfl)).trans hr7
  have z44 : q_r f1 x 8 = sv := (hF.r hx (by rw [kx]; rfl)).trans hr8
  have z45 : q_r f1 fc 0 = tr := (hF.r hfc (by rw [kfc]; rfl)).trans hr9
  have z46 : q_r f1 mo 1 = bu := (hF.r hmo (by rw [kmo]; rfl)).trans hr10
  have z47 : q_r f1 mo 13 = sr := (hF.r hmo (by rw [kmo]; rfl)).trans hr11
  have z48 : q_r f1 mo 14 = sd := (hF.r hmo (by rw [kmo]; rfl)).trans hr12
  have z49 : q_r f1 mo 15 = as := (hF.r hmo (by rw [kmo]; rfl)).trans hr13
  have z50 : q_r f1 mo 16 = aw := (hF.r hmo (by rw [kmo]; rfl)).trans hr14
  have z51 : q_r f1 mo 17 = pa := (hF.r hmo (by rw [kmo]; rfl)).trans hr15
  have z52 : q_r f1 mo 18 = nm := (hF.r hmo (by rw [kmo]; rfl)).trans hr16
  have z53 : q_r f1 mo 19 = snm := (hF.r hmo (by rw [kmo]; rfl)).trans hr17
  have z54 : q_r f1 mo 20 = anm := (hF.r hmo (by rw [kmo]; rfl)).trans hr18
  subst qy2
  refine lv_istore (lv' := [(6, .int (q_i 1)), (5, .int (q_i 0)), (0, .ref b), (1, .ref x), (2, .ref mo), (3, .ref out), (4, .ref outD)]) cx.1 cx.2.1 dL_law_2148 hl (by decide) rfl (fun ls hl => ?_)
  refine q_ald_n cx dL_law_2150 rfl (lv_at hl 4 rfl) ?_
  refine q_ald_n cx dL_law_2151 rfl (lv_at hl 2 rfl) ?_
  refine lv_iload cx.1 cx.2.1 dL_law_2152 (lv_at hl 1 rfl) ?_
  refine q_iconst cx dL_law_2154 ?_
  refine q_iadd cx dL_law_2155 ?_
  refine va_sld cx.1 cx.2.1 hXs hbl hbA hB.1.2.2.2 (q_in (by decide) (by decide) (by decide)) dL_law_2156 ?_
  rw [show (q_i (0 + 1)).toNatClampNeg = 1 from by decide, ex1]
  refine q_ald_n cx dL_law_2157 rfl (lv_at hl 2 rfl) ?_
  refine lv_iload cx.1 cx.2.1 dL_law_2158 (lv_at hl 1 rfl) ?_
  refine q_iconst cx dL_law_2160 ?_
  refine q_iadd cx dL_law_2161 ?_
  refine va_sld cx.1 cx.2.1 hXs hbl hbA hB.1.2.2.2 (q_in (by decide) (by decide) (by decide)) dL_law_2162 ?_
  rw [show (q_i (0 + 2)).toNatClampNeg = 2 from by decide, ex2]
  refine q_cVi (As := [.int (q_i x1), .int (q_i x2)]) (rest := []) cx hB (fun q h => hLA q h) hN hmo kmo (by decide) rfl (p_charge l g hN hB.2.1 mo hmo kmo x1 (by omega) (by omega) x2 (by omega) (by omega) bu hbu kbu sr hsr ksr sd hsd ksd as has kas aw haw kaw pa hpa kpa nm hnm knm snm hsnm ksnm anm hanm kanm z18 z19 z20 z21 z22 z23 z24 z25 z26 z27 z28 z29 z30 z31 z32 z33 z34 z35 z46 z47 z48 z49 z50 z51 z52 z53 z54) q_cL_239 q_dX12_charge (by decide) rfl rfl hl.1 rfl (Nat.le_of_ble_eq_true rfl) dL_law_2163 (fun y56 H locs f55 ry56 h57 hF hB => ?_)
  obtain ⟨qy56, z58⟩ := h57
  have z59 : q_z f55 x 9 = 0 := (hF.z hx (by rw [kx]; rfl)).trans z4
  have z60 : q_z f55 src 1 = 0 := (hF.z hsrc (by rw [ksrc]; rfl)).trans z5
  have z61 : q_z f55 src 2 = 0 := (hF.z hsrc (by rw [ksrc]; rfl)).trans z6
  have z62 : q_z f55 src 3 = (-1) := (hF.z hsrc (by rw [ksrc]; rfl)).trans z7
  have z63 : q_z f55 hist 1 = 0 := (hF.z hhist (by rw [khist]; rfl)).trans z8
  have z64 : q_z f55 hist 2 = 0 := (hF.z hhist (by rw [khist]; rfl)).trans z9
  have z65 : q_z f55 rep 1 = 0 := (hF.z hrep (by rw [krep]; rfl)).trans z10
  have z66 : q_z f55 now 3 = 0 := (hF.z hnow (by rw [know]; rfl)).trans z11
  have z67 : q_z f55 now 4 = 0 := (hF.z hnow (by rw [know]; rfl)).trans z12
  have z68 : q_z f55 now 5 = 0 := (hF.z hnow (by rw [know]; rfl)).trans z13
  have z69 : q_z f55 now 6 = 12 := (hF.z hnow (by rw [know]; rfl)).trans z14
  have z70 : q_z f55 now 10 = 3 := (hF.z hnow (by rw [know]; rfl)).trans z15
  have z71 : q_z f55 now 11 = 0 := (hF.z hnow (by rw [know]; rfl)).trans z16
  have z72 : q_z f55 now 12 = 0 := (hF.z hnow (by rw [know]; rfl)).trans z17
  have z73 : q_r f55 x 0 = src := (hF.r hx (by rw [kx]; rfl)).trans z36
  have z74 : q_r f55 x 1 = rdr := (hF.r hx (by rw [kx]; rfl)).trans z37
  have z75 : q_r f55 x 2 = scr := (hF.r hx (by rw [kx]; rfl)).trans z38
  have z76 : q_r f55 x 3 = fc := (hF.r hx (by rw [kx]; rfl)).trans z39
  have z77 : q_r f55 x 4 = hist := (hF.r hx (by rw [kx]; rfl)).trans z40
  have z78 : q_r f55 x 5 = rep := (hF.r hx (by rw [kx]; rfl)).trans z41
  have z79 : q_r f55 x 6 = now := (hF.r hx (by rw [kx]; rfl)).trans z42
  have z80 : q_r f55 x 7 = dr := (hF.r hx (by rw [kx]; rfl)).trans z43
  have z81 : q_r f55 x 8 = sv := (hF.r hx (by rw [kx]; rfl)).trans z44
  have z82 : q_r f55 fc 0 = tr := (hF.r hfc (by rw [kfc]; rfl)).trans z45
  subst qy56
  refine lv_istore (lv' := [(7, .int (q_i 0)), (6, .int (q_i 1)), (5, .int (q_i 0)), (0, .ref b), (1, .ref x), (2, .ref mo), (3, .ref out), (4, .ref outD)]) cx.1 cx.2.1 dL_law_2166 hl (by decide) rfl (fun ls hl => ?_)
  refine q_ald_n cx dL_law_2168 rfl (lv_at hl 5 rfl) ?_
  refine q_cVi (As := []) (rest := []) cx hB (fun q h => hLA q h) hN hmo kmo (by decide) rfl (r_thrown l g hN hB.2.1 mo hmo kmo 1 (by decide) (by decide) z58) q_cL_124 q_dX12_thrown (by decide) rfl rfl hl.1 rfl (Nat.le_of_ble_eq_true rfl) dL_law_2169 (fun y84 H locs f83 ry84 h85 hF hB => ?_)
  obtain ⟨rfl, qy84⟩ := h85
  subst qy84
  refine lv_iload cx.1 cx.2.1 dL_law_2172 (lv_at hl 1 rfl) ?_
  refine q_iceq (tgt := 2179) cx ⟨by decide, by decide⟩ ⟨by decide, by decide⟩ dL_law_2174 (by decide) (fun c86 => ?_) (fun c86 => ?_)
  · refine lv_iload cx.1 cx.2.1 dL_law_2179 (lv_at hl 1 rfl) ?_
    refine q_ifne (tgt := 2196) cx ⟨by decide, by decide⟩ dL_law_2181 (by decide) (fun c87 => ?_) (fun c87 => ?_)
    · refine lv_goto (tgt := 2394) cx.1 cx.2.1 dL_law_2196 (by decide) ?_
      refine q_iinc (lv' := [(5, .int (q_i (0 + 6))), (7, .int (q_i 0)), (6, .int (q_i 1)), (0, .ref b), (1, .ref x), (2, .ref mo), (3, .ref out), (4, .ref outD)]) cx dL_law_2394 hl (k := 2) rfl (by decide) rfl (fun ls hl => ?_)
      refine lv_goto (tgt := 28) cx.1 cx.2.1 dL_law_2397 (by decide) ?_
      refine lv_iload cx.1 cx.2.1 dL_law_28 (lv_at hl 0 rfl) ?_
      refine q_ald_n cx dL_law_30 rfl (lv_at hl 3 rfl) ?_
      refine va_slen cx.1 cx.2.1 hXs hbl hbA hB.1.2.2.2 dL_law_31 ?_
      rw [show Int32.ofNat 6 = q_i 6 from by decide]
      refine q_bipush cx dL_law_32 rfl ?_
      refine q_isub cx dL_law_34 ?_
      refine q_icgt (tgt := 2400) cx ⟨by decide, by decide⟩ ⟨by decide, by decide⟩ dL_law_35 (by decide) (fun c88 => ?_) (fun c88 => ?_)
      · refine q_iconst cx dL_law_2400 ?_
        exact q_lawret C0 hB (by decide) (by decide) dL_law_2401
      · exact absurd c88 (by omega)
    · exact absurd c87 (by omega)
  · exact absurd c86 (by omega)
set_option maxHeartbeats 4000000 in
set_option maxRecDepth 100000 in
theorem law_c2199 {p : Program} {l : Launch} {e : Env} {s : State} {m : MethodId} {below : List Frame} {meth : Method} {c : Code} {b : Nat} {xs : Nat → Int32} (hfl : l.stackTraces = false) (C0 : lw_At p s m meth c b 6 xs) (cx : CallFix p m c cL_law 10 s #[Value.ref b] q_al RL) {g : q_G} {K : Nat → Nat} {L : List Nat} {f : Nat → va_E} {H : Heap} {locs : List Loc} {ls : Array Slot} (hN : L.Nodup) (hLA : ∀ q, q ∈ L → s.heap.size ≤ q) (hX : q_X (fun q => q ∈ L) s) (hB : q_B g K L (fun q => s.heap.size ≤ q) [(2, 1, 2), (6, 1, 1), (7, 1, 4), (8, 1, 9), (9, 0, 2), (10, 3, 15), (11, 9, 9), (12, 0, 40), (13, 3, 15), (14, 3, 15), (15, 3, 15), (16, 3, 15), (142, 0, 599), (150, 0, 599), (151, 0, 657), (152, 0, 657), (153, 0, 657), (154, 0, 657), (155, 0, 3947), (156, 0, 9), (157, 0, 9), (158, 0, 9), (168, 0, 0), (169, 0, 0)] f f s H locs) {x : Nat} (hx : x ∈ L) (kx : K x = 11) {src : Nat} (hsrc : src ∈ L) (ksrc : K src = 8) {rdr : Nat} (hrdr : rdr ∈ L) (krdr : K rdr = 9) {scr : Nat} (hscr : scr ∈ L) (kscr : K scr = 7) {fc : Nat} (hfc : fc ∈ L) (kfc : K fc = 1) {hist : Nat} (hhist : hist ∈ L) (khist : K hist = 2) {rep : Nat} (hrep : rep ∈ L) (krep : K rep = 6) {now : Nat} (hnow : now ∈ L) (know : K now = 10) {dr : Nat} (hdr : dr ∈ L) (kdr : K dr = 13) {sv : Nat} (hsv : sv ∈ L) (ksv : K sv = 14) {tr : Nat} (htr : tr ∈ L) (ktr : K tr = 15) {mo : Nat} (hmo : mo ∈ L) (kmo : K mo = 12) {bu : Nat} (hbu : bu ∈ L) (kbu : K bu = 150) {sr : Nat} (hsr : sr ∈ L) (ksr : K sr = 151) {sd : Nat} (hsd : sd ∈ L) (ksd : K sd = 152) {as : Nat} (has : as ∈ L) (kas : K as = 153) {aw : Nat} (haw : aw ∈ L) (kaw : K aw = 154) {pa : Nat} (hpa : pa ∈ L) (kpa : K pa = 155) {nm : Nat} (hnm : nm ∈ L) (knm : K nm = 156) {snm : Nat} (hsnm : snm ∈ L) (ksnm : K snm = 157) {anm : Nat} (hanm : anm ∈ L) (kanm : K anm = 158) {out : Nat} (hout : out ∈ L) (kout : K out = 168) {outD : Nat} (houtD : outD ∈ L) (koutD : K outD = 169) (hf0 : q_z f x 9 = 0) (hf1 : q_z f src 1 = 0) (hf2 : q_z f src 2 = 0) (hf3 : q_z f src 3 = (-1)) (hf4 : q_z f hist 1 = 0) (hf5 : q_z f hist 2 = 0) (hf6 : q_z f rep 1 = 0) (hf7 : q_z f now 3 = 0) (hf8 : q_z f now 4 = 0) (hf9 : q_z f now 5 = 0) (hf10 : q_z f now 6 = 12) (hf11 : q_z f now 10 = 3) (hf12 : q_z f now 11 = 0) (hf13 : q_z f now 12 = 0) (hf14 : q_z f mo 2 = 0) (hf15 : q_z f mo 8 = 0) (hf16 : q_z f mo 9 = (-1)) (hf17 : q_z f mo 10 = 0) (hf18 : q_z f mo 11 = (-1)) (hf19 : q_z f mo 21 = 0) (hf20 : q_z f mo 22 = 0) (hf21 : q_z f mo 40 = 0) (hf22 : q_z f sr 0 = 0) (hf23 : q_z f sr 1 = 0) (hf24 : q_z f sr 2 = 12) (hf25 : q_z f sr 3 = 0) (hf26 : q_z f sr 4 = 0) (hf27 : q_z f sr 5 = 1) (hf28 : q_z f sr 6 = 2) (hf29 : q_z f sr 7 = 5) (hf30 : q_z f sr 8 = 3) (hf31 : q_z f sr 9 = 0) (hr0 : q_r f x 0 = src) (hr1 : q_r f x 1 = rdr) (hr2 : q_r f x 2 = scr) (hr3 : q_r f x 3 = fc) (hr4 : q_r f x 4 = hist) (hr5 : q_r f x 5 = rep) (hr6 : q_r f x 6 = now) (hr7 : q_r f x 7 = dr) (hr8 : q_r f x 8 = sv) (hr9 : q_r f fc 0 = tr) (hr10 : q_r f mo 1 = bu) (hr11 : q_r f mo 13 = sr) (hr12 : q_r f mo 14 = sd) (hr13 : q_r f mo 15 = as) (hr14 : q_r f mo 16 = aw) (hr15 : q_r f mo 17 = pa) (hr16 : q_r f mo 18 = nm) (hr17 : q_r f mo 19 = snm) (hr18 : q_r f mo 20 = anm) (hl : lv_has ls 10 [(5, .int (q_i 0)), (0, .ref b), (1, .ref x), (2, .ref mo), (3, .ref out), (4, .ref outD)]) : W p l e room_1 s m #[Value.ref b] below meth c H locs 1100 20000 (lw_Z below #[Value.ref b] s) (F0 m 2199 ls []) := by
  have hXs := C0.2.2.2.2.2.2.1
  have hbl := C0.2.2.2.2.2.2.2.1
  have hbA := q_bA hbl
  obtain ⟨x0, rx0, ex0⟩ : ∃ z : Int, q_R z ∧ xs 0 = q_i z := ⟨_, q_rng _, (q_of _).symm⟩
  have lx0 := rx0.1
  have ux0 := rx0.2
  obtain ⟨x1, rx1, ex1⟩ : ∃ z : Int, q_R z ∧ xs 1 = q_i z := ⟨_, q_rng _, (q_of _).symm⟩
  have lx1 := rx1.1
  have ux1 := rx1.2
  obtain ⟨x2, rx2, ex2⟩ : ∃ z : Int, q_R z ∧ xs 2 = q_i z := ⟨_, q_rng _, (q_of _).symm⟩
  have lx2 := rx2.1
  have ux2 := rx2.2
  obtain ⟨x3, rx3, ex3⟩ : ∃ z : Int, q_R z ∧ xs 3 = q_i z := ⟨_, q_rng _, (q_of _).symm⟩
  have lx3 := rx3.1
  have ux3 := rx3.2
  obtain ⟨x4, rx4, ex4⟩ : ∃ z : Int, q_R z ∧ xs 4 = q_i z := ⟨_, q_rng _, (q_of _).symm⟩
  have lx4 := rx4.1
  have ux4 := rx4.2
  obtain ⟨x5, rx5, ex5⟩ : ∃ z : Int, q_R z ∧ xs 5 = q_i z := ⟨_, q_rng _, (q_of _).symm⟩
  have lx5 := rx5.1
  have ux5 := rx5.2
  refine q_ald_n cx dL_law_2199 rfl (lv_at hl 2 rfl) ?_
  refine q_ald_n cx dL_law_2200 rfl (lv_at hl 1 rfl) ?_
  refine lv_iload cx.1 cx.2.1 dL_law_2201 (lv_at hl 0 rfl) ?_
  refine q_iconst cx dL_law_2203 ?_
  refine q_iadd cx dL_law_2204 ?_
  refine va_sld cx.1 cx.2.1 hXs hbl hbA hB.1.2.2.2 (q_in (by decide) (by decide) (by decide)) dL_law_2205 ?_
  rw [show (q_i (0 + 1)).toNatClampNeg = 1 from by decide, ex1]
  refine q_ald_n cx dL_law_2206 rfl (lv_at hl 4 rfl) ?_
  by_cases c1 : x1 ≤ 0
  · refine q_cWS (As := [.ref x, .int (q_i x1), .ref out]) (rest := []) cx hX hB (fun q h => hLA q h) (fun q h1 h2 => absurd h1 (Nat.not_le_of_lt h2)) hN (w_setMissa l g hN hB.2.1 hfl x hx kx x1 (by omega) (by omega) out hout kout src hsrc ksrc rdr hrdr krdr scr hscr kscr fc hfc kfc hist hhist khist rep hrep krep now hnow know dr hdr kdr sv hsv ksv tr htr ktr hf0 hf1 hf2 hf3 hf4 hf5 hf6 hf7 hf8 hf9 hf10 hf11 hf12 hf13 hr0 hr1 hr2 hr3 hr4 hr5 hr6 hr7 hr8 hr9) q_cL_240 q_dL_setMiss (by decide) rfl rfl hl.1 rfl (Nat.le_of_ble_eq_true rfl) dL_law_2207 (fun v9 H locs f2 h4 hF hB => ?_)
    obtain ⟨y3, rfl, ry3, h4⟩ := h4
    refine W.eq (g2 := F0 m 2210 ls [.int (q_i y3)]) rfl ?_
    have qy3 := h4
    have z5 : q_z f2 x 9 = 0 := (hF.z hx (by rw [kx]; rfl)).trans hf0
    have z6 : q_z f2 src 1 = 0 := (hF.z hsrc (by rw [ksrc]; rfl)).trans hf1
    have z7 : q_z f2 src 2 = 0 := (hF.z hsrc (by rw [ksrc]; rfl)).trans hf2
    have z8 : q_z f2 src 3 = (-1) := (hF.z hsrc (by rw [ksrc]; rfl)).trans hf3
    have z9 : q_z f2 hist 1 = 0 := (hF.z hhist (by rw [khist]; rfl)).trans hf4
    have z10 : q_z f2 hist 2 = 0 := (hF.z hhist (by rw [khist]; rfl)).trans hf5
    have z11 : q_z f2 rep 1 = 0 := (hF.z hrep (by rw [krep]; rfl)).trans hf6
    have z12 : q_z f2 now 3 = 0 := (hF.z hnow (by rw [know]; rfl)).trans hf7
    have z13 : q_z f2 now 4 = 0 := (hF.z hnow (by rw [know]; rfl)).trans hf8
    have z14 : q_z f2 now 5 = 0 := (hF.z hnow (by rw [know]; rfl)).trans hf9
    have z15 : q_z f2 now 6 = 12 := (hF.z hnow (by rw [know]; rfl)).trans hf10
    have z16 : q_z f2 now 10 = 3 := (hF.z hnow (by rw [know]; rfl)).trans hf11
    have z17 : q_z f2 now 11 = 0 := (hF.z hnow (by rw [know]; rfl)).trans hf12
    have z18 : q_z f2 now 12 = 0 := (hF.z hnow (by rw [know]; rfl)).trans hf13
    have z19 : q_z f2 mo 2 = 0 := (hF.z hmo (by rw [kmo]; rfl)).trans hf14
    have z20 : q_z f2 mo 8 = 0 := (hF.z hmo (by rw [kmo]; rfl)).trans hf15
    have z21 : q_z f2 mo 9 = (-1) := (hF.z hmo (by rw [kmo]; rfl)).trans hf16
    have z22 : q_z f2 mo 10 = 0 := (hF.z hmo (by rw [kmo]; rfl)).trans hf17
    have z23 : q_z f2 mo 11 = (-1) := (hF.z hmo (by rw [kmo]; rfl)).trans hf18
    have z24 : q_z f2 mo 21 = 0 := (hF.z hmo (by rw [kmo]; rfl)).trans hf19
    have z25 : q_z f2 mo 22 = 0 := (hF.z hmo (by rw [kmo]; rfl)).trans hf20
    have z26 : q_z f2 mo 40 = 0 := (hF.z hmo (by rw [kmo]; rfl)).trans hf21
    have z27 : q_z f2 sr 0 = 0 := (hF.z hsr (by rw [ksr]; rfl)).trans hf22
    have z28 : q_z f2 sr 1 = 0 := (hF.z hsr (by rw [ksr]; rfl)).trans hf23
    have z29 : q_z f2 sr 2 = 12 := (hF.z hsr (by rw [ksr]; rfl)).trans hf24
    have z30 : q_z f2 sr 3 = 0 := (hF.z hsr (by rw [ksr]; rfl)).trans hf25
    have z31 : q_z f2 sr 4 = 0 := (hF.z hsr (by rw [ksr]; rfl)).trans hf26
    have z32 : q_z f2 sr 5 = 1 := (hF.z hsr (by rw [ksr]; rfl)).trans hf27
    have z33 : q_z f2 sr 6 = 2 := (hF.z hsr (by rw [ksr]; rfl)).trans hf28
    have z34 : q_z f2 sr 7 = 5 := (hF.z hsr (by rw [ksr]; rfl)).trans hf29
    have z35 : q_z f2 sr 8 = 3 := (hF.z hsr (by rw [ksr]; rfl)).trans hf30
    have z36 : q_z f2 sr 9 = 0 := (hF.z hsr (by rw [ksr]; rfl)).trans hf31
    have z37 : q_r f2 x 0 = src := (hF.r hx (by rw [kx]; rfl)).trans hr0
    have z38 : q_r f2 x 1 = rdr := (hF.r hx (by rw [kx]; rfl)).trans hr1
    have z39 : q_r f2 x 2 = scr := (hF.r hx (by rw [kx]; rfl)).trans hr2
    have z40 : q_r f2 x 3 = fc := (hF.r hx (by rw [kx]; rfl)).trans hr3
    have z41 : q_r f2 x 4 = hist := (hF.r hx (by rw [kx]; rfl)).trans hr4
    have z42 : q_r f2 x 5 = rep := (hF.r hx (by rw [kx]; rfl)).trans hr5
    have z43 : q_r f2 x 6 = now := (hF.r hx (by rw [kx]; rfl)).trans hr6
    have z44 : q_r f2 x 7 = dr := (hF.r hx (by rw [kx]; rfl)).trans hr7
    have z45 : q_r f2 x 8 = sv := (hF.r hx (by rw [kx]; rfl)).trans hr8
    have z46 : q_r f2 fc 0 = tr := (hF.r hfc (by rw [kfc]; rfl)).trans hr9
    have z47 : q_r f2 mo 1 = bu := (hF.r hmo (by rw [kmo]; rfl)).trans hr10
    have z48 : q_r f2 mo 13 = sr := (hF.r hmo (by rw [kmo]; rfl)).trans hr11
    have z49 : q_r f2 mo 14 = sd := (hF.r hmo (by rw [kmo]; rfl)).trans hr12
    have z50 : q_r f2 mo 15 = as := (hF.r hmo (by rw [kmo]; rfl)).trans hr13
    have z51 : q_r f2 mo 16 = aw := (hF.r hmo (by rw [kmo]; rfl)).trans hr14
    have z52 : q_r f2 mo 17 = pa := (hF.r hmo (by rw [kmo]; rfl)).trans hr15
    have z53 : q_r f2 mo 18 = nm := (hF.r hmo (by rw [kmo]; rfl)).trans hr16
    have z54 : q_r f2 mo 19 = snm := (hF.r hmo (by rw [kmo]; rfl)).trans hr17
    have z55 : q_r f2 mo 20 = anm := (hF.r hmo (by rw [kmo]; rfl)).trans hr18
    subst qy3
    refine lv_istore (lv' := [(6, .int (q_i 1)), (5, .int (q_i 0)), (0, .ref b), (1, .ref x), (2, .ref mo), (3, .ref out), (4, .ref outD)]) cx.1 cx.2.1 dL_law_2210 hl (by decide) rfl (fun ls hl => ?_)
    refine q_ald_n cx dL_law_2212 rfl (lv_at hl 4 rfl) ?_
    refine q_ald_n cx dL_law_2213 rfl (lv_at hl 2 rfl) ?_
    refine lv_iload cx.1 cx.2.1 dL_law_2214 (lv_at hl 1 rfl) ?_
    refine q_iconst cx dL_law_2216 ?_
    refine q_iadd cx dL_law_2217 ?_
    refine va_sld cx.1 cx.2.1 hXs hbl hbA hB.1.2.2.2 (q_in (by decide) (by decide) (by decide)) dL_law_2218 ?_
    rw [show (q_i (0 + 1)).toNatClampNeg = 1 from by decide, ex1]
    refine q_cVi (As := [.int (q_i x1)]) (rest := []) cx hB (fun q h => hLA q h) hN hmo kmo (by decide) rfl (p_setMissa l g hN hB.2.1 mo hmo kmo x1 (by omega) (by omega) bu hbu kbu sr hsr ksr sd hsd ksd as has kas aw haw kaw pa hpa kpa nm hnm knm snm hsnm ksnm anm hanm kanm z19 z20 z21 z22 z23 z24 z25 z26 z27 z28 z29 z30 z31 z32 z33 z34 z35 z36 z47 z48 z49 z50 z51 z52 z53 z54 z55) q_cL_242 q_dX12_setMiss (by decide) rfl rfl hl.1 rfl (Nat.le_of_ble_eq_true rfl) dL_law_2219 (fun y57 H locs f56 ry57 h58 hF hB => ?_)
    obtain ⟨qy57, z59⟩ := h58
    have z60 : q_z f56 x 9 = 0 := (hF.z hx (by rw [kx]; rfl)).trans z5
    have z61 : q_z f56 src 1 = 0 := (hF.z hsrc (by rw [ksrc]; rfl)).trans z6
    have z62 : q_z f56 src 2 = 0 := (hF.z hsrc (by rw [ksrc]; rfl)).trans z7
    have z63 : q_z f56 src 3 = (-1) := (hF.z hsrc (by rw [ksrc]; rfl)).trans z8
    have z64 : q_z f56 hist 1 = 0 := (hF.z hhist (by rw [khist]; rfl)).trans z9
    have z65 : q_z f56 hist 2 = 0 := (hF.z hhist (by rw [khist]; rfl)).trans z10
    have z66 : q_z f56 rep 1 = 0 := (hF.z hrep (by rw [krep]; rfl)).trans z11
    have z67 : q_z f56 now 3 = 0 := (hF.z hnow (by rw [know]; rfl)).trans z12
    have z68 : q_z f56 now 4 = 0 := (hF.z hnow (by rw [know]; rfl)).trans z13
    have z69 : q_z f56 now 5 = 0 := (hF.z hnow (by rw [know]; rfl)).trans z14
    have z70 : q_z f56 now 6 = 12 := (hF.z hnow (by rw [know]; rfl)).trans z15
    have z71 : q_z f56 now 10 = 3 := (hF.z hnow (by rw [know]; rfl)).trans z16
    have z72 : q_z f56 now 11 = 0 := (hF.z hnow (by rw [know]; rfl)).trans z17
    have z73 : q_z f56 now 12 = 0 := (hF.z hnow (by rw [know]; rfl)).trans z18
    have z74 : q_r f56 x 0 = src := (hF.r hx (by rw [kx]; rfl)).trans z37
    have z75 : q_r f56 x 1 = rdr := (hF.r hx (by rw [kx]; rfl)).trans z38
    have z76 : q_r f56 x 2 = scr := (hF.r hx (by rw [kx]; rfl)).trans z39
    have z77 : q_r f56 x 3 = fc := (hF.r hx (by rw [kx]; rfl)).trans z40
    have z78 : q_r f56 x 4 = hist := (hF.r hx (by rw [kx]; rfl)).trans z41
    have z79 : q_r f56 x 5 = rep := (hF.r hx (by rw [kx]; rfl)).trans z42
    have z80 : q_r f56 x 6 = now := (hF.r hx (by rw [kx]; rfl)).trans z43
    have z81 : q_r f56 x 7 = dr := (hF.r hx (by rw [kx]; rfl)).trans z44
    have z82 : q_r f56 x 8 = sv := (hF.r hx (by rw [kx]; rfl)).trans z45
    have z83 : q_r f56 fc 0 = tr := (hF.r hfc (by rw [kfc]; rfl)).trans z46
    subst qy57
    refine lv_istore (lv' := [(7, .int (q_i 0)), (6, .int (q_i 1)), (5, .int (q_i 0)), (0, .ref b), (1, .ref x), (2, .ref mo), (3, .ref out), (4, .ref outD)]) cx.1 cx.2.1 dL_law_2222 hl (by decide) rfl (fun ls hl => ?_)
    refine q_ald_n cx dL_law_2224 rfl (lv_at hl 5 rfl) ?_
    refine q_cVi (As := []) (rest := []) cx hB (fun q h => hLA q h) hN hmo kmo (by decide) rfl (r_thrown l g hN hB.2.1 mo hmo kmo 1 (by decide) (by decide) z59) q_cL_124 q_dX12_thrown (by decide) rfl rfl hl.1 rfl (Nat.le_of_ble_eq_true rfl) dL_law_2225 (fun y85 H locs f84 ry85 h86 hF hB => ?_)
    obtain ⟨rfl, qy85⟩ := h86
    subst qy85
    refine lv_iload cx.1 cx.2.1 dL_law_2228 (lv_at hl 1 rfl) ?_
    refine q_iceq (tgt := 2235) cx ⟨by decide, by decide⟩ ⟨by decide, by decide⟩ dL_law_2230 (by decide) (fun c87 => ?_) (fun c87 => ?_)
    · refine lv_iload cx.1 cx.2.1 dL_law_2235 (lv_at hl 1 rfl) ?_
      refine q_ifne (tgt := 2252) cx ⟨by decide, by decide⟩ dL_law_2237 (by decide) (fun c88 => ?_) (fun c88 => ?_)
      · refine lv_goto (tgt := 2394) cx.1 cx.2.1 dL_law_2252 (by decide) ?_
        refine q_iinc (lv' := [(5, .int (q_i (0 + 6))), (7, .int (q_i 0)), (6, .int (q_i 1)), (0, .ref b), (1, .ref x), (2, .ref mo), (3, .ref out), (4, .ref outD)]) cx dL_law_2394 hl (k := 2) rfl (by decide) rfl (fun ls hl => ?_)
        refine lv_goto (tgt := 28) cx.1 cx.2.1 dL_law_2397 (by decide) ?_
        refine lv_iload cx.1 cx.2.1 dL_law_28 (lv_at hl 0 rfl) ?_
        refine q_ald_n cx dL_law_30 rfl (lv_at hl 3 rfl) ?_
        refine va_slen cx.1 cx.2.1 hXs hbl hbA hB.1.2.2.2 dL_law_31 ?_
        rw [show Int32.ofNat 6 = q_i 6 from by decide]
        refine q_bipush cx dL_law_32 rfl ?_
        refine q_isub cx dL_law_34 ?_
        refine q_icgt (tgt := 2400) cx ⟨by decide, by decide⟩ ⟨by decide, by decide⟩ dL_law_35 (by decide) (fun c89 => ?_) (fun c89 => ?_)
        · refine q_iconst cx dL_law_2400 ?_
          exact q_lawret C0 hB (by decide) (by decide) dL_law_2401
        · exact absurd c89 (by omega)
      · exact absurd c88 (by omega)
    · exact absurd c87 (by omega)
  · by_cases c90 : x1 ≤ 9
    · refine q_cWS (As := [.ref x, .int (q_i x1), .ref out]) (rest := []) cx hX hB (fun q h => hLA q h) (fun q h1 h2 => absurd h1 (Nat.not_le_of_lt h2)) hN (w_setMissb l g hN hB.2.1 hfl x hx kx x1 (by omega) (by omega) out hout kout src hsrc ksrc rdr hrdr krdr scr hscr kscr fc hfc kfc hist hhist khist rep hrep krep now hnow know dr hdr kdr sv hsv ksv tr htr ktr hf0 hf1 hf2 hf3 hf4 hf5 hf6 hf7 hf8 hf9 hf10 hf11 hf12 hf13 hr0 hr1 hr2 hr3 hr4 hr5 hr6 hr7 hr8 hr9) q_cL_240 q_dL_setMiss (by decide) rfl rfl hl.1 rfl (Nat.le_of_ble_eq_true rfl) dL_law_2207 (fun v9 H locs f91 h93 hF hB => ?_)
      obtain ⟨y92, rfl, ry92, h93⟩ := h93
      refine W.eq (g2 := F0 m 2210 ls [.int (q_i y92)]) rfl ?_
      obtain ⟨qy92, z94⟩ := h93
      have z95 : q_z f91 mo 2 = 0 := (hF.z hmo (by rw [kmo]; rfl)).trans hf14
      have z96 : q_z f91 mo 8 = 0 := (hF.z hmo (by rw [kmo]; rfl)).trans hf15
      have z97 : q_z f91 mo 9 = (-1) := (hF.z hmo (by rw [kmo]; rfl)).trans hf16
      have z98 : q_z f91 mo 10 = 0 := (hF.z hmo (by rw [kmo]; rfl)).trans hf17
      have z99 : q_z f91 mo 11 = (-1) := (hF.z hmo (by rw [kmo]; rfl)).trans hf18
      have z100 : q_z f91 mo 21 = 0 := (hF.z hmo (by rw [kmo]; rfl)).trans hf19
      have z101 : q_z f91 mo 22 = 0 := (hF.z hmo (by rw [kmo]; rfl)).trans hf20
      have z102 : q_z f91 mo 40 = 0 := (hF.z hmo (by rw [kmo]; rfl)).trans hf21
      have z103 : q_z f91 sr 0 = 0 := (hF.z hsr (by rw [ksr]; rfl)).trans hf22
      have z104 : q_z f91 sr 1 = 0 := (hF.z hsr (by rw [ksr]; rfl)).trans hf23
      have z105 : q_z f91 sr 2 = 12 := (hF.z hsr (by rw [ksr]; rfl)).trans hf24
      have z106 : q_z f91 sr 3 = 0 := (hF.z hsr (by rw [ksr]; rfl)).trans hf25
      have z107 : q_z f91 sr 4 = 0 := (hF.z hsr (by rw [ksr]; rfl)).trans hf26
      have z108 : q_z f91 sr 5 = 1 := (hF.z hsr (by rw [ksr]; rfl)).trans hf27
      have z109 : q_z f91 sr 6 = 2 := (hF.z hsr (by rw [ksr]; rfl)).trans hf28
      have z110 : q_z f91 sr 7 = 5 := (hF.z hsr (by rw [ksr]; rfl)).trans hf29
      have z111 : q_z f91 sr 8 = 3 := (hF.z hsr (by rw [ksr]; rfl)).trans hf30
      have z112 : q_z f91 sr 9 = 0 := (hF.z hsr (by rw [ksr]; rfl)).trans hf31
      have z113 : q_r f91 x 0 = src := (hF.r hx (by rw [kx]; rfl)).trans hr0
      have z114 : q_r f91 x 1 = rdr := (hF.r hx (by rw [kx]; rfl)).trans hr1
      have z115 : q_r f91 x 2 = scr := (hF.r hx (by rw [kx]; rfl)).trans hr2
      have z116 : q_r f91 x 3 = fc := (hF.r hx (by rw [kx]; rfl)).trans hr3
      have z117 : q_r f91 x 4 = hist := (hF.r hx (by rw [kx]; rfl)).trans hr4
      have z118 : q_r f91 x 5 = rep := (hF.r hx (by rw [kx]; rfl)).trans hr5
      have z119 : q_r f91 x 6 = now := (hF.r hx (by rw [kx]; rfl)).trans hr6
      have z120 : q_r f91 x 7 = dr := (hF.r hx (by rw [kx]; rfl)).trans hr7
      have z121 : q_r f91 x 8 = sv := (hF.r hx (by rw [kx]; rfl)).trans hr8
      have z122 : q_r f91 fc 0 = tr := (hF.r hfc (by rw [kfc]; rfl)).trans hr9
      have z123 : q_r f91 mo 1 = bu := (hF.r hmo (by rw [kmo]; rfl)).trans hr10
      have z124 : q_r f91 mo 13 = sr := (hF.r hmo (by rw [kmo]; rfl)).trans hr11
      have z125 : q_r f91 mo 14 = sd := (hF.r hmo (by rw [kmo]; rfl)).trans hr12
      have z126 : q_r f91 mo 15 = as := (hF.r hmo (by rw [kmo]; rfl)).trans hr13
      have z127 : q_r f91 mo 16 = aw := (hF.r hmo (by rw [kmo]; rfl)).trans hr14
      have z128 : q_r f91 mo 17 = pa := (hF.r hmo (by rw [kmo]; rfl)).trans hr15
      have z129 : q_r f91 mo 18 = nm := (hF.r hmo (by rw [kmo]; rfl)).trans hr16
      have z130 : q_r f91 mo 19 = snm := (hF.r hmo (by rw [kmo]; rfl)).trans hr17
      have z131 : q_r f91 mo 20 = anm := (hF.r hmo (by rw [kmo]; rfl)).trans hr18
      subst qy92
      refine lv_istore (lv' := [(6, .int (q_i 0)), (5, .int (q_i 0)), (0, .ref b), (1, .ref x), (2, .ref mo), (3, .ref out), (4, .ref outD)]) cx.1 cx.2.1 dL_law_2210 hl (by decide) rfl (fun ls hl => ?_)
      refine q_ald_n cx dL_law_2212 rfl (lv_at hl 4 rfl) ?_
      refine q_ald_n cx dL_law_2213 rfl (lv_at hl 2 rfl) ?_
      refine lv_iload cx.1 cx.2.1 dL_law_2214 (lv_at hl 1 rfl) ?_
      refine q_iconst cx dL_law_2216 ?_
      refine q_iadd cx dL_law_2217 ?_
      refine va_sld cx.1 cx.2.1 hXs hbl hbA hB.1.2.2.2 (q_in (by decide) (by decide) (by decide)) dL_law_2218 ?_
      rw [show (q_i (0 + 1)).toNatClampNeg = 1 from by decide, ex1]
      refine q_cVi (As := [.int (q_i x1)]) (rest := []) cx hB (fun q h => hLA q h) hN hmo kmo (by decide) rfl (p_setMissb l g hN hB.2.1 mo hmo kmo x1 (by omega) (by omega) bu hbu kbu sr hsr ksr sd hsd ksd as has kas aw haw kaw pa hpa kpa nm hnm knm snm hsnm ksnm anm hanm kanm z95 z96 z97 z98 z99 z100 z101 z102 z103 z104 z105 z106 z107 z108 z109 z110 z111 z112 z123 z124 z125 z126 z127 z128 z129 z130 z131) q_cL_242 q_dX12_setMiss (by decide) rfl rfl hl.1 rfl (Nat.le_of_ble_eq_true rfl) dL_law_2219 (fun y133 H locs f132 ry133 h134 hF hB => ?_)
      obtain ⟨qy133, z135⟩ := h134
      have z136 : q_j f132 out 0 = (q_l 3) := (hF.j hout (by rw [kout]; rfl)).trans z94
      have z137 : q_r f132 x 0 = src := (hF.r hx (by rw [kx]; rfl)).trans z113
      have z138 : q_r f132 x 1 = rdr := (hF.r hx (by rw [kx]; rfl)).trans z114
      have z139 : q_r f132 x 2 = scr := (hF.r hx (by rw [kx]; rfl)).trans z115
      have z140 : q_r f132 x 3 = fc := (hF.r hx (by rw [kx]; rfl)).trans z116
      have z141 : q_r f132 x 4 = hist := (hF.r hx (by rw [kx]; rfl)).trans z117
      have z142 : q_r f132 x 5 = rep := (hF.r hx (by rw [kx]; rfl)).trans z118
      have z143 : q_r f132 x 6 = now := (hF.r hx (by rw [kx]; rfl)).trans z119
      have z144 : q_r f132 x 7 = dr := (hF.r hx (by rw [kx]; rfl)).trans z120
      have z145 : q_r f132 x 8 = sv := (hF.r hx (by rw [kx]; rfl)).trans z121
      have z146 : q_r f132 fc 0 = tr := (hF.r hfc (by rw [kfc]; rfl)).trans z122
      subst qy133
      refine lv_istore (lv' := [(7, .int (q_i 3)), (6, .int (q_i 0)), (5, .int (q_i 0)), (0, .ref b), (1, .ref x), (2, .ref mo), (3, .ref out), (4, .ref outD)]) cx.1 cx.2.1 dL_law_2222 hl (by decide) rfl (fun ls hl => ?_)
      refine q_ald_n cx dL_law_2224 rfl (lv_at hl 5 rfl) ?_
      refine q_cVi (As := []) (rest := []) cx hB (fun q h => hLA q h) hN hmo kmo (by decide) rfl (r_thrown l g hN hB.2.1 mo hmo kmo 0 (by decide) (by decide) z135) q_cL_124 q_dX12_thrown (by decide) rfl rfl hl.1 rfl (Nat.le_of_ble_eq_true rfl) dL_law_2225 (fun y148 H locs f147 ry148 h149 hF hB => ?_)
      obtain ⟨rfl, qy148⟩ := h149
      subst qy148
      refine lv_iload cx.1 cx.2.1 dL_law_2228 (lv_at hl 1 rfl) ?_
      refine q_iceq (tgt := 2235) cx ⟨by decide, by decide⟩ ⟨by decide, by decide⟩ dL_law_2230 (by decide) (fun c150 => ?_) (fun c150 => ?_)
      · refine lv_iload cx.1 cx.2.1 dL_law_2235 (lv_at hl 1 rfl) ?_
        refine q_ifne (tgt := 2252) cx ⟨by decide, by decide⟩ dL_law_2237 (by decide) (fun c151 => ?_) (fun c151 => ?_)
        · exact absurd c151 (by omega)
        · refine q_ald_n cx dL_law_2240 rfl (lv_at hl 6 rfl) ?_
          refine q_iconst cx dL_law_2241 ?_
          refine q_lald (n := 1) cx hB hout kout (by decide) rfl rfl (by decide) (by decide) (by decide) rfl z136 dL_law_2242 ?_
          refine lv_iload cx.1 cx.2.1 dL_law_2243 (lv_at hl 0 rfl) ?_
          refine q_i2l cx ⟨by decide, by decide⟩ dL_law_2245 ?_
          refine q_lcmp cx dL_law_2246 (fun y152 ly152 uy152 ey152 gy152 hy152 => ?_)
          rw [q_lInt ⟨by decide, by decide⟩] at ey152 hy152
          refine q_ifeq (tgt := 2252) cx ⟨by omega, by omega⟩ dL_law_2247 (by decide) (fun c153 => ?_) (fun c153 => ?_)
          · refine lv_goto (tgt := 2394) cx.1 cx.2.1 dL_law_2252 (by decide) ?_
            refine q_iinc (lv' := [(5, .int (q_i (0 + 6))), (7, .int (q_i 3)), (6, .int (q_i 0)), (0, .ref b), (1, .ref x), (2, .ref mo), (3, .ref out), (4, .ref outD)]) cx dL_law_2394 hl (k := 2) rfl (by decide) rfl (fun ls hl => ?_)
            refine lv_goto (tgt := 28) cx.1 cx.2.1 dL_law_2397 (by decide) ?_
            refine lv_iload cx.1 cx.2.1 dL_law_28 (lv_at hl 0 rfl) ?_
            refine q_ald_n cx dL_law_30 rfl (lv_at hl 3 rfl) ?_
            refine va_slen cx.1 cx.2.1 hXs hbl hbA hB.1.2.2.2 dL_law_31 ?_
            rw [show Int32.ofNat 6 = q_i 6 from by decide]
            refine q_bipush cx dL_law_32 rfl ?_
            refine q_isub cx dL_law_34 ?_
            refine q_icgt (tgt := 2400) cx ⟨by decide, by decide⟩ ⟨by decide, by decide⟩ dL_law_35 (by decide) (fun c154 => ?_) (fun c154 => ?_)
            · refine q_iconst cx dL_law_2400 ?_
              exact q_lawret C0 hB (by decide) (by decide) dL_law_2401
            · exact absurd c154 (by omega)
          · exact absurd c153 (by omega)
      · exact absurd c150 (by omega)
    · refine q_cWS (As := [.ref x, .int (q_i x1), .ref out]) (rest := []) cx hX hB (fun q h => hLA q h) (fun q h1 h2 => absurd h1 (Nat.not_le_of_lt h2)) hN (w_setMissc l g hN hB.2.1 hfl x hx kx x1 (by omega) (by omega) out hout kout src hsrc ksrc rdr hrdr krdr scr hscr kscr fc hfc kfc hist hhist khist rep hrep krep now hnow know dr hdr kdr sv hsv ksv tr htr ktr hf0 hf1 hf2 hf3 hf4 hf5 hf6 hf7 hf8 hf9 hf10 hf11 hf12 hf13 hr0 hr1 hr2 hr3 hr4 hr5 hr6 hr7 hr8 hr9) q_cL_240 q_dL_setMiss (by decide) rfl rfl hl.1 rfl (Nat.le_of_ble_eq_true rfl) dL_law_2207 (fun v9 H locs f155 h157 hF hB => ?_)
      obtain ⟨y156, rfl, ry156, h157⟩ := h157
      refine W.eq (g2 := F0 m 2210 ls [.int (q_i y156)]) rfl ?_
      have qy156 := h157
      have z158 : q_z f155 x 9 = 0 := (hF.z hx (by rw [kx]; rfl)).trans hf0
      have z159 : q_z f155 src 1 = 0 := (hF.z hsrc (by rw [ksrc]; rfl)).trans hf1
      have z160 : q_z f155 src 2 = 0 := (hF.z hsrc (by rw [ksrc]; rfl)).trans hf2
      have z161 : q_z f155 src 3 = (-1) := (hF.z hsrc (by rw [ksrc]; rfl)).trans hf3
      have z162 : q_z f155 hist 1 = 0 := (hF.z hhist (by rw [khist]; rfl)).trans hf4
      have z163 : q_z f155 hist 2 = 0 := (hF.z hhist (by rw [khist]; rfl)).trans hf5
      have z164 : q_z f155 rep 1 = 0 := (hF.z hrep (by rw [krep]; rfl)).trans hf6
      have z165 : q_z f155 now 3 = 0 := (hF.z hnow (by rw [know]; rfl)).trans hf7
      have z166 : q_z f155 now 4 = 0 := (hF.z hnow (by rw [know]; rfl)).trans hf8
      have z167 : q_z f155 now 5 = 0 := (hF.z hnow (by rw [know]; rfl)).trans hf9
      have z168 : q_z f155 now 6 = 12 := (hF.z hnow (by rw [know]; rfl)).trans hf10
      have z169 : q_z f155 now 10 = 3 := (hF.z hnow (by rw [know]; rfl)).trans hf11
      have z170 : q_z f155 now 11 = 0 := (hF.z hnow (by rw [know]; rfl)).trans hf12
      have z171 : q_z f155 now 12 = 0 := (hF.z hnow (by rw [know]; rfl)).trans hf13
      have z172 : q_z f155 mo 2 = 0 := (hF.z hmo (by rw [kmo]; rfl)).trans hf14
      have z173 : q_z f155 mo 8 = 0 := (hF.z hmo (by rw [kmo]; rfl)).trans hf15
      have z174 : q_z f155 mo 9 = (-1) := (hF.z hmo (by rw [kmo]; rfl)).trans hf16
      have z175 : q_z f155 mo 10 = 0 := (hF.z hmo (by rw [kmo]; rfl)).trans hf17
      have z176 : q_z f155 mo 11 = (-1) := (hF.z hmo (by rw [kmo]; rfl)).trans hf18
      have z177 : q_z f155 mo 21 = 0 := (hF.z hmo (by rw [kmo]; rfl)).trans hf19
      have z178 : q_z f155 mo 22 = 0 := (hF.z hmo (by rw [kmo]; rfl)).trans hf20
      have z179 : q_z f155 mo 40 = 0 := (hF.z hmo (by rw [kmo]; rfl)).trans hf21
      have z180 : q_z f155 sr 0 = 0 := (hF.z hsr (by rw [ksr]; rfl)).trans hf22
      have z181 : q_z f155 sr 1 = 0 := (hF.z hsr (by rw [ksr]; rfl)).trans hf23
      have z182 : q_z f155 sr 2 = 12 := (hF.z hsr (by rw [ksr]; rfl)).trans hf24
      have z183 : q_z f155 sr 3 = 0 := (hF.z hsr (by rw [ksr]; rfl)).trans hf25
      have z184 : q_z f155 sr 4 = 0 := (hF.z hsr (by rw [ksr]; rfl)).trans hf26
      have z185 : q_z f155 sr 5 = 1 := (hF.z hsr (by rw [ksr]; rfl)).trans hf27
      have z186 : q_z f155 sr 6 = 2 := (hF.z hsr (by rw [ksr]; rfl)).trans hf28
      have z187 : q_z f155 sr 7 = 5 := (hF.z hsr (by rw [ksr]; rfl)).trans hf29
      have z188 : q_z f155 sr 8 = 3 := (hF.z hsr (by rw [ksr]; rfl)).trans hf30
      have z189 : q_z f155 sr 9 = 0 := (hF.z hsr (by rw [ksr]; rfl)).trans hf31
      have z190 : q_r f155 x 0 = src := (hF.r hx (by rw [kx]; rfl)).trans hr0
      have z191 : q_r f155 x 1 = rdr := (hF.r hx (by rw [kx]; rfl)).trans hr1
      have z192 : q_r f155 x 2 = scr := (hF.r hx (by rw [kx]; rfl)).trans hr2
      have z193 : q_r f155 x 3 = fc := (hF.r hx (by rw [kx]; rfl)).trans hr3
      have z194 : q_r f155 x 4 = hist := (hF.r hx (by rw [kx]; rfl)).trans hr4
      have z195 : q_r f155 x 5 = rep := (hF.r hx (by rw [kx]; rfl)).trans hr5
      have z196 : q_r f155 x 6 = now := (hF.r hx (by rw [kx]; rfl)).trans hr6
      have z197 : q_r f155 x 7 = dr := (hF.r hx (by rw [kx]; rfl)).trans hr7
      have z198 : q_r f155 x 8 = sv := (hF.r hx (by rw [kx]; rfl)).trans hr8
      have z199 : q_r f155 fc 0 = tr := (hF.r hfc (by rw [kfc]; rfl)).trans hr9
      have z200 : q_r f155 mo 1 = bu := (hF.r hmo (by rw [kmo]; rfl)).trans hr10
      have z201 : q_r f155 mo 13 = sr := (hF.r hmo (by rw [kmo]; rfl)).trans hr11
      have z202 : q_r f155 mo 14 = sd := (hF.r hmo (by rw [kmo]; rfl)).trans hr12
      have z203 : q_r f155 mo 15 = as := (hF.r hmo (by rw [kmo]; rfl)).trans hr13
      have z204 : q_r f155 mo 16 = aw := (hF.r hmo (by rw [kmo]; rfl)).trans hr14
      have z205 : q_r f155 mo 17 = pa := (hF.r hmo (by rw [kmo]; rfl)).trans hr15
      have z206 : q_r f155 mo 18 = nm := (hF.r hmo (by rw [kmo]; rfl)).trans hr16
      have z207 : q_r f155 mo 19 = snm := (hF.r hmo (by rw [kmo]; rfl)).trans hr17
      have z208 : q_r f155 mo 20 = anm := (hF.r hmo (by rw [kmo]; rfl)).trans hr18
      subst qy156
      refine lv_istore (lv' := [(6, .int (q_i 1)), (5, .int (q_i 0)), (0, .ref b), (1, .ref x), (2, .ref mo), (3, .ref out), (4, .ref outD)]) cx.1 cx.2.1 dL_law_2210 hl (by decide) rfl (fun ls hl => ?_)
      refine q_ald_n cx dL_law_2212 rfl (lv_at hl 4 rfl) ?_
      refine q_ald_n cx dL_law_2213 rfl (lv_at hl 2 rfl) ?_
      refine lv_iload cx.1 cx.2.1 dL_law_2214 (lv_at hl 1 rfl) ?_
      refine q_iconst cx dL_law_2216 ?_
      refine q_iadd cx dL_law_2217 ?_
      refine va_sld cx.1 cx.2.1 hXs hbl hbA hB.1.2.2.2 (q_in (by decide) (by decide) (by decide)) dL_law_2218 ?_
      rw [show (q_i (0 + 1)).toNatClampNeg = 1 from by decide, ex1]
      refine q_cVi (As := [.int (q_i x1)]) (rest := []) cx hB (fun q h => hLA q h) hN hmo kmo (by decide) rfl (p_setMissc l g hN hB.2.1 mo hmo kmo x1 (by omega) (by omega) bu hbu kbu sr hsr ksr sd hsd ksd as has kas aw haw kaw pa hpa kpa nm hnm knm snm hsnm ksnm anm hanm kanm z172 z173 z174 z175 z176 z177 z178 z179 z180 z181 z182 z183 z184 z185 z186 z187 z188 z189 z200 z201 z202 z203 z204 z205 z206 z207 z208) q_cL_242 q_dX12_setMiss (by decide) rfl rfl hl.1 rfl (Nat.le_of_ble_eq_true rfl) dL_law_2219 (fun y210 H locs f209 ry210 h211 hF hB => ?_)
      obtain ⟨qy210, z212⟩ := h211
      have z213 : q_z f209 x 9 = 0 := (hF.z hx (by rw [kx]; rfl)).trans z158
      have z214 : q_z f209 src 1 = 0 := (hF.z hsrc (by rw [ksrc]; rfl)).trans z159
      have z215 : q_z f209 src 2 = 0 := (hF.z hsrc (by rw [ksrc]; rfl)).trans z160
      have z216 : q_z f209 src 3 = (-1) := (hF.z hsrc (by rw [ksrc]; rfl)).trans z161
      have z217 : q_z f209 hist 1 = 0 := (hF.z hhist (by rw [khist]; rfl)).trans z162
      have z218 : q_z f209 hist 2 = 0 := (hF.z hhist (by rw [khist]; rfl)).trans z163
      have z219 : q_z f209 rep 1 = 0 := (hF.z hrep (by rw [krep]; rfl)).trans z164
      have z220 : q_z f209 now 3 = 0 := (hF.z hnow (by rw [know]; rfl)).trans z165
      have z221 : q_z f209 now 4 = 0 := (hF.z hnow (by rw [know]; rfl)).trans z166
      have z222 : q_z f209 now 5 = 0 := (hF.z hnow (by rw [know]; rfl)).trans z167
      have z223 : q_z f209 now 6 = 12 := (hF.z hnow (by rw [know]; rfl)).trans z168
      have z224 : q_z f209 now 10 = 3 := (hF.z hnow (by rw [know]; rfl)).trans z169
      have z225 : q_z f209 now 11 = 0 := (hF.z hnow (by rw [know]; rfl)).trans z170
      have z226 : q_z f209 now 12 = 0 := (hF.z hnow (by rw [know]; rfl)).trans z171
      have z227 : q_r f209 x 0 = src := (hF.r hx (by rw [kx]; rfl)).trans z190
      have z228 : q_r f209 x 1 = rdr := (hF.r hx (by rw [kx]; rfl)).trans z191
      have z229 : q_r f209 x 2 = scr := (hF.r hx (by rw [kx]; rfl)).trans z192
      have z230 : q_r f209 x 3 = fc := (hF.r hx (by rw [kx]; rfl)).trans z193
      have z231 : q_r f209 x 4 = hist := (hF.r hx (by rw [kx]; rfl)).trans z194
      have z232 : q_r f209 x 5 = rep := (hF.r hx (by rw [kx]; rfl)).trans z195
      have z233 : q_r f209 x 6 = now := (hF.r hx (by rw [kx]; rfl)).trans z196
      have z234 : q_r f209 x 7 = dr := (hF.r hx (by rw [kx]; rfl)).trans z197
      have z235 : q_r f209 x 8 = sv := (hF.r hx (by rw [kx]; rfl)).trans z198
      have z236 : q_r f209 fc 0 = tr := (hF.r hfc (by rw [kfc]; rfl)).trans z199
      subst qy210
      refine lv_istore (lv' := [(7, .int (q_i 0)), (6, .int (q_i 1)), (5, .int (q_i 0)), (0, .ref b), (1, .ref x), (2, .ref mo), (3, .ref out), (4, .ref outD)]) cx.1 cx.2.1 dL_law_2222 hl (by decide) rfl (fun ls hl => ?_)
      refine q_ald_n cx dL_law_2224 rfl (lv_at hl 5 rfl) ?_
      refine q_cVi (As := []) (rest := []) cx hB (fun q h => hLA q h) hN hmo kmo (by decide) rfl (r_thrown l g hN hB.2.1 mo hmo kmo 1 (by decide) (by decide) z212) q_cL_124 q_dX12_thrown (by decide) rfl rfl hl.1 rfl (Nat.le_of_ble_eq_true rfl) dL_law_2225 (fun y238 H locs f237 ry238 h239 hF hB => ?_)
      obtain ⟨rfl, qy238⟩ := h239
      subst qy238
      refine lv_iload cx.1 cx.2.1 dL_law_2228 (lv_at hl 1 rfl) ?_
      refine q_iceq (tgt := 2235) cx ⟨by decide, by decide⟩ ⟨by decide, by decide⟩ dL_law_2230 (by decide) (fun c240 => ?_) (fun c240 => ?_)
      · refine lv_iload cx.1 cx.2.1 dL_law_2235 (lv_at hl 1 rfl) ?_
        refine q_ifne (tgt := 2252) cx ⟨by decide, by decide⟩ dL_law_2237 (by decide) (fun c241 => ?_) (fun c241 => ?_)
        · refine lv_goto (tgt := 2394) cx.1 cx.2.1 dL_law_2252 (by decide) ?_
          refine q_iinc (lv' := [(5, .int (q_i (0 + 6))), (7, .int (q_i 0)), (6, .int (q_i 1)), (0, .ref b), (1, .ref x), (2, .ref mo), (3, .ref out), (4, .ref outD)]) cx dL_law_2394 hl (k := 2) rfl (by decide) rfl (fun ls hl => ?_)
          refine lv_goto (tgt := 28) cx.1 cx.2.1 dL_law_2397 (by decide) ?_
          refine lv_iload cx.1 cx.2.1 dL_law_28 (lv_at hl 0 rfl) ?_
          refine q_ald_n cx dL_law_30 rfl (lv_at hl 3 rfl) ?_
          refine va_slen cx.1 cx.2.1 hXs hbl hbA hB.1.2.2.2 dL_law_31 ?_
          rw [show Int32.ofNat 6 = q_i 6 from by decide]
          refine q_bipush cx dL_law_32 rfl ?_
          refine q_isub cx dL_law_34 ?_
          refine q_icgt (tgt := 2400) cx ⟨by decide, by decide⟩ ⟨by decide, by decide⟩ dL_law_35 (by decide) (fun c242 => ?_) (fun c242 => ?_)
          · refine q_iconst cx dL_law_2400 ?_
            exact q_lawret C0 hB (by decide) (by decide) dL_law_2401
          · exact absurd c242 (by omega)
        · exact absurd c241 (by omega)
      · exact absurd c240 (by omega)
set_option maxHeartbeats 4000000 in
set_option maxRecDepth 100000 in
theorem law_c2255 {p : Program} {l : Launch} {e : Env} {s : State} {m : MethodId} {below : List Frame} {meth : Method} {c : Code} {b : Nat} {xs : Nat → Int32} (hfl : l.stackTraces = false) (C0 : lw_At p s m meth c b 6 xs) (cx : CallFix p m c cL_law 10 s #[Value.ref b] q_al RL) {g : q_G} {K : Nat → Nat} {L : List Nat} {f : Nat → va_E} {H : Heap} {locs : List Loc} {ls : Array Slot} (hN : L.Nodup) (hLA : ∀ q, q ∈ L → s.heap.size ≤ q) (hX : q_X (fun q => q ∈ L) s) (hB : q_B g K L (fun q => s.heap.size ≤ q) [(2, 1, 2), (6, 1, 1), (7, 1, 4), (8, 1, 9), (9, 0, 2), (10, 3, 15), (11, 9, 9), (12, 0, 40), (13, 3, 15), (14, 3, 15), (15, 3, 15), (16, 3, 15), (142, 0, 599), (150, 0, 599), (151, 0, 657), (152, 0, 657), (153, 0, 657), (154, 0, 657), (155, 0, 3947), (156, 0, 9), (157, 0, 9), (158, 0, 9), (168, 0, 0), (169, 0, 0)] f f s H locs) {x : Nat} (hx : x ∈ L) (kx : K x = 11) {src : Nat} (hsrc : src ∈ L) (ksrc : K src = 8) {rdr : Nat} (hrdr : rdr ∈ L) (krdr : K rdr = 9) {scr : Nat} (hscr : scr ∈ L) (kscr : K scr = 7) {fc : Nat} (hfc : fc ∈ L) (kfc : K fc = 1) {hist : Nat} (hhist : hist ∈ L) (khist : K hist = 2) {rep : Nat} (hrep : rep ∈ L) (krep : K rep = 6) {now : Nat} (hnow : now ∈ L) (know : K now = 10) {dr : Nat} (hdr : dr ∈ L) (kdr : K dr = 13) {sv : Nat} (hsv : sv ∈ L) (ksv : K sv = 14) {tr : Nat} (htr : tr ∈ L) (ktr : K tr = 15) {mo : Nat} (hmo : mo ∈ L) (kmo : K mo = 12) {bu : Nat} (hbu : bu ∈ L) (kbu : K bu = 150) {sr : Nat} (hsr : sr ∈ L) (ksr : K sr = 151) {sd : Nat} (hsd : sd ∈ L) (ksd : K sd = 152) {as : Nat} (has : as ∈ L) (kas : K as = 153) {aw : Nat} (haw : aw ∈ L) (kaw : K aw = 154) {pa : Nat} (hpa : pa ∈ L) (kpa : K pa = 155) {nm : Nat} (hnm : nm ∈ L) (knm : K nm = 156) {snm : Nat} (hsnm : snm ∈ L) (ksnm : K snm = 157) {anm : Nat} (hanm : anm ∈ L) (kanm : K anm = 158) {out : Nat} (hout : out ∈ L) (kout : K out = 168) {outD : Nat} (houtD : outD ∈ L) (koutD : K outD = 169) (hf0 : q_z f x 9 = 0) (hf1 : q_z f src 1 = 0) (hf2 : q_z f src 2 = 0) (hf3 : q_z f src 3 = (-1)) (hf4 : q_z f hist 1 = 0) (hf5 : q_z f hist 2 = 0) (hf6 : q_z f rep 1 = 0) (hf7 : q_z f now 3 = 0) (hf8 : q_z f now 4 = 0) (hf9 : q_z f now 5 = 0) (hf10 : q_z f now 6 = 12) (hf11 : q_z f now 10 = 3) (hf12 : q_z f now 11 = 0) (hf13 : q_z f now 12 = 0) (hf14 : q_z f mo 2 = 0) (hf15 : q_z f mo 8 = 0) (hf16 : q_z f mo 9 = (-1)) (hf17 : q_z f mo 10 = 0) (hf18 : q_z f mo 11 = (-1)) (hf19 : q_z f mo 21 = 0) (hf20 : q_z f mo 22 = 0) (hf21 : q_z f mo 40 = 0) (hf22 : q_z f sr 0 = 0) (hf23 : q_z f sr 1 = 0) (hf24 : q_z f sr 2 = 12) (hf25 : q_z f sr 3 = 0) (hf26 : q_z f sr 4 = 0) (hf27 : q_z f sr 5 = 1) (hf28 : q_z f sr 6 = 2) (hf29 : q_z f sr 7 = 5) (hf30 : q_z f sr 8 = 3) (hf31 : q_z f sr 9 = 0) (hr0 : q_r f x 0 = src) (hr1 : q_r f x 1 = rdr) (hr2 : q_r f x 2 = scr) (hr3 : q_r f x 3 = fc) (hr4 : q_r f x 4 = hist) (hr5 : q_r f x 5 = rep) (hr6 : q_r f x 6 = now) (hr7 : q_r f x 7 = dr) (hr8 : q_r f x 8 = sv) (hr9 : q_r f fc 0 = tr) (hr10 : q_r f mo 1 = bu) (hr11 : q_r f mo 13 = sr) (hr12 : q_r f mo 14 = sd) (hr13 : q_r f mo 15 = as) (hr14 : q_r f mo 16 = aw) (hr15 : q_r f mo 17 = pa) (hr16 : q_r f mo 18 = nm) (hr17 : q_r f mo 19 = snm) (hr18 : q_r f mo 20 = anm) (hl : lv_has ls 10 [(5, .int (q_i 0)), (0, .ref b), (1, .ref x), (2, .ref mo), (3, .ref out), (4, .ref outD)]) : W p l e room_1 s m #[Value.ref b] below meth c H locs 1100 20000 (lw_Z below #[Value.ref b] s) (F0 m 2255 ls []) := by
  have hXs := C0.2.2.2.2.2.2.1
  have hbl := C0.2.2.2.2.2.2.2.1
  have hbA := q_bA hbl
  obtain ⟨x0, rx0, ex0⟩ : ∃ z : Int, q_R z ∧ xs 0 = q_i z := ⟨_, q_rng _, (q_of _).symm⟩
  have lx0 := rx0.1
  have ux0 := rx0.2
  obtain ⟨x1, rx1, ex1⟩ : ∃ z : Int, q_R z ∧ xs 1 = q_i z := ⟨_, q_rng _, (q_of _).symm⟩
  have lx1 := rx1.1
  have ux1 := rx1.2
  obtain ⟨x2, rx2, ex2⟩ : ∃ z : Int, q_R z ∧ xs 2 = q_i z := ⟨_, q_rng _, (q_of _).symm⟩
  have lx2 := rx2.1
  have ux2 := rx2.2
  obtain ⟨x3, rx3, ex3⟩ : ∃ z : Int, q_R z ∧ xs 3 = q_i z := ⟨_, q_rng _, (q_of _).symm⟩
  have lx3 := rx3.1
  have ux3 := rx3.2
  obtain ⟨x4, rx4, ex4⟩ : ∃ z : Int, q_R z ∧ xs 4 = q_i z := ⟨_, q_rng _, (q_of _).symm⟩
  have lx4 := rx4.1
  have ux4 := rx4.2
  obtain ⟨x5, rx5, ex5⟩ : ∃ z : Int, q_R z ∧ xs 5 = q_i z := ⟨_, q_rng _, (q_of _).symm⟩
  have lx5 := rx5.1
  have ux5 := rx5.2
  refine q_ald_n cx dL_law_2255 rfl (lv_at hl 2 rfl) ?_
  refine q_cVi (As := []) (rest := []) cx hB (fun q h => hLA q h) hN hx kx (by decide) rfl (x_report l g hN hB.2.1 x hx kx src hsrc ksrc rdr hrdr krdr scr hscr kscr fc hfc kfc hist hhist khist rep hrep krep now hnow know dr hdr kdr sv hsv ksv tr htr ktr hf0 hf1 hf2 hf3 hf4 hf5 hf6 hf7 hf8 hf9 hf10 hf11 hf12 hf13 hr0 hr1 hr2 hr3 hr4 hr5 hr6 hr7 hr8 hr9) q_cL_243 q_dX11_report (by decide) rfl rfl hl.1 rfl (Nat.le_of_ble_eq_true rfl) dL_law_2256 (fun y2 H locs f1 ry2 h3 hF hB => ?_)
  have qy2 := h3
  have z4 : q_z f1 mo 2 = 0 := (hF.z hmo (by rw [kmo]; rfl)).trans hf14
  have z5 : q_z f1 mo 8 = 0 := (hF.z hmo (by rw [kmo]; rfl)).trans hf15
  have z6 : q_z f1 mo 9 = (-1) := (hF.z hmo (by rw [kmo]; rfl)).trans hf16
  have z7 : q_z f1 mo 10 = 0 := (hF.z hmo (by rw [kmo]; rfl)).trans hf17
  have z8 : q_z f1 mo 11 = (-1) := (hF.z hmo (by rw [kmo]; rfl)).trans hf18
  have z9 : q_z f1 mo 21 = 0 := (hF.z hmo (by rw [kmo]; rfl)).trans hf19
  have z10 : q_z f1 mo 22 = 0 := (hF.z hmo (by rw [kmo]; rfl)).trans hf20
  have z11 : q_z f1 mo 40 = 0 := (hF.z hmo (by rw [kmo]; rfl)).trans hf21
  have z12 : q_z f1 sr 0 = 0 := (hF.z hsr (by rw [ksr]; rfl)).trans hf22
  have z13 : q_z f1 sr 1 = 0 := (hF.z hsr (by rw [ksr]; rfl)).trans hf23
  have z14 : q_z f1 sr 2 = 12 := (hF.z hsr (by rw [ksr]; rfl)).trans hf24
  have z15 : q_z f1 sr 3 = 0 := (hF.z hsr (by rw [ksr]; rfl)).trans hf25
  have z16 : q_z f1 sr 4 = 0 := (hF.z hsr (by rw [ksr]; rfl)).trans hf26
  have z17 : q_z f1 sr 5 = 1 := (hF.z hsr (by rw [ksr]; rfl)).trans hf27
  have z18 : q_z f1 sr 6 = 2 := (hF.z hsr (by rw [ksr]; rfl)).trans hf28
  have z19 : q_z f1 sr 7 = 5 := (hF.z hsr (by rw [ksr]; rfl)).trans hf29
  have z20 : q_z f1 sr 8 = 3 := (hF.z hsr (by rw [ksr]; rfl)).trans hf30
  have z21 : q_z f1 sr 9 = 0 := (hF.z hsr (by rw [ksr]; rfl)).trans hf31
  have z22 : q_r f1 x 0 = src := (hF.r hx (by rw [kx]; rfl)).trans hr0
  have z23 : q_r f1 x 1 = rdr := (hF.r hx (by rw [kx]; rfl)).trans hr1
  have z24 : q_r f1 x 2 = scr := (hF.r hx (by rw [kx]; rfl)).trans hr2
  have z25 : q_r f1 x 3 = fc := (hF.r hx (by rw [kx]; rfl)).trans hr3
  have z26 : q_r f1 x 4 = hist := (hF.r hx (by rw [kx]; rfl)).trans hr4
  have z27 : q_r f1 x 5 = rep := (hF.r hx (by rw [kx]; rfl)).trans hr5
  have z28 : q_r f1 x 6 = now := (hF.r hx (by rw [kx]; rfl)).trans hr6
  have z29 : q_r f1 x 7 = dr := (hF.r hx (by rw [kx]; rfl)).trans hr7
  have z30 : q_r f1 x 8 = sv := (hF.r hx (by rw [kx]; rfl)).trans hr8
  have z31 : q_r f1 fc 0 = tr := (hF.r hfc (by rw [kfc]; rfl)).trans hr9
  have z32 : q_r f1 mo 1 = bu := (hF.r hmo (by rw [kmo]; rfl)).trans hr10
  have z33 : q_r f1 mo 13 = sr := (hF.r hmo (by rw [kmo]; rfl)).trans hr11
  have z34 : q_r f1 mo 14 = sd := (hF.r hmo (by rw [kmo]; rfl)).trans hr12
  have z35 : q_r f1 mo 15 = as := (hF.r hmo (by rw [kmo]; rfl)).trans hr13
  have z36 : q_r f1 mo 16 = aw := (hF.r hmo (by rw [kmo]; rfl)).trans hr14
  have z37 : q_r f1 mo 17 = pa := (hF.r hmo (by rw [kmo]; rfl)).trans hr15
  have z38 : q_r f1 mo 18 = nm := (hF.r hmo (by rw [kmo]; rfl)).trans hr16
  have z39 : q_r f1 mo 19 = snm := (hF.r hmo (by rw [kmo]; rfl)).trans hr17
  have z40 : q_r f1 mo 20 = anm := (hF.r hmo (by rw [kmo]; rfl)).trans hr18
  subst qy2
  refine q_ald_n cx dL_law_2259 rfl (lv_at hl 3 rfl) ?_
  refine q_cVi (As := []) (rest := [.int (q_i 0)]) cx hB (fun q h => hLA q h) hN hmo kmo (by decide) rfl (p_report l g hN hB.2.1 mo hmo kmo bu hbu kbu sr hsr ksr sd hsd ksd as has kas aw haw kaw pa hpa kpa nm hnm knm snm hsnm ksnm anm hanm kanm z4 z5 z6 z7 z8 z9 z10 z11 z12 z13 z14 z15 z16 z17 z18 z19 z20 z21 z32 z33 z34 z35 z36 z37 z38 z39 z40) q_cL_246 q_dX12_report (by decide) rfl rfl hl.1 rfl (Nat.le_of_ble_eq_true rfl) dL_law_2260 (fun y42 H locs f41 ry42 h43 hF hB => ?_)
  obtain ⟨qy42, z44⟩ := h43
  have z45 : q_r f41 x 0 = src := (hF.r hx (by rw [kx]; rfl)).trans z22
  have z46 : q_r f41 x 1 = rdr := (hF.r hx (by rw [kx]; rfl)).trans z23
  have z47 : q_r f41 x 2 = scr := (hF.r hx (by rw [kx]; rfl)).trans z24
  have z48 : q_r f41 x 3 = fc := (hF.r hx (by rw [kx]; rfl)).trans z25
  have z49 : q_r f41 x 4 = hist := (hF.r hx (by rw [kx]; rfl)).trans z26
  have z50 : q_r f41 x 5 = rep := (hF.r hx (by rw [kx]; rfl)).trans z27
  have z51 : q_r f41 x 6 = now := (hF.r hx (by rw [kx]; rfl)).trans z28
  have z52 : q_r f41 x 7 = dr := (hF.r hx (by rw [kx]; rfl)).trans z29
  have z53 : q_r f41 x 8 = sv := (hF.r hx (by rw [kx]; rfl)).trans z30
  have z54 : q_r f41 fc 0 = tr := (hF.r hfc (by rw [kfc]; rfl)).trans z31
  subst qy42
  refine q_iceq (tgt := 2394) cx ⟨by decide, by decide⟩ ⟨by decide, by decide⟩ dL_law_2263 (by decide) (fun c55 => ?_) (fun c55 => ?_)
  · refine q_iinc (lv' := [(5, .int (q_i (0 + 6))), (0, .ref b), (1, .ref x), (2, .ref mo), (3, .ref out), (4, .ref outD)]) cx dL_law_2394 hl (k := 0) rfl (by decide) rfl (fun ls hl => ?_)
    refine lv_goto (tgt := 28) cx.1 cx.2.1 dL_law_2397 (by decide) ?_
    refine lv_iload cx.1 cx.2.1 dL_law_28 (lv_at hl 0 rfl) ?_
    refine q_ald_n cx dL_law_30 rfl (lv_at hl 1 rfl) ?_
    refine va_slen cx.1 cx.2.1 hXs hbl hbA hB.1.2.2.2 dL_law_31 ?_
    rw [show Int32.ofNat 6 = q_i 6 from by decide]
    refine q_bipush cx dL_law_32 rfl ?_
    refine q_isub cx dL_law_34 ?_
    refine q_icgt (tgt := 2400) cx ⟨by decide, by decide⟩ ⟨by decide, by decide⟩ dL_law_35 (by decide) (fun c56 => ?_) (fun c56 => ?_)
    · refine q_iconst cx dL_law_2400 ?_
      exact q_lawret C0 hB (by decide) (by decide) dL_law_2401
    · exact absurd c56 (by omega)
  · exact absurd c55 (by omega)
set_option maxHeartbeats 4000000 in
set_option maxRecDepth 100000 in
theorem law_c2268 {p : Program} {l : Launch} {e : Env} {s : State} {m : MethodId} {below : List Frame} {meth : Method} {c : Code} {b : Nat} {xs : Nat → Int32} (hfl : l.stackTraces = false) (C0 : lw_At p s m meth c b 6 xs) (cx : CallFix p m c cL_law 10 s #[Value.ref b] q_al RL) {g : q_G} {K : Nat → Nat} {L : List Nat} {f : Nat → va_E} {H : Heap} {locs : List Loc} {ls : Array Slot} (hN : L.Nodup) (hLA : ∀ q, q ∈ L → s.heap.size ≤ q) (hX : q_X (fun q => q ∈ L) s) (hB : q_B g K L (fun q => s.heap.size ≤ q) [(2, 1, 2), (6, 1, 1), (7, 1, 4), (8, 1, 9), (9, 0, 2), (10, 3, 15), (11, 9, 9), (12, 0, 40), (13, 3, 15), (14, 3, 15), (15, 3, 15), (16, 3, 15), (142, 0, 599), (150, 0, 599), (151, 0, 657), (152, 0, 657), (153, 0, 657), (154, 0, 657), (155, 0, 3947), (156, 0, 9), (157, 0, 9), (158, 0, 9), (168, 0, 0), (169, 0, 0)] f f s H locs) {x : Nat} (hx : x ∈ L) (kx : K x = 11) {src : Nat} (hsrc : src ∈ L) (ksrc : K src = 8) {rdr : Nat} (hrdr : rdr ∈ L) (krdr : K rdr = 9) {scr : Nat} (hscr : scr ∈ L) (kscr : K scr = 7) {fc : Nat} (hfc : fc ∈ L) (kfc : K fc = 1) {hist : Nat} (hhist : hist ∈ L) (khist : K hist = 2) {rep : Nat} (hrep : rep ∈ L) (krep : K rep = 6) {now : Nat} (hnow : now ∈ L) (know : K now = 10) {dr : Nat} (hdr : dr ∈ L) (kdr : K dr = 13) {sv : Nat} (hsv : sv ∈ L) (ksv : K sv = 14) {tr : Nat} (htr : tr ∈ L) (ktr : K tr = 15) {mo : Nat} (hmo : mo ∈ L) (kmo : K mo = 12) {bu : Nat} (hbu : bu ∈ L) (kbu : K bu = 150) {sr : Nat} (hsr : sr ∈ L) (ksr : K sr = 151) {sd : Nat} (hsd : sd ∈ L) (ksd : K sd = 152) {as : Nat} (has : as ∈ L) (kas : K as = 153) {aw : Nat} (haw : aw ∈ L) (kaw : K aw = 154) {pa : Nat} (hpa : pa ∈ L) (kpa : K pa = 155) {nm : Nat} (hnm : nm ∈ L) (knm : K nm = 156) {snm : Nat} (hsnm : snm ∈ L) (ksnm : K snm = 157) {anm : Nat} (hanm : anm ∈ L) (kanm : K anm = 158) {out : Nat} (hout : out ∈ L) (kout : K out = 168) {outD : Nat} (houtD : outD ∈ L) (koutD : K outD = 169) (hf0 : q_z f x 9 = 0) (hf1 : q_z f src 1 = 0) (hf2 : q_z f src 2 = 0) (hf3 : q_z f src 3 = (-1)) (hf4 : q_z f hist 1 = 0) (hf5 : q_z f hist 2 = 0) (hf6 : q_z f rep 1 = 0) (hf7 : q_z f now 3 = 0) (hf8 : q_z f now 4 = 0) (hf9 : q_z f now 5 = 0) (hf10 : q_z f now 6 = 12) (hf11 : q_z f now 10 = 3) (hf12 : q_z f now 11 = 0) (hf13 : q_z f now 12 = 0) (hf14 : q_z f mo 2 = 0) (hf15 : q_z f mo 8 = 0) (hf16 : q_z f mo 9 = (-1)) (hf17 : q_z f mo 10 = 0) (hf18 : q_z f mo 11 = (-1)) (hf19 : q_z f mo 21 = 0) (hf20 : q_z f mo 22 = 0) (hf21 : q_z f mo 40 = 0) (hf22 : q_z f sr 0 = 0) (hf23 : q_z f sr 1 = 0) (hf24 : q_z f sr 2 = 12) (hf25 : q_z f sr 3 = 0) (hf26 : q_z f sr 4 = 0) (hf27 : q_z f sr 5 = 1) (hf28 : q_z f sr 6 = 2) (hf29 : q_z f sr 7 = 5) (hf30 : q_z f sr 8 = 3) (hf31 : q_z f sr 9 = 0) (hr0 : q_r f x 0 = src) (hr1 : q_r f x 1 = rdr) (hr2 : q_r f x 2 = scr) (hr3 : q_r f x 3 = fc) (hr4 : q_r f x 4 = hist) (hr5 : q_r f x 5 = rep) (hr6 : q_r f x 6 = now) (hr7 : q_r f x 7 = dr) (hr8 : q_r f x 8 = sv) (hr9 : q_r f fc 0 = tr) (hr10 : q_r f mo 1 = bu) (hr11 : q_r f mo 13 = sr) (hr12 : q_r f mo 14 = sd) (hr13 : q_r f mo 15 = as) (hr14 : q_r f mo 16 = aw) (hr15 : q_r f mo 17 = pa) (hr16 : q_r f mo 18 = nm) (hr17 : q_r f mo 19 = snm) (hr18 : q_r f mo 20 = anm) (hl : lv_has ls 10 [(5, .int (q_i 0)), (0, .ref b), (1, .ref x), (2, .ref mo), (3, .ref out), (4, .ref outD)]) : W p l e room_1 s m #[Value.ref b] below meth c H locs 1100 20000 (lw_Z below #[Value.ref b] s) (F0 m 2268 ls []) := by
  have hXs := C0.2.2.2.2.2.2.1
  have hbl := C0.2.2.2.2.2.2.2.1
  have hbA := q_bA hbl
  obtain ⟨x0, rx0, ex0⟩ : ∃ z : Int, q_R z ∧ xs 0 = q_i z := ⟨_, q_rng _, (q_of _).symm⟩
  have lx0 := rx0.1
  have ux0 := rx0.2
  obtain ⟨x1, rx1, ex1⟩ : ∃ z : Int, q_R z ∧ xs 1 = q_i z := ⟨_, q_rng _, (q_of _).symm⟩
  have lx1 := rx1.1
  have ux1 := rx1.2
  obtain ⟨x2, rx2, ex2⟩ : ∃ z : Int, q_R z ∧ xs 2 = q_i z := ⟨_, q_rng _, (q_of _).symm⟩
  have lx2 := rx2.1
  have ux2 := rx2.2
  obtain ⟨x3, rx3, ex3⟩ : ∃ z : Int, q_R z ∧ xs 3 = q_i z := ⟨_, q_rng _, (q_of _).symm⟩
  have lx3 := rx3.1
  have ux3 := rx3.2
  obtain ⟨x4, rx4, ex4⟩ : ∃ z : Int, q_R z ∧ xs 4 = q_i z := ⟨_, q_rng _, (q_of _).symm⟩
  have lx4 := rx4.1
  have ux4 := rx4.2
  obtain ⟨x5, rx5, ex5⟩ : ∃ z : Int, q_R z ∧ xs 5 = q_i z := ⟨_, q_rng _, (q_of _).symm⟩
  have lx5 := rx5.1
  have ux5 := rx5.2
  refine q_ald_n cx dL_law_2268 rfl (lv_at hl 2 rfl) ?_
  refine q_ald_n cx dL_law_2269 rfl (lv_at hl 1 rfl) ?_
  refine lv_iload cx.1 cx.2.1 dL_law_2270 (lv_at hl 0 rfl) ?_
  refine q_iconst cx dL_law_2272 ?_
  refine q_iadd cx dL_law_2273 ?_
  refine va_sld cx.1 cx.2.1 hXs hbl hbA hB.1.2.2.2 (q_in (by decide) (by decide) (by decide)) dL_law_2274 ?_
  rw [show (q_i (0 + 1)).toNatClampNeg = 1 from by decide, ex1]
  refine q_ald_n cx dL_law_2275 rfl (lv_at hl 4 rfl) ?_
  by_cases c1 : x1 ≤ (-1)
  · refine q_cWS (As := [.ref x, .int (q_i x1), .ref out]) (rest := []) cx hX hB (fun q h => hLA q h) (fun q h1 h2 => absurd h1 (Nat.not_le_of_lt h2)) hN (w_reportBytea l g hN hB.2.1 hfl x hx kx x1 (by omega) (by omega) out hout kout src hsrc ksrc rdr hrdr krdr scr hscr kscr fc hfc kfc hist hhist khist rep hrep krep now hnow know dr hdr kdr sv hsv ksv tr htr ktr hf0 hf1 hf2 hf3 hf4 hf5 hf6 hf7 hf8 hf9 hf10 hf11 hf12 hf13 hr0 hr1 hr2 hr3 hr4 hr5 hr6 hr7 hr8 hr9) q_cL_247 q_dL_reportByte (by decide) rfl rfl hl.1 rfl (Nat.le_of_ble_eq_true rfl) dL_law_2276 (fun v9 H locs f2 h4 hF hB => ?_)
    obtain ⟨y3, rfl, ry3, h4⟩ := h4
    refine W.eq (g2 := F0 m 2279 ls [.int (q_i y3)]) rfl ?_
    have qy3 := h4
    have z5 : q_z f2 x 9 = 0 := (hF.z hx (by rw [kx]; rfl)).trans hf0
    have z6 : q_z f2 src 1 = 0 := (hF.z hsrc (by rw [ksrc]; rfl)).trans hf1
    have z7 : q_z f2 src 2 = 0 := (hF.z hsrc (by rw [ksrc]; rfl)).trans hf2
    have z8 : q_z f2 src 3 = (-1) := (hF.z hsrc (by rw [ksrc]; rfl)).trans hf3
    have z9 : q_z f2 hist 1 = 0 := (hF.z hhist (by rw [khist]; rfl)).trans hf4
    have z10 : q_z f2 hist 2 = 0 := (hF.z hhist (by rw [khist]; rfl)).trans hf5
    have z11 : q_z f2 rep 1 = 0 := (hF.z hrep (by rw [krep]; rfl)).trans hf6
    have z12 : q_z f2 now 3 = 0 := (hF.z hnow (by rw [know]; rfl)).trans hf7
    have z13 : q_z f2 now 4 = 0 := (hF.z hnow (by rw [know]; rfl)).trans hf8
    have z14 : q_z f2 now 5 = 0 := (hF.z hnow (by rw [know]; rfl)).trans hf9
    have z15 : q_z f2 now 6 = 12 := (hF.z hnow (by rw [know]; rfl)).trans hf10
    have z16 : q_z f2 now 10 = 3 := (hF.z hnow (by rw [know]; rfl)).trans hf11
    have z17 : q_z f2 now 11 = 0 := (hF.z hnow (by rw [know]; rfl)).trans hf12
    have z18 : q_z f2 now 12 = 0 := (hF.z hnow (by rw [know]; rfl)).trans hf13
    have z19 : q_z f2 mo 2 = 0 := (hF.z hmo (by rw [kmo]; rfl)).trans hf14
    have z20 : q_z f2 mo 8 = 0 := (hF.z hmo (by rw [kmo]; rfl)).trans hf15
    have z21 : q_z f2 mo 9 = (-1) := (hF.z hmo (by rw [kmo]; rfl)).trans hf16
    have z22 : q_z f2 mo 10 = 0 := (hF.z hmo (by rw [kmo]; rfl)).trans hf17
    have z23 : q_z f2 mo 11 = (-1) := (hF.z hmo (by rw [kmo]; rfl)).trans hf18
    have z24 : q_z f2 mo 21 = 0 := (hF.z hmo (by rw [kmo]; rfl)).trans hf19
    have z25 : q_z f2 mo 22 = 0 := (hF.z hmo (by rw [kmo]; rfl)).trans hf20
    have z26 : q_z f2 mo 40 = 0 := (hF.z hmo (by rw [kmo]; rfl)).trans hf21
    have z27 : q_z f2 sr 0 = 0 := (hF.z hsr (by rw [ksr]; rfl)).trans hf22
    have z28 : q_z f2 sr 1 = 0 := (hF.z hsr (by rw [ksr]; rfl)).trans hf23
    have z29 : q_z f2 sr 2 = 12 := (hF.z hsr (by rw [ksr]; rfl)).trans hf24
    have z30 : q_z f2 sr 3 = 0 := (hF.z hsr (by rw [ksr]; rfl)).trans hf25
    have z31 : q_z f2 sr 4 = 0 := (hF.z hsr (by rw [ksr]; rfl)).trans hf26
    have z32 : q_z f2 sr 5 = 1 := (hF.z hsr (by rw [ksr]; rfl)).trans hf27
    have z33 : q_z f2 sr 6 = 2 := (hF.z hsr (by rw [ksr]; rfl)).trans hf28
    have z34 : q_z f2 sr 7 = 5 := (hF.z hsr (by rw [ksr]; rfl)).trans hf29
    have z35 : q_z f2 sr 8 = 3 := (hF.z hsr (by rw [ksr]; rfl)).trans hf30
    have z36 : q_z f2 sr 9 = 0 := (hF.z hsr (by rw [ksr]; rfl)).trans hf31
    have z37 : q_r f2 x 0 = src := (hF.r hx (by rw [kx]; rfl)).trans hr0
    have z38 : q_r f2 x 1 = rdr := (hF.r hx (by rw [kx]; rfl)).trans hr1
    have z39 : q_r f2 x 2 = scr := (hF.r hx (by rw [kx]; rfl)).trans hr2
    have z40 : q_r f2 x 3 = fc := (hF.r hx (by rw [kx]; rfl)).trans hr3
    have z41 : q_r f2 x 4 = hist := (hF.r hx (by rw [kx]; rfl)).trans hr4
    have z42 : q_r f2 x 5 = rep := (hF.r hx (by rw [kx]; rfl)).trans hr5
    have z43 : q_r f2 x 6 = now := (hF.r hx (by rw [kx]; rfl)).trans hr6
    have z44 : q_r f2 x 7 = dr := (hF.r hx (by rw [kx]; rfl)).trans hr7
    have z45 : q_r f2 x 8 = sv := (hF.r hx (by rw [kx]; rfl)).trans hr8
    have z46 : q_r f2 fc 0 = tr := (hF.r hfc (by rw [kfc]; rfl)).trans hr9
    have z47 : q_r f2 mo 1 = bu := (hF.r hmo (by rw [kmo]; rfl)).trans hr10
    have z48 : q_r f2 mo 13 = sr := (hF.r hmo (by rw [kmo]; rfl)).trans hr11
    have z49 : q_r f2 mo 14 = sd := (hF.r hmo (by rw [kmo]; rfl)).trans hr12
    have z50 : q_r f2 mo 15 = as := (hF.r hmo (by rw [kmo]; rfl)).trans hr13
    have z51 : q_r f2 mo 16 = aw := (hF.r hmo (by rw [kmo]; rfl)).trans hr14
    have z52 : q_r f2 mo 17 = pa := (hF.r hmo (by rw [kmo]; rfl)).trans hr15
    have z53 : q_r f2 mo 18 = nm := (hF.r hmo (by rw [kmo]; rfl)).trans hr16
    have z54 : q_r f2 mo 19 = snm := (hF.r hmo (by rw [kmo]; rfl)).trans hr17
    have z55 : q_r f2 mo 20 = anm := (hF.r hmo (by rw [kmo]; rfl)).trans hr18
    subst qy3
    refine lv_istore (lv' := [(6, .int (q_i 1)), (5, .int (q_i 0)), (0, .ref b), (1, .ref x), (2, .ref mo), (3, .ref out), (4, .ref outD)]) cx.1 cx.2.1 dL_law_2279 hl (by decide) rfl (fun ls hl => ?_)
    refine q_ald_n cx dL_law_2281 rfl (lv_at hl 4 rfl) ?_
    refine q_ald_n cx dL_law_2282 rfl (lv_at hl 2 rfl) ?_
    refine lv_iload cx.1 cx.2.1 dL_law_2283 (lv_at hl 1 rfl) ?_
    refine q_iconst cx dL_law_2285 ?_
    refine q_iadd cx dL_law_2286 ?_
    refine va_sld cx.1 cx.2.1 hXs hbl hbA hB.1.2.2.2 (q_in (by decide) (by decide) (by decide)) dL_law_2287 ?_
    rw [show (q_i (0 + 1)).toNatClampNeg = 1 from by decide, ex1]
    refine q_cVi (As := [.int (q_i x1)]) (rest := []) cx hB (fun q h => hLA q h) hN hmo kmo (by decide) rfl (p_reportByte l g hN hB.2.1 mo hmo kmo x1 (by omega) (by omega) bu hbu kbu sr hsr ksr sd hsd ksd as has kas aw haw kaw pa hpa kpa nm hnm knm snm hsnm ksnm anm hanm kanm z19 z20 z21 z22 z23 z24 z25 z26 z27 z28 z29 z30 z31 z32 z33 z34 z35 z36 z47 z48 z49 z50 z51 z52 z53 z54 z55) q_cL_249 q_dX12_reportByte (by decide) rfl rfl hl.1 rfl (Nat.le_of_ble_eq_true rfl) dL_law_2288 (fun y57 H locs f56 ry57 h58 hF hB => ?_)
    obtain ⟨qy57, z59⟩ := h58
    have z60 : q_z f56 x 9 = 0 := (hF.z hx (by rw [kx]; rfl)).trans z5
    have z61 : q_z f56 src 1 = 0 := (hF.z hsrc (by rw [ksrc]; rfl)).trans z6
    have z62 : q_z f56 src 2 = 0 := (hF.z hsrc (by rw [ksrc]; rfl)).trans z7
    have z63 : q_z f56 src 3 = (-1) := (hF.z hsrc (by rw [ksrc]; rfl)).trans z8
    have z64 : q_z f56 hist 1 = 0 := (hF.z hhist (by rw [khist]; rfl)).trans z9
    have z65 : q_z f56 hist 2 = 0 := (hF.z hhist (by rw [khist]; rfl)).trans z10
    have z66 : q_z f56 rep 1 = 0 := (hF.z hrep (by rw [krep]; rfl)).trans z11
    have z67 : q_z f56 now 3 = 0 := (hF.z hnow (by rw [know]; rfl)).trans z12
    have z68 : q_z f56 now 4 = 0 := (hF.z hnow (by rw [know]; rfl)).trans z13
    have z69 : q_z f56 now 5 = 0 := (hF.z hnow (by rw [know]; rfl)).trans z14
    have z70 : q_z f56 now 6 = 12 := (hF.z hnow (by rw [know]; rfl)).trans z15
    have z71 : q_z f56 now 10 = 3 := (hF.z hnow (by rw [know]; rfl)).trans z16
    have z72 : q_z f56 now 11 = 0 := (hF.z hnow (by rw [know]; rfl)).trans z17
    have z73 : q_z f56 now 12 = 0 := (hF.z hnow (by rw [know]; rfl)).trans z18
    have z74 : q_r f56 x 0 = src := (hF.r hx (by rw [kx]; rfl)).trans z37
    have z75 : q_r f56 x 1 = rdr := (hF.r hx (by rw [kx]; rfl)).trans z38
    have z76 : q_r f56 x 2 = scr := (hF.r hx (by rw [kx]; rfl)).trans z39
    have z77 : q_r f56 x 3 = fc := (hF.r hx (by rw [kx]; rfl)).trans z40
    have z78 : q_r f56 x 4 = hist := (hF.r hx (by rw [kx]; rfl)).trans z41
    have z79 : q_r f56 x 5 = rep := (hF.r hx (by rw [kx]; rfl)).trans z42
    have z80 : q_r f56 x 6 = now := (hF.r hx (by rw [kx]; rfl)).trans z43
    have z81 : q_r f56 x 7 = dr := (hF.r hx (by rw [kx]; rfl)).trans z44
    have z82 : q_r f56 x 8 = sv := (hF.r hx (by rw [kx]; rfl)).trans z45
    have z83 : q_r f56 fc 0 = tr := (hF.r hfc (by rw [kfc]; rfl)).trans z46
    subst qy57
    refine lv_istore (lv' := [(7, .int (q_i 0)), (6, .int (q_i 1)), (5, .int (q_i 0)), (0, .ref b), (1, .ref x), (2, .ref mo), (3, .ref out), (4, .ref outD)]) cx.1 cx.2.1 dL_law_2291 hl (by decide) rfl (fun ls hl => ?_)
    refine q_ald_n cx dL_law_2293 rfl (lv_at hl 5 rfl) ?_
    refine q_cVi (As := []) (rest := []) cx hB (fun q h => hLA q h) hN hmo kmo (by decide) rfl (r_thrown l g hN hB.2.1 mo hmo kmo 1 (by decide) (by decide) z59) q_cL_124 q_dX12_thrown (by decide) rfl rfl hl.1 rfl (Nat.le_of_ble_eq_true rfl) dL_law_2294 (fun y85 H locs f84 ry85 h86 hF hB => ?_)
    obtain ⟨rfl, qy85⟩ := h86
    subst qy85
    refine lv_iload cx.1 cx.2.1 dL_law_2297 (lv_at hl 1 rfl) ?_
    refine q_iceq (tgt := 2304) cx ⟨by decide, by decide⟩ ⟨by decide, by decide⟩ dL_law_2299 (by decide) (fun c87 => ?_) (fun c87 => ?_)
    · refine lv_iload cx.1 cx.2.1 dL_law_2304 (lv_at hl 1 rfl) ?_
      refine q_ifne (tgt := 2321) cx ⟨by decide, by decide⟩ dL_law_2306 (by decide) (fun c88 => ?_) (fun c88 => ?_)
      · refine lv_goto (tgt := 2394) cx.1 cx.2.1 dL_law_2321 (by decide) ?_
        refine q_iinc (lv' := [(5, .int (q_i (0 + 6))), (7, .int (q_i 0)), (6, .int (q_i 1)), (0, .ref b), (1, .ref x), (2, .ref mo), (3, .ref out), (4, .ref outD)]) cx dL_law_2394 hl (k := 2) rfl (by decide) rfl (fun ls hl => ?_)
        refine lv_goto (tgt := 28) cx.1 cx.2.1 dL_law_2397 (by decide) ?_
        refine lv_iload cx.1 cx.2.1 dL_law_28 (lv_at hl 0 rfl) ?_
        refine q_ald_n cx dL_law_30 rfl (lv_at hl 3 rfl) ?_
        refine va_slen cx.1 cx.2.1 hXs hbl hbA hB.1.2.2.2 dL_law_31 ?_
        rw [show Int32.ofNat 6 = q_i 6 from by decide]
        refine q_bipush cx dL_law_32 rfl ?_
        refine q_isub cx dL_law_34 ?_
        refine q_icgt (tgt := 2400) cx ⟨by decide, by decide⟩ ⟨by decide, by decide⟩ dL_law_35 (by decide) (fun c89 => ?_) (fun c89 => ?_)
        · refine q_iconst cx dL_law_2400 ?_
          exact q_lawret C0 hB (by decide) (by decide) dL_law_2401
        · exact absurd c89 (by omega)
      · exact absurd c88 (by omega)
    · exact absurd c87 (by omega)
  · refine q_cWS (As := [.ref x, .int (q_i x1), .ref out]) (rest := []) cx hX hB (fun q h => hLA q h) (fun q h1 h2 => absurd h1 (Nat.not_le_of_lt h2)) hN (w_reportByteb l g hN hB.2.1 hfl x hx kx x1 (by omega) (by omega) out hout kout src hsrc ksrc rdr hrdr krdr scr hscr kscr fc hfc kfc hist hhist khist rep hrep krep now hnow know dr hdr kdr sv hsv ksv tr htr ktr hf0 hf1 hf2 hf3 hf4 hf5 hf6 hf7 hf8 hf9 hf10 hf11 hf12 hf13 hr0 hr1 hr2 hr3 hr4 hr5 hr6 hr7 hr8 hr9) q_cL_247 q_dL_reportByte (by decide) rfl rfl hl.1 rfl (Nat.le_of_ble_eq_true rfl) dL_law_2276 (fun v9 H locs f90 h92 hF hB => ?_)
    obtain ⟨y91, rfl, ry91, h92⟩ := h92
    refine W.eq (g2 := F0 m 2279 ls [.int (q_i y91)]) rfl ?_
    have qy91 := h92
    have z93 : q_z f90 x 9 = 0 := (hF.z hx (by rw [kx]; rfl)).trans hf0
    have z94 : q_z f90 src 1 = 0 := (hF.z hsrc (by rw [ksrc]; rfl)).trans hf1
    have z95 : q_z f90 src 2 = 0 := (hF.z hsrc (by rw [ksrc]; rfl)).trans hf2
    have z96 : q_z f90 src 3 = (-1) := (hF.z hsrc (by rw [ksrc]; rfl)).trans hf3
    have z97 : q_z f90 hist 1 = 0 := (hF.z hhist (by rw [khist]; rfl)).trans hf4
    have z98 : q_z f90 hist 2 = 0 := (hF.z hhist (by rw [khist]; rfl)).trans hf5
    have z99 : q_z f90 rep 1 = 0 := (hF.z hrep (by rw [krep]; rfl)).trans hf6
    have z100 : q_z f90 now 3 = 0 := (hF.z hnow (by rw [know]; rfl)).trans hf7
    have z101 : q_z f90 now 4 = 0 := (hF.z hnow (by rw [know]; rfl)).trans hf8
    have z102 : q_z f90 now 5 = 0 := (hF.z hnow (by rw [know]; rfl)).trans hf9
    have z103 : q_z f90 now 6 = 12 := (hF.z hnow (by rw [know]; rfl)).trans hf10
    have z104 : q_z f90 now 10 = 3 := (hF.z hnow (by rw [know]; rfl)).trans hf11
    have z105 : q_z f90 now 11 = 0 := (hF.z hnow (by rw [know]; rfl)).trans hf12
    have z106 : q_z f90 now 12 = 0 := (hF.z hnow (by rw [know]; rfl)).trans hf13
    have z107 : q_z f90 mo 2 = 0 := (hF.z hmo (by rw [kmo]; rfl)).trans hf14
    have z108 : q_z f90 mo 8 = 0 := (hF.z hmo (by rw [kmo]; rfl)).trans hf15
    have z109 : q_z f90 mo 9 = (-1) := (hF.z hmo (by rw [kmo]; rfl)).trans hf16
    have z110 : q_z f90 mo 10 = 0 := (hF.z hmo (by rw [kmo]; rfl)).trans hf17
    have z111 : q_z f90 mo 11 = (-1) := (hF.z hmo (by rw [kmo]; rfl)).trans hf18
    have z112 : q_z f90 mo 21 = 0 := (hF.z hmo (by rw [kmo]; rfl)).trans hf19
    have z113 : q_z f90 mo 22 = 0 := (hF.z hmo (by rw [kmo]; rfl)).trans hf20
    have z114 : q_z f90 mo 40 = 0 := (hF.z hmo (by rw [kmo]; rfl)).trans hf21
    have z115 : q_z f90 sr 0 = 0 := (hF.z hsr (by rw [ksr]; rfl)).trans hf22
    have z116 : q_z f90 sr 1 = 0 := (hF.z hsr (by rw [ksr]; rfl)).trans hf23
    have z117 : q_z f90 sr 2 = 12 := (hF.z hsr (by rw [ksr]; rfl)).trans hf24
    have z118 : q_z f90 sr 3 = 0 := (hF.z hsr (by rw [ksr]; rfl)).trans hf25
    have z119 : q_z f90 sr 4 = 0 := (hF.z hsr (by rw [ksr]; rfl)).trans hf26
    have z120 : q_z f90 sr 5 = 1 := (hF.z hsr (by rw [ksr]; rfl)).trans hf27
    have z121 : q_z f90 sr 6 = 2 := (hF.z hsr (by rw [ksr]; rfl)).trans hf28
    have z122 : q_z f90 sr 7 = 5 := (hF.z hsr (by rw [ksr]; rfl)).trans hf29
    have z123 : q_z f90 sr 8 = 3 := (hF.z hsr (by rw [ksr]; rfl)).trans hf30
    have z124 : q_z f90 sr 9 = 0 := (hF.z hsr (by rw [ksr]; rfl)).trans hf31
    have z125 : q_r f90 x 0 = src := (hF.r hx (by rw [kx]; rfl)).trans hr0
    have z126 : q_r f90 x 1 = rdr := (hF.r hx (by rw [kx]; rfl)).trans hr1
    have z127 : q_r f90 x 2 = scr := (hF.r hx (by rw [kx]; rfl)).trans hr2
    have z128 : q_r f90 x 3 = fc := (hF.r hx (by rw [kx]; rfl)).trans hr3
    have z129 : q_r f90 x 4 = hist := (hF.r hx (by rw [kx]; rfl)).trans hr4
    have z130 : q_r f90 x 5 = rep := (hF.r hx (by rw [kx]; rfl)).trans hr5
    have z131 : q_r f90 x 6 = now := (hF.r hx (by rw [kx]; rfl)).trans hr6
    have z132 : q_r f90 x 7 = dr := (hF.r hx (by rw [kx]; rfl)).trans hr7
    have z133 : q_r f90 x 8 = sv := (hF.r hx (by rw [kx]; rfl)).trans hr8
    have z134 : q_r f90 fc 0 = tr := (hF.r hfc (by rw [kfc]; rfl)).trans hr9
    have z135 : q_r f90 mo 1 = bu := (hF.r hmo (by rw [kmo]; rfl)).trans hr10
    have z136 : q_r f90 mo 13 = sr := (hF.r hmo (by rw [kmo]; rfl)).trans hr11
    have z137 : q_r f90 mo 14 = sd := (hF.r hmo (by rw [kmo]; rfl)).trans hr12
    have z138 : q_r f90 mo 15 = as := (hF.r hmo (by rw [kmo]; rfl)).trans hr13
    have z139 : q_r f90 mo 16 = aw := (hF.r hmo (by rw [kmo]; rfl)).trans hr14
    have z140 : q_r f90 mo 17 = pa := (hF.r hmo (by rw [kmo]; rfl)).trans hr15
    have z141 : q_r f90 mo 18 = nm := (hF.r hmo (by rw [kmo]; rfl)).trans hr16
    have z142 : q_r f90 mo 19 = snm := (hF.r hmo (by rw [kmo]; rfl)).trans hr17
    have z143 : q_r f90 mo 20 = anm := (hF.r hmo (by rw [kmo]; rfl)).trans hr18
    subst qy91
    refine lv_istore (lv' := [(6, .int (q_i 1)), (5, .int (q_i 0)), (0, .ref b), (1, .ref x), (2, .ref mo), (3, .ref out), (4, .ref outD)]) cx.1 cx.2.1 dL_law_2279 hl (by decide) rfl (fun ls hl => ?_)
    refine q_ald_n cx dL_law_2281 rfl (lv_at hl 4 rfl) ?_
    refine q_ald_n cx dL_law_2282 rfl (lv_at hl 2 rfl) ?_
    refine lv_iload cx.1 cx.2.1 dL_law_2283 (lv_at hl 1 rfl) ?_
    refine q_iconst cx dL_law_2285 ?_
    refine q_iadd cx dL_law_2286 ?_
    refine va_sld cx.1 cx.2.1 hXs hbl hbA hB.1.2.2.2 (q_in (by decide) (by decide) (by decide)) dL_law_2287 ?_
    rw [show (q_i (0 + 1)).toNatClampNeg = 1 from by decide, ex1]
    refine q_cVi (As := [.int (q_i x1)]) (rest := []) cx hB (fun q h => hLA q h) hN hmo kmo (by decide) rfl (p_reportByte l g hN hB.2.1 mo hmo kmo x1 (by omega) (by omega) bu hbu kbu sr hsr ksr sd hsd ksd as has kas aw haw kaw pa hpa kpa nm hnm knm snm hsnm ksnm anm hanm kanm z107 z108 z109 z110 z111 z112 z113 z114 z115 z116 z117 z118 z119 z120 z121 z122 z123 z124 z135 z136 z137 z138 z139 z140 z141 z142 z143) q_cL_249 q_dX12_reportByte (by decide) rfl rfl hl.1 rfl (Nat.le_of_ble_eq_true rfl) dL_law_2288 (fun y145 H locs f144 ry145 h146 hF hB => ?_)
    obtain ⟨qy145, z147⟩ := h146
    have z148 : q_z f144 x 9 = 0 := (hF.z hx (by rw [kx]; rfl)).trans z93
    have z149 : q_z f144 src 1 = 0 := (hF.z hsrc (by rw [ksrc]; rfl)).trans z94
    have z150 : q_z f144 src 2 = 0 := (hF.z hsrc (by rw [ksrc]; rfl)).trans z95
    have z151 : q_z f144 src 3 = (-1) := (hF.z hsrc (by rw [ksrc]; rfl)).trans z96
    have z152 : q_z f144 hist 1 = 0 := (hF.z hhist (by rw [khist]; rfl)).trans z97
    have z153 : q_z f144 hist 2 = 0 := (hF.z hhist (by rw [khist]; rfl)).trans z98
    have z154 : q_z f144 rep 1 = 0 := (hF.z hrep (by rw [krep]; rfl)).trans z99
    have z155 : q_z f144 now 3 = 0 := (hF.z hnow (by rw [know]; rfl)).trans z100
    have z156 : q_z f144 now 4 = 0 := (hF.z hnow (by rw [know]; rfl)).trans z101
    have z157 : q_z f144 now 5 = 0 := (hF.z hnow (by rw [know]; rfl)).trans z102
    have z158 : q_z f144 now 6 = 12 := (hF.z hnow (by rw [know]; rfl)).trans z103
    have z159 : q_z f144 now 10 = 3 := (hF.z hnow (by rw [know]; rfl)).trans z104
    have z160 : q_z f144 now 11 = 0 := (hF.z hnow (by rw [know]; rfl)).trans z105
    have z161 : q_z f144 now 12 = 0 := (hF.z hnow (by rw [know]; rfl)).trans z106
    have z162 : q_r f144 x 0 = src := (hF.r hx (by rw [kx]; rfl)).trans z125
    have z163 : q_r f144 x 1 = rdr := (hF.r hx (by rw [kx]; rfl)).trans z126
    have z164 : q_r f144 x 2 = scr := (hF.r hx (by rw [kx]; rfl)).trans z127
    have z165 : q_r f144 x 3 = fc := (hF.r hx (by rw [kx]; rfl)).trans z128
    have z166 : q_r f144 x 4 = hist := (hF.r hx (by rw [kx]; rfl)).trans z129
    have z167 : q_r f144 x 5 = rep := (hF.r hx (by rw [kx]; rfl)).trans z130
    have z168 : q_r f144 x 6 = now := (hF.r hx (by rw [kx]; rfl)).trans z131
    have z169 : q_r f144 x 7 = dr := (hF.r hx (by rw [kx]; rfl)).trans z132
    have z170 : q_r f144 x 8 = sv := (hF.r hx (by rw [kx]; rfl)).trans z133
    have z171 : q_r f144 fc 0 = tr := (hF.r hfc (by rw [kfc]; rfl)).trans z134
    subst qy145
    refine lv_istore (lv' := [(7, .int (q_i 0)), (6, .int (q_i 1)), (5, .int (q_i 0)), (0, .ref b), (1, .ref x), (2, .ref mo), (3, .ref out), (4, .ref outD)]) cx.1 cx.2.1 dL_law_2291 hl (by decide) rfl (fun ls hl => ?_)
    refine q_ald_n cx dL_law_2293 rfl (lv_at hl 5 rfl) ?_
    refine q_cVi (As := []) (rest := []) cx hB (fun q h => hLA q h) hN hmo kmo (by decide) rfl (r_thrown l g hN hB.2.1 mo hmo kmo 1 (by decide) (by decide) z147) q_cL_124 q_dX12_thrown (by decide) rfl rfl hl.1 rfl (Nat.le_of_ble_eq_true rfl) dL_law_2294 (fun y173 H locs f172 ry173 h174 hF hB => ?_)
    obtain ⟨rfl, qy173⟩ := h174
    subst qy173
    refine lv_iload cx.1 cx.2.1 dL_law_2297 (lv_at hl 1 rfl) ?_
    refine q_iceq (tgt := 2304) cx ⟨by decide, by decide⟩ ⟨by decide, by decide⟩ dL_law_2299 (by decide) (fun c175 => ?_) (fun c175 => ?_)
    · refine lv_iload cx.1 cx.2.1 dL_law_2304 (lv_at hl 1 rfl) ?_
      refine q_ifne (tgt := 2321) cx ⟨by decide, by decide⟩ dL_law_2306 (by decide) (fun c176 => ?_) (fun c176 => ?_)
      · refine lv_goto (tgt := 2394) cx.1 cx.2.1 dL_law_2321 (by decide) ?_
        refine q_iinc (lv' := [(5, .int (q_i (0 + 6))), (7, .int (q_i 0)), (6, .int (q_i 1)), (0, .ref b), (1, .ref x), (2, .ref mo), (3, .ref out), (4, .ref outD)]) cx dL_law_2394 hl (k := 2) rfl (by decide) rfl (fun ls hl => ?_)
        refine lv_goto (tgt := 28) cx.1 cx.2.1 dL_law_2397 (by decide) ?_
        refine lv_iload cx.1 cx.2.1 dL_law_28 (lv_at hl 0 rfl) ?_
        refine q_ald_n cx dL_law_30 rfl (lv_at hl 3 rfl) ?_
        refine va_slen cx.1 cx.2.1 hXs hbl hbA hB.1.2.2.2 dL_law_31 ?_
        rw [show Int32.ofNat 6 = q_i 6 from by decide]
        refine q_bipush cx dL_law_32 rfl ?_
        refine q_isub cx dL_law_34 ?_
        refine q_icgt (tgt := 2400) cx ⟨by decide, by decide⟩ ⟨by decide, by decide⟩ dL_law_35 (by decide) (fun c177 => ?_) (fun c177 => ?_)
        · refine q_iconst cx dL_law_2400 ?_
          exact q_lawret C0 hB (by decide) (by decide) dL_law_2401
        · exact absurd c177 (by omega)
      · exact absurd c176 (by omega)
    · exact absurd c175 (by omega)
set_option maxHeartbeats 4000000 in
set_option maxRecDepth 100000 in
theorem law_c2324 {p : Program} {l : Launch} {e : Env} {s : State} {m : MethodId} {below : List Frame} {meth : Method} {c : Code} {b : Nat} {xs : Nat → Int32} (hfl : l.stackTraces = false) (C0 : lw_At p s m meth c b 6 xs) (cx : CallFix p m c cL_law 10 s #[Value.ref b] q_al RL) {g : q_G} {K : Nat → Nat} {L : List Nat} {f : Nat → va_E} {H : Heap} {locs : List Loc} {ls : Array Slot} (hN : L.Nodup) (hLA : ∀ q, q ∈ L → s.heap.size ≤ q) (hX : q_X (fun q => q ∈ L) s) (hB : q_B g K L (fun q => s.heap.size ≤ q) [(2, 1, 2), (6, 1, 1), (7, 1, 4), (8, 1, 9), (9, 0, 2), (10, 3, 15), (11, 9, 9), (12, 0, 40), (13, 3, 15), (14, 3, 15), (15, 3, 15), (16, 3, 15), (142, 0, 599), (150, 0, 599), (151, 0, 657), (152, 0, 657), (153, 0, 657), (154, 0, 657), (155, 0, 3947), (156, 0, 9), (157, 0, 9), (158, 0, 9), (168, 0, 0), (169, 0, 0)] f f s H locs) {x : Nat} (hx : x ∈ L) (kx : K x = 11) {src : Nat} (hsrc : src ∈ L) (ksrc : K src = 8) {rdr : Nat} (hrdr : rdr ∈ L) (krdr : K rdr = 9) {scr : Nat} (hscr : scr ∈ L) (kscr : K scr = 7) {fc : Nat} (hfc : fc ∈ L) (kfc : K fc = 1) {hist : Nat} (hhist : hist ∈ L) (khist : K hist = 2) {rep : Nat} (hrep : rep ∈ L) (krep : K rep = 6) {now : Nat} (hnow : now ∈ L) (know : K now = 10) {dr : Nat} (hdr : dr ∈ L) (kdr : K dr = 13) {sv : Nat} (hsv : sv ∈ L) (ksv : K sv = 14) {tr : Nat} (htr : tr ∈ L) (ktr : K tr = 15) {mo : Nat} (hmo : mo ∈ L) (kmo : K mo = 12) {bu : Nat} (hbu : bu ∈ L) (kbu : K bu = 150) {sr : Nat} (hsr : sr ∈ L) (ksr : K sr = 151) {sd : Nat} (hsd : sd ∈ L) (ksd : K sd = 152) {as : Nat} (has : as ∈ L) (kas : K as = 153) {aw : Nat} (haw : aw ∈ L) (kaw : K aw = 154) {pa : Nat} (hpa : pa ∈ L) (kpa : K pa = 155) {nm : Nat} (hnm : nm ∈ L) (knm : K nm = 156) {snm : Nat} (hsnm : snm ∈ L) (ksnm : K snm = 157) {anm : Nat} (hanm : anm ∈ L) (kanm : K anm = 158) {out : Nat} (hout : out ∈ L) (kout : K out = 168) {outD : Nat} (houtD : outD ∈ L) (koutD : K outD = 169) (hf0 : q_z f x 9 = 0) (hf1 : q_z f src 1 = 0) (hf2 : q_z f src 2 = 0) (hf3 : q_z f src 3 = (-1)) (hf4 : q_z f hist 1 = 0) (hf5 : q_z f hist 2 = 0) (hf6 : q_z f rep 1 = 0) (hf7 : q_z f now 3 = 0) (hf8 : q_z f now 4 = 0) (hf9 : q_z f now 5 = 0) (hf10 : q_z f now 6 = 12) (hf11 : q_z f now 10 = 3) (hf12 : q_z f now 11 = 0) (hf13 : q_z f now 12 = 0) (hf14 : q_z f mo 2 = 0) (hf15 : q_z f mo 8 = 0) (hf16 : q_z f mo 9 = (-1)) (hf17 : q_z f mo 10 = 0) (hf18 : q_z f mo 11 = (-1)) (hf19 : q_z f mo 21 = 0) (hf20 : q_z f mo 22 = 0) (hf21 : q_z f mo 40 = 0) (hf22 : q_z f sr 0 = 0) (hf23 : q_z f sr 1 = 0) (hf24 : q_z f sr 2 = 12) (hf25 : q_z f sr 3 = 0) (hf26 : q_z f sr 4 = 0) (hf27 : q_z f sr 5 = 1) (hf28 : q_z f sr 6 = 2) (hf29 : q_z f sr 7 = 5) (hf30 : q_z f sr 8 = 3) (hf31 : q_z f sr 9 = 0) (hr0 : q_r f x 0 = src) (hr1 : q_r f x 1 = rdr) (hr2 : q_r f x 2 = scr) (hr3 : q_r f x 3 = fc) (hr4 : q_r f x 4 = hist) (hr5 : q_r f x 5 = rep) (hr6 : q_r f x 6 = now) (hr7 : q_r f x 7 = dr) (hr8 : q_r f x 8 = sv) (hr9 : q_r f fc 0 = tr) (hr10 : q_r f mo 1 = bu) (hr11 : q_r f mo 13 = sr) (hr12 : q_r f mo 14 = sd) (hr13 : q_r f mo 15 = as) (hr14 : q_r f mo 16 = aw) (hr15 : q_r f mo 17 = pa) (hr16 : q_r f mo 18 = nm) (hr17 : q_r f mo 19 = snm) (hr18 : q_r f mo 20 = anm) (hl : lv_has ls 10 [(5, .int (q_i 0)), (0, .ref b), (1, .ref x), (2, .ref mo), (3, .ref out), (4, .ref outD)]) : W p l e room_1 s m #[Value.ref b] below meth c H locs 1100 20000 (lw_Z below #[Value.ref b] s) (F0 m 2324 ls []) := by
  have hXs := C0.2.2.2.2.2.2.1
  have hbl := C0.2.2.2.2.2.2.2.1
  have hbA := q_bA hbl
  obtain ⟨x0, rx0, ex0⟩ : ∃ z : Int, q_R z ∧ xs 0 = q_i z := ⟨_, q_rng _, (q_of _).symm⟩
  have lx0 := rx0.1
  have ux0 := rx0.2
  obtain ⟨x1, rx1, ex1⟩ : ∃ z : Int, q_R z ∧ xs 1 = q_i z := ⟨_, q_rng _, (q_of _).symm⟩
  have lx1 := rx1.1
  have ux1 := rx1.2
  obtain ⟨x2, rx2, ex2⟩ : ∃ z : Int, q_R z ∧ xs 2 = q_i z := ⟨_, q_rng _, (q_of _).symm⟩
  have lx2 := rx2.1
  have ux2 := rx2.2
  obtain ⟨x3, rx3, ex3⟩ : ∃ z : Int, q_R z ∧ xs 3 = q_i z := ⟨_, q_rng _, (q_of _).symm⟩
  have lx3 := rx3.1
  have ux3 := rx3.2
  obtain ⟨x4, rx4, ex4⟩ : ∃ z : Int, q_R z ∧ xs 4 = q_i z := ⟨_, q_rng _, (q_of _).symm⟩
  have lx4 := rx4.1
  have ux4 := rx4.2
  obtain ⟨x5, rx5, ex5⟩ : ∃ z : Int, q_R z ∧ xs 5 = q_i z := ⟨_, q_rng _, (q_of _).symm⟩
  have lx5 := rx5.1
  have ux5 := rx5.2
  refine q_ald_n cx dL_law_2324 rfl (lv_at hl 2 rfl) ?_
  refine q_cVi (As := []) (rest := []) cx hB (fun q h => hLA q h) hN hx kx (by decide) rfl (x_undo l g hN hB.2.1 x hx kx src hsrc ksrc rdr hrdr krdr scr hscr kscr fc hfc kfc hist hhist khist rep hrep krep now hnow know dr hdr kdr sv hsv ksv tr htr ktr hf0 hf1 hf2 hf3 hf4 hf5 hf6 hf7 hf8 hf9 hf10 hf11 hf12 hf13 hr0 hr1 hr2 hr3 hr4 hr5 hr6 hr7 hr8 hr9) q_cL_250 q_dX11_undo (by decide) rfl rfl hl.1 rfl (Nat.le_of_ble_eq_true rfl) dL_law_2325 (fun y2 H locs f1 ry2 h3 hF hB => ?_)
  obtain ⟨rfl, qy2⟩ := h3
  subst qy2
  refine q_ald_n cx dL_law_2328 rfl (lv_at hl 3 rfl) ?_
  refine q_cVi (As := []) (rest := [.int (q_i (-1))]) cx hB (fun q h => hLA q h) hN hmo kmo (by decide) rfl (p_undo l g hN hB.2.1 mo hmo kmo bu hbu kbu sr hsr ksr sd hsd ksd as has kas aw haw kaw pa hpa kpa nm hnm knm snm hsnm ksnm anm hanm kanm hf14 hf15 hf16 hf17 hf18 hf19 hf20 hf21 hf22 hf23 hf24 hf25 hf26 hf27 hf28 hf29 hf30 hf31 hr10 hr11 hr12 hr13 hr14 hr15 hr16 hr17 hr18) q_cL_253 q_dX12_undo (by decide) rfl rfl hl.1 rfl (Nat.le_of_ble_eq_true rfl) dL_law_2329 (fun y5 H locs f4 ry5 h6 hF hB => ?_)
  obtain ⟨qy5, z7⟩ := h6
  have z8 : q_z f4 x 9 = 0 := (hF.z hx (by rw [kx]; rfl)).trans hf0
  have z9 : q_z f4 src 1 = 0 := (hF.z hsrc (by rw [ksrc]; rfl)).trans hf1
  have z10 : q_z f4 src 2 = 0 := (hF.z hsrc (by rw [ksrc]; rfl)).trans hf2
  have z11 : q_z f4 src 3 = (-1) := (hF.z hsrc (by rw [ksrc]; rfl)).trans hf3
  have z12 : q_z f4 hist 1 = 0 := (hF.z hhist (by rw [khist]; rfl)).trans hf4
  have z13 : q_z f4 hist 2 = 0 := (hF.z hhist (by rw [khist]; rfl)).trans hf5
  have z14 : q_z f4 rep 1 = 0 := (hF.z hrep (by rw [krep]; rfl)).trans hf6
  have z15 : q_z f4 now 3 = 0 := (hF.z hnow (by rw [know]; rfl)).trans hf7
  have z16 : q_z f4 now 4 = 0 := (hF.z hnow (by rw [know]; rfl)).trans hf8
  have z17 : q_z f4 now 5 = 0 := (hF.z hnow (by rw [know]; rfl)).trans hf9
  have z18 : q_z f4 now 6 = 12 := (hF.z hnow (by rw [know]; rfl)).trans hf10
  have z19 : q_z f4 now 10 = 3 := (hF.z hnow (by rw [know]; rfl)).trans hf11
  have z20 : q_z f4 now 11 = 0 := (hF.z hnow (by rw [know]; rfl)).trans hf12
  have z21 : q_z f4 now 12 = 0 := (hF.z hnow (by rw [know]; rfl)).trans hf13
  have z22 : q_r f4 x 0 = src := (hF.r hx (by rw [kx]; rfl)).trans hr0
  have z23 : q_r f4 x 1 = rdr := (hF.r hx (by rw [kx]; rfl)).trans hr1
  have z24 : q_r f4 x 2 = scr := (hF.r hx (by rw [kx]; rfl)).trans hr2
  have z25 : q_r f4 x 3 = fc := (hF.r hx (by rw [kx]; rfl)).trans hr3
  have z26 : q_r f4 x 4 = hist := (hF.r hx (by rw [kx]; rfl)).trans hr4
  have z27 : q_r f4 x 5 = rep := (hF.r hx (by rw [kx]; rfl)).trans hr5
  have z28 : q_r f4 x 6 = now := (hF.r hx (by rw [kx]; rfl)).trans hr6
  have z29 : q_r f4 x 7 = dr := (hF.r hx (by rw [kx]; rfl)).trans hr7
  have z30 : q_r f4 x 8 = sv := (hF.r hx (by rw [kx]; rfl)).trans hr8
  have z31 : q_r f4 fc 0 = tr := (hF.r hfc (by rw [kfc]; rfl)).trans hr9
  subst qy5
  refine q_iceq (tgt := 2394) cx ⟨by decide, by decide⟩ ⟨by decide, by decide⟩ dL_law_2332 (by decide) (fun c32 => ?_) (fun c32 => ?_)
  · refine q_iinc (lv' := [(5, .int (q_i (0 + 6))), (0, .ref b), (1, .ref x), (2, .ref mo), (3, .ref out), (4, .ref outD)]) cx dL_law_2394 hl (k := 0) rfl (by decide) rfl (fun ls hl => ?_)
    refine lv_goto (tgt := 28) cx.1 cx.2.1 dL_law_2397 (by decide) ?_
    refine lv_iload cx.1 cx.2.1 dL_law_28 (lv_at hl 0 rfl) ?_
    refine q_ald_n cx dL_law_30 rfl (lv_at hl 1 rfl) ?_
    refine va_slen cx.1 cx.2.1 hXs hbl hbA hB.1.2.2.2 dL_law_31 ?_
    rw [show Int32.ofNat 6 = q_i 6 from by decide]
    refine q_bipush cx dL_law_32 rfl ?_
    refine q_isub cx dL_law_34 ?_
    refine q_icgt (tgt := 2400) cx ⟨by decide, by decide⟩ ⟨by decide, by decide⟩ dL_law_35 (by decide) (fun c33 => ?_) (fun c33 => ?_)
    · refine q_iconst cx dL_law_2400 ?_
      exact q_lawret C0 hB (by decide) (by decide) dL_law_2401
    · exact absurd c33 (by omega)
  · exact absurd c32 (by omega)
set_option maxHeartbeats 4000000 in
set_option maxRecDepth 100000 in
theorem law_c2337 {p : Program} {l : Launch} {e : Env} {s : State} {m : MethodId} {below : List Frame} {meth : Method} {c : Code} {b : Nat} {xs : Nat → Int32} (hfl : l.stackTraces = false) (C0 : lw_At p s m meth c b 6 xs) (cx : CallFix p m c cL_law 10 s #[Value.ref b] q_al RL) {g : q_G} {K : Nat → Nat} {L : List Nat} {f : Nat → va_E} {H : Heap} {locs : List Loc} {ls : Array Slot} (hN : L.Nodup) (hLA : ∀ q, q ∈ L → s.heap.size ≤ q) (hX : q_X (fun q => q ∈ L) s) (hB : q_B g K L (fun q => s.heap.size ≤ q) [(2, 1, 2), (6, 1, 1), (7, 1, 4), (8, 1, 9), (9, 0, 2), (10, 3, 15), (11, 9, 9), (12, 0, 40), (13, 3, 15), (14, 3, 15), (15, 3, 15), (16, 3, 15), (142, 0, 599), (150, 0, 599), (151, 0, 657), (152, 0, 657), (153, 0, 657), (154, 0, 657), (155, 0, 3947), (156, 0, 9), (157, 0, 9), (158, 0, 9), (168, 0, 0), (169, 0, 0)] f f s H locs) {x : Nat} (hx : x ∈ L) (kx : K x = 11) {src : Nat} (hsrc : src ∈ L) (ksrc : K src = 8) {rdr : Nat} (hrdr : rdr ∈ L) (krdr : K rdr = 9) {scr : Nat} (hscr : scr ∈ L) (kscr : K scr = 7) {fc : Nat} (hfc : fc ∈ L) (kfc : K fc = 1) {hist : Nat} (hhist : hist ∈ L) (khist : K hist = 2) {rep : Nat} (hrep : rep ∈ L) (krep : K rep = 6) {now : Nat} (hnow : now ∈ L) (know : K now = 10) {dr : Nat} (hdr : dr ∈ L) (kdr : K dr = 13) {sv : Nat} (hsv : sv ∈ L) (ksv : K sv = 14) {tr : Nat} (htr : tr ∈ L) (ktr : K tr = 15) {mo : Nat} (hmo : mo ∈ L) (kmo : K mo = 12) {bu : Nat} (hbu : bu ∈ L) (kbu : K bu = 150) {sr : Nat} (hsr : sr ∈ L) (ksr : K sr = 151) {sd : Nat} (hsd : sd ∈ L) (ksd : K sd = 152) {as : Nat} (has : as ∈ L) (kas : K as = 153) {aw : Nat} (haw : aw ∈ L) (kaw : K aw = 154) {pa : Nat} (hpa : pa ∈ L) (kpa : K pa = 155) {nm : Nat} (hnm : nm ∈ L) (knm : K nm = 156) {snm : Nat} (hsnm : snm ∈ L) (ksnm : K snm = 157) {anm : Nat} (hanm : anm ∈ L) (kanm : K anm = 158) {out : Nat} (hout : out ∈ L) (kout : K out = 168) {outD : Nat} (houtD : outD ∈ L) (koutD : K outD = 169) (hf0 : q_z f x 9 = 0) (hf1 : q_z f src 1 = 0) (hf2 : q_z f src 2 = 0) (hf3 : q_z f src 3 = (-1)) (hf4 : q_z f hist 1 = 0) (hf5 : q_z f hist 2 = 0) (hf6 : q_z f rep 1 = 0) (hf7 : q_z f now 3 = 0) (hf8 : q_z f now 4 = 0) (hf9 : q_z f now 5 = 0) (hf10 : q_z f now 6 = 12) (hf11 : q_z f now 10 = 3) (hf12 : q_z f now 11 = 0) (hf13 : q_z f now 12 = 0) (hf14 : q_z f mo 2 = 0) (hf15 : q_z f mo 8 = 0) (hf16 : q_z f mo 9 = (-1)) (hf17 : q_z f mo 10 = 0) (hf18 : q_z f mo 11 = (-1)) (hf19 : q_z f mo 21 = 0) (hf20 : q_z f mo 22 = 0) (hf21 : q_z f mo 40 = 0) (hf22 : q_z f sr 0 = 0) (hf23 : q_z f sr 1 = 0) (hf24 : q_z f sr 2 = 12) (hf25 : q_z f sr 3 = 0) (hf26 : q_z f sr 4 = 0) (hf27 : q_z f sr 5 = 1) (hf28 : q_z f sr 6 = 2) (hf29 : q_z f sr 7 = 5) (hf30 : q_z f sr 8 = 3) (hf31 : q_z f sr 9 = 0) (hr0 : q_r f x 0 = src) (hr1 : q_r f x 1 = rdr) (hr2 : q_r f x 2 = scr) (hr3 : q_r f x 3 = fc) (hr4 : q_r f x 4 = hist) (hr5 : q_r f x 5 = rep) (hr6 : q_r f x 6 = now) (hr7 : q_r f x 7 = dr) (hr8 : q_r f x 8 = sv) (hr9 : q_r f fc 0 = tr) (hr10 : q_r f mo 1 = bu) (hr11 : q_r f mo 13 = sr) (hr12 : q_r f mo 14 = sd) (hr13 : q_r f mo 15 = as) (hr14 : q_r f mo 16 = aw) (hr15 : q_r f mo 17 = pa) (hr16 : q_r f mo 18 = nm) (hr17 : q_r f mo 19 = snm) (hr18 : q_r f mo 20 = anm) (hl : lv_has ls 10 [(5, .int (q_i 0)), (0, .ref b), (1, .ref x), (2, .ref mo), (3, .ref out), (4, .ref outD)]) : W p l e room_1 s m #[Value.ref b] below meth c H locs 1100 20000 (lw_Z below #[Value.ref b] s) (F0 m 2337 ls []) := by
  have hXs := C0.2.2.2.2.2.2.1
  have hbl := C0.2.2.2.2.2.2.2.1
  have hbA := q_bA hbl
  obtain ⟨x0, rx0, ex0⟩ : ∃ z : Int, q_R z ∧ xs 0 = q_i z := ⟨_, q_rng _, (q_of _).symm⟩
  have lx0 := rx0.1
  have ux0 := rx0.2
  obtain ⟨x1, rx1, ex1⟩ : ∃ z : Int, q_R z ∧ xs 1 = q_i z := ⟨_, q_rng _, (q_of _).symm⟩
  have lx1 := rx1.1
  have ux1 := rx1.2
  obtain ⟨x2, rx2, ex2⟩ : ∃ z : Int, q_R z ∧ xs 2 = q_i z := ⟨_, q_rng _, (q_of _).symm⟩
  have lx2 := rx2.1
  have ux2 := rx2.2
  obtain ⟨x3, rx3, ex3⟩ : ∃ z : Int, q_R z ∧ xs 3 = q_i z := ⟨_, q_rng _, (q_of _).symm⟩
  have lx3 := rx3.1
  have ux3 := rx3.2
  obtain ⟨x4, rx4, ex4⟩ : ∃ z : Int, q_R z ∧ xs 4 = q_i z := ⟨_, q_rng _, (q_of _).symm⟩
  have lx4 := rx4.1
  have ux4 := rx4.2
  obtain ⟨x5, rx5, ex5⟩ : ∃ z : Int, q_R z ∧ xs 5 = q_i z := ⟨_, q_rng _, (q_of _).symm⟩
  have lx5 := rx5.1
  have ux5 := rx5.2
  refine q_ald_n cx dL_law_2337 rfl (lv_at hl 2 rfl) ?_
  refine q_cVi (As := []) (rest := []) cx hB (fun q h => hLA q h) hN hx kx (by decide) rfl (x_save l g hN hB.2.1 x hx kx src hsrc ksrc rdr hrdr krdr scr hscr kscr fc hfc kfc hist hhist khist rep hrep krep now hnow know dr hdr kdr sv hsv ksv tr htr ktr hf0 hf1 hf2 hf3 hf4 hf5 hf6 hf7 hf8 hf9 hf10 hf11 hf12 hf13 hr0 hr1 hr2 hr3 hr4 hr5 hr6 hr7 hr8 hr9) q_cL_254 q_dX11_save (by decide) rfl rfl hl.1 rfl (Nat.le_of_ble_eq_true rfl) dL_law_2338 (fun y2 H locs f1 ry2 h3 hF hB => ?_)
  have qy2 := h3
  have z4 : q_z f1 mo 2 = 0 := (hF.z hmo (by rw [kmo]; rfl)).trans hf14
  have z5 : q_z f1 mo 8 = 0 := (hF.z hmo (by rw [kmo]; rfl)).trans hf15
  have z6 : q_z f1 mo 9 = (-1) := (hF.z hmo (by rw [kmo]; rfl)).trans hf16
  have z7 : q_z f1 mo 10 = 0 := (hF.z hmo (by rw [kmo]; rfl)).trans hf17
  have z8 : q_z f1 mo 11 = (-1) := (hF.z hmo (by rw [kmo]; rfl)).trans hf18
  have z9 : q_z f1 mo 21 = 0 := (hF.z hmo (by rw [kmo]; rfl)).trans hf19
  have z10 : q_z f1 mo 22 = 0 := (hF.z hmo (by rw [kmo]; rfl)).trans hf20
  have z11 : q_z f1 mo 40 = 0 := (hF.z hmo (by rw [kmo]; rfl)).trans hf21
  have z12 : q_z f1 sr 0 = 0 := (hF.z hsr (by rw [ksr]; rfl)).trans hf22
  have z13 : q_z f1 sr 1 = 0 := (hF.z hsr (by rw [ksr]; rfl)).trans hf23
  have z14 : q_z f1 sr 2 = 12 := (hF.z hsr (by rw [ksr]; rfl)).trans hf24
  have z15 : q_z f1 sr 3 = 0 := (hF.z hsr (by rw [ksr]; rfl)).trans hf25
  have z16 : q_z f1 sr 4 = 0 := (hF.z hsr (by rw [ksr]; rfl)).trans hf26
  have z17 : q_z f1 sr 5 = 1 := (hF.z hsr (by rw [ksr]; rfl)).trans hf27
  have z18 : q_z f1 sr 6 = 2 := (hF.z hsr (by rw [ksr]; rfl)).trans hf28
  have z19 : q_z f1 sr 7 = 5 := (hF.z hsr (by rw [ksr]; rfl)).trans hf29
  have z20 : q_z f1 sr 8 = 3 := (hF.z hsr (by rw [ksr]; rfl)).trans hf30
  have z21 : q_z f1 sr 9 = 0 := (hF.z hsr (by rw [ksr]; rfl)).trans hf31
  have z22 : q_r f1 x 0 = src := (hF.r hx (by rw [kx]; rfl)).trans hr0
  have z23 : q_r f1 x 1 = rdr := (hF.r hx (by rw [kx]; rfl)).trans hr1
  have z24 : q_r f1 x 2 = scr := (hF.r hx (by rw [kx]; rfl)).trans hr2
  have z25 : q_r f1 x 3 = fc := (hF.r hx (by rw [kx]; rfl)).trans hr3
  have z26 : q_r f1 x 4 = hist := (hF.r hx (by rw [kx]; rfl)).trans hr4
  have z27 : q_r f1 x 5 = rep := (hF.r hx (by rw [kx]; rfl)).trans hr5
  have z28 : q_r f1 x 6 = now := (hF.r hx (by rw [kx]; rfl)).trans hr6
  have z29 : q_r f1 x 7 = dr := (hF.r hx (by rw [kx]; rfl)).trans hr7
  have z30 : q_r f1 x 8 = sv := (hF.r hx (by rw [kx]; rfl)).trans hr8
  have z31 : q_r f1 fc 0 = tr := (hF.r hfc (by rw [kfc]; rfl)).trans hr9
  have z32 : q_r f1 mo 1 = bu := (hF.r hmo (by rw [kmo]; rfl)).trans hr10
  have z33 : q_r f1 mo 13 = sr := (hF.r hmo (by rw [kmo]; rfl)).trans hr11
  have z34 : q_r f1 mo 14 = sd := (hF.r hmo (by rw [kmo]; rfl)).trans hr12
  have z35 : q_r f1 mo 15 = as := (hF.r hmo (by rw [kmo]; rfl)).trans hr13
  have z36 : q_r f1 mo 16 = aw := (hF.r hmo (by rw [kmo]; rfl)).trans hr14
  have z37 : q_r f1 mo 17 = pa := (hF.r hmo (by rw [kmo]; rfl)).trans hr15
  have z38 : q_r f1 mo 18 = nm := (hF.r hmo (by rw [kmo]; rfl)).trans hr16
  have z39 : q_r f1 mo 19 = snm := (hF.r hmo (by rw [kmo]; rfl)).trans hr17
  have z40 : q_r f1 mo 20 = anm := (hF.r hmo (by rw [kmo]; rfl)).trans hr18
  subst qy2
  refine q_ald_n cx dL_law_2341 rfl (lv_at hl 3 rfl) ?_
  refine q_cVi (As := []) (rest := [.int (q_i 0)]) cx hB (fun q h => hLA q h) hN hmo kmo (by decide) rfl (p_save l g hN hB.2.1 mo hmo kmo bu hbu kbu sr hsr ksr sd hsd ksd as has kas aw haw kaw pa hpa kpa nm hnm knm snm hsnm ksnm anm hanm kanm z4 z5 z6 z7 z8 z9 z10 z11 z12 z13 z14 z15 z16 z17 z18 z19 z20 z21 z32 z33 z34 z35 z36 z37 z38 z39 z40) q_cL_257 q_dX12_save (by decide) rfl rfl hl.1 rfl (Nat.le_of_ble_eq_true rfl) dL_law_2342 (fun y42 H locs f41 ry42 h43 hF hB => ?_)
  obtain ⟨qy42, z44⟩ := h43
  have z45 : q_r f41 x 0 = src := (hF.r hx (by rw [kx]; rfl)).trans z22
  have z46 : q_r f41 x 1 = rdr := (hF.r hx (by rw [kx]; rfl)).trans z23
  have z47 : q_r f41 x 2 = scr := (hF.r hx (by rw [kx]; rfl)).trans z24
  have z48 : q_r f41 x 3 = fc := (hF.r hx (by rw [kx]; rfl)).trans z25
  have z49 : q_r f41 x 4 = hist := (hF.r hx (by rw [kx]; rfl)).trans z26
  have z50 : q_r f41 x 5 = rep := (hF.r hx (by rw [kx]; rfl)).trans z27
  have z51 : q_r f41 x 6 = now := (hF.r hx (by rw [kx]; rfl)).trans z28
  have z52 : q_r f41 x 7 = dr := (hF.r hx (by rw [kx]; rfl)).trans z29
  have z53 : q_r f41 x 8 = sv := (hF.r hx (by rw [kx]; rfl)).trans z30
  have z54 : q_r f41 fc 0 = tr := (hF.r hfc (by rw [kfc]; rfl)).trans z31
  subst qy42
  refine q_iceq (tgt := 2394) cx ⟨by decide, by decide⟩ ⟨by decide, by decide⟩ dL_law_2345 (by decide) (fun c55 => ?_) (fun c55 => ?_)
  · refine q_iinc (lv' := [(5, .int (q_i (0 + 6))), (0, .ref b), (1, .ref x), (2, .ref mo), (3, .ref out), (4, .ref outD)]) cx dL_law_2394 hl (k := 0) rfl (by decide) rfl (fun ls hl => ?_)
    refine lv_goto (tgt := 28) cx.1 cx.2.1 dL_law_2397 (by decide) ?_
    refine lv_iload cx.1 cx.2.1 dL_law_28 (lv_at hl 0 rfl) ?_
    refine q_ald_n cx dL_law_30 rfl (lv_at hl 1 rfl) ?_
    refine va_slen cx.1 cx.2.1 hXs hbl hbA hB.1.2.2.2 dL_law_31 ?_
    rw [show Int32.ofNat 6 = q_i 6 from by decide]
    refine q_bipush cx dL_law_32 rfl ?_
    refine q_isub cx dL_law_34 ?_
    refine q_icgt (tgt := 2400) cx ⟨by decide, by decide⟩ ⟨by decide, by decide⟩ dL_law_35 (by decide) (fun c56 => ?_) (fun c56 => ?_)
    · refine q_iconst cx dL_law_2400 ?_
      exact q_lawret C0 hB (by decide) (by decide) dL_law_2401
    · exact absurd c56 (by omega)
  · exact absurd c55 (by omega)
set_option maxHeartbeats 4000000 in
set_option maxRecDepth 100000 in
theorem law_c2350 {p : Program} {l : Launch} {e : Env} {s : State} {m : MethodId} {below : List Frame} {meth : Method} {c : Code} {b : Nat} {xs : Nat → Int32} (hfl : l.stackTraces = false) (C0 : lw_At p s m meth c b 6 xs) (cx : CallFix p m c cL_law 10 s #[Value.ref b] q_al RL) {g : q_G} {K : Nat → Nat} {L : List Nat} {f : Nat → va_E} {H : Heap} {locs : List Loc} {ls : Array Slot} (hN : L.Nodup) (hLA : ∀ q, q ∈ L → s.heap.size ≤ q) (hX : q_X (fun q => q ∈ L) s) (hB : q_B g K L (fun q => s.heap.size ≤ q) [(2, 1, 2), (6, 1, 1), (7, 1, 4), (8, 1, 9), (9, 0, 2), (10, 3, 15), (11, 9, 9), (12, 0, 40), (13, 3, 15), (14, 3, 15), (15, 3, 15), (16, 3, 15), (142, 0, 599), (150, 0, 599), (151, 0, 657), (152, 0, 657), (153, 0, 657), (154, 0, 657), (155, 0, 3947), (156, 0, 9), (157, 0, 9), (158, 0, 9), (168, 0, 0), (169, 0, 0)] f f s H locs) {x : Nat} (hx : x ∈ L) (kx : K x = 11) {src : Nat} (hsrc : src ∈ L) (ksrc : K src = 8) {rdr : Nat} (hrdr : rdr ∈ L) (krdr : K rdr = 9) {scr : Nat} (hscr : scr ∈ L) (kscr : K scr = 7) {fc : Nat} (hfc : fc ∈ L) (kfc : K fc = 1) {hist : Nat} (hhist : hist ∈ L) (khist : K hist = 2) {rep : Nat} (hrep : rep ∈ L) (krep : K rep = 6) {now : Nat} (hnow : now ∈ L) (know : K now = 10) {dr : Nat} (hdr : dr ∈ L) (kdr : K dr = 13) {sv : Nat} (hsv : sv ∈ L) (ksv : K sv = 14) {tr : Nat} (htr : tr ∈ L) (ktr : K tr = 15) {mo : Nat} (hmo : mo ∈ L) (kmo : K mo = 12) {bu : Nat} (hbu : bu ∈ L) (kbu : K bu = 150) {sr : Nat} (hsr : sr ∈ L) (ksr : K sr = 151) {sd : Nat} (hsd : sd ∈ L) (ksd : K sd = 152) {as : Nat} (has : as ∈ L) (kas : K as = 153) {aw : Nat} (haw : aw ∈ L) (kaw : K aw = 154) {pa : Nat} (hpa : pa ∈ L) (kpa : K pa = 155) {nm : Nat} (hnm : nm ∈ L) (knm : K nm = 156) {snm : Nat} (hsnm : snm ∈ L) (ksnm : K snm = 157) {anm : Nat} (hanm : anm ∈ L) (kanm : K anm = 158) {out : Nat} (hout : out ∈ L) (kout : K out = 168) {outD : Nat} (houtD : outD ∈ L) (koutD : K outD = 169) (hf0 : q_z f x 9 = 0) (hf1 : q_z f src 1 = 0) (hf2 : q_z f src 2 = 0) (hf3 : q_z f src 3 = (-1)) (hf4 : q_z f hist 1 = 0) (hf5 : q_z f hist 2 = 0) (hf6 : q_z f rep 1 = 0) (hf7 : q_z f now 3 = 0) (hf8 : q_z f now 4 = 0) (hf9 : q_z f now 5 = 0) (hf10 : q_z f now 6 = 12) (hf11 : q_z f now 10 = 3) (hf12 : q_z f now 11 = 0) (hf13 : q_z f now 12 = 0) (hf14 : q_z f mo 2 = 0) (hf15 : q_z f mo 8 = 0) (hf16 : q_z f mo 9 = (-1)) (hf17 : q_z f mo 10 = 0) (hf18 : q_z f mo 11 = (-1)) (hf19 : q_z f mo 21 = 0) (hf20 : q_z f mo 22 = 0) (hf21 : q_z f mo 40 = 0) (hf22 : q_z f sr 0 = 0) (hf23 : q_z f sr 1 = 0) (hf24 : q_z f sr 2 = 12) (hf25 : q_z f sr 3 = 0) (hf26 : q_z f sr 4 = 0) (hf27 : q_z f sr 5 = 1) (hf28 : q_z f sr 6 = 2) (hf29 : q_z f sr 7 = 5) (hf30 : q_z f sr 8 = 3) (hf31 : q_z f sr 9 = 0) (hr0 : q_r f x 0 = src) (hr1 : q_r f x 1 = rdr) (hr2 : q_r f x 2 = scr) (hr3 : q_r f x 3 = fc) (hr4 : q_r f x 4 = hist) (hr5 : q_r f x 5 = rep) (hr6 : q_r f x 6 = now) (hr7 : q_r f x 7 = dr) (hr8 : q_r f x 8 = sv) (hr9 : q_r f fc 0 = tr) (hr10 : q_r f mo 1 = bu) (hr11 : q_r f mo 13 = sr) (hr12 : q_r f mo 14 = sd) (hr13 : q_r f mo 15 = as) (hr14 : q_r f mo 16 = aw) (hr15 : q_r f mo 17 = pa) (hr16 : q_r f mo 18 = nm) (hr17 : q_r f mo 19 = snm) (hr18 : q_r f mo 20 = anm) (hl : lv_has ls 10 [(5, .int (q_i 0)), (0, .ref b), (1, .ref x), (2, .ref mo), (3, .ref out), (4, .ref outD)]) : W p l e room_1 s m #[Value.ref b] below meth c H locs 1100 20000 (lw_Z below #[Value.ref b] s) (F0 m 2350 ls []) := by
  have hXs := C0.2.2.2.2.2.2.1
  have hbl := C0.2.2.2.2.2.2.2.1
  have hbA := q_bA hbl
  obtain ⟨x0, rx0, ex0⟩ : ∃ z : Int, q_R z ∧ xs 0 = q_i z := ⟨_, q_rng _, (q_of _).symm⟩
  have lx0 := rx0.1
  have ux0 := rx0.2
  obtain ⟨x1, rx1, ex1⟩ : ∃ z : Int, q_R z ∧ xs 1 = q_i z := ⟨_, q_rng _, (q_of _).symm⟩
  have lx1 := rx1.1
  have ux1 := rx1.2
  obtain ⟨x2, rx2, ex2⟩ : ∃ z : Int, q_R z ∧ xs 2 = q_i z := ⟨_, q_rng _, (q_of _).symm⟩
  have lx2 := rx2.1
  have ux2 := rx2.2
  obtain ⟨x3, rx3, ex3⟩ : ∃ z : Int, q_R z ∧ xs 3 = q_i z := ⟨_, q_rng _, (q_of _).symm⟩
  have lx3 := rx3.1
  have ux3 := rx3.2
  obtain ⟨x4, rx4, ex4⟩ : ∃ z : Int, q_R z ∧ xs 4 = q_i z := ⟨_, q_rng _, (q_of _).symm⟩
  have lx4 := rx4.1
  have ux4 := rx4.2
  obtain ⟨x5, rx5, ex5⟩ : ∃ z : Int, q_R z ∧ xs 5 = q_i z := ⟨_, q_rng _, (q_of _).symm⟩
  have lx5 := rx5.1
  have ux5 := rx5.2
  refine q_ald_n cx dL_law_2350 rfl (lv_at hl 2 rfl) ?_
  refine q_ald_n cx dL_law_2351 rfl (lv_at hl 4 rfl) ?_
  refine q_cWS (As := [.ref x, .ref out]) (rest := []) cx hX hB (fun q h => hLA q h) (fun q h1 h2 => absurd h1 (Nat.not_le_of_lt h2)) hN (w_restore l g hN hB.2.1 hfl x hx kx out hout kout src hsrc ksrc rdr hrdr krdr scr hscr kscr fc hfc kfc hist hhist khist rep hrep krep now hnow know dr hdr kdr sv hsv ksv tr htr ktr hf0 hf1 hf2 hf3 hf4 hf5 hf6 hf7 hf8 hf9 hf10 hf11 hf12 hf13 hr0 hr1 hr2 hr3 hr4 hr5 hr6 hr7 hr8 hr9) q_cL_258 q_dL_restore (by decide) rfl rfl hl.1 rfl (Nat.le_of_ble_eq_true rfl) dL_law_2352 (fun v9 H locs f1 h3 hF hB => ?_)
  obtain ⟨y2, rfl, ry2, h3⟩ := h3
  refine W.eq (g2 := F0 m 2355 ls [.int (q_i y2)]) rfl ?_
  have qy2 := h3
  have z4 : q_z f1 x 9 = 0 := (hF.z hx (by rw [kx]; rfl)).trans hf0
  have z5 : q_z f1 src 1 = 0 := (hF.z hsrc (by rw [ksrc]; rfl)).trans hf1
  have z6 : q_z f1 src 2 = 0 := (hF.z hsrc (by rw [ksrc]; rfl)).trans hf2
  have z7 : q_z f1 src 3 = (-1) := (hF.z hsrc (by rw [ksrc]; rfl)).trans hf3
  have z8 : q_z f1 hist 1 = 0 := (hF.z hhist (by rw [khist]; rfl)).trans hf4
  have z9 : q_z f1 hist 2 = 0 := (hF.z hhist (by rw [khist]; rfl)).trans hf5
  have z10 : q_z f1 rep 1 = 0 := (hF.z hrep (by rw [krep]; rfl)).trans hf6
  have z11 : q_z f1 now 3 = 0 := (hF.z hnow (by rw [know]; rfl)).trans hf7
  have z12 : q_z f1 now 4 = 0 := (hF.z hnow (by rw [know]; rfl)).trans hf8
  have z13 : q_z f1 now 5 = 0 := (hF.z hnow (by rw [know]; rfl)).trans hf9
  have z14 : q_z f1 now 6 = 12 := (hF.z hnow (by rw [know]; rfl)).trans hf10
  have z15 : q_z f1 now 10 = 3 := (hF.z hnow (by rw [know]; rfl)).trans hf11
  have z16 : q_z f1 now 11 = 0 := (hF.z hnow (by rw [know]; rfl)).trans hf12
  have z17 : q_z f1 now 12 = 0 := (hF.z hnow (by rw [know]; rfl)).trans hf13
  have z18 : q_z f1 mo 2 = 0 := (hF.z hmo (by rw [kmo]; rfl)).trans hf14
  have z19 : q_z f1 mo 8 = 0 := (hF.z hmo (by rw [kmo]; rfl)).trans hf15
  have z20 : q_z f1 mo 9 = (-1) := (hF.z hmo (by rw [kmo]; rfl)).trans hf16
  have z21 : q_z f1 mo 10 = 0 := (hF.z hmo (by rw [kmo]; rfl)).trans hf17
  have z22 : q_z f1 mo 11 = (-1) := (hF.z hmo (by rw [kmo]; rfl)).trans hf18
  have z23 : q_z f1 mo 21 = 0 := (hF.z hmo (by rw [kmo]; rfl)).trans hf19
  have z24 : q_z f1 mo 22 = 0 := (hF.z hmo (by rw [kmo]; rfl)).trans hf20
  have z25 : q_z f1 mo 40 = 0 := (hF.z hmo (by rw [kmo]; rfl)).trans hf21
  have z26 : q_z f1 sr 0 = 0 := (hF.z hsr (by rw [ksr]; rfl)).trans hf22
  have z27 : q_z f1 sr 1 = 0 := (hF.z hsr (by rw [ksr]; rfl)).trans hf23
  have z28 : q_z f1 sr 2 = 12 := (hF.z hsr (by rw [ksr]; rfl)).trans hf24
  have z29 : q_z f1 sr 3 = 0 := (hF.z hsr (by rw [ksr]; rfl)).trans hf25
  have z30 : q_z f1 sr 4 = 0 := (hF.z hsr (by rw [ksr]; rfl)).trans hf26
  have z31 : q_z f1 sr 5 = 1 := (hF.z hsr (by rw [ksr]; rfl)).trans hf27
  have z32 : q_z f1 sr 6 = 2 := (hF.z hsr (by rw [ksr]; rfl)).trans hf28
  have z33 : q_z f1 sr 7 = 5 := (hF.z hsr (by rw [ksr]; rfl)).trans hf29
  have z34 : q_z f1 sr 8 = 3 := (hF.z hsr (by rw [ksr]; rfl)).trans hf30
  have z35 : q_z f1 sr 9 = 0 := (hF.z hsr (by rw [ksr]; rfl)).trans hf31
  have z36 : q_r f1 x 0 = src := (hF.r hx (by rw [kx]; rfl)).trans hr0
  have z37 : q_r f1 x 1 = rdr := (hF.r hx (by rw [kx]; rfl)).trans hr1
  have z38 : q_r f1 x 2 = scr := (hF.r hx (by rw [kx]; rfl)).trans hr2
  have z39 : q_r f1 x 3 = fc := (hF.r hx (by rw [kx]; rfl)).trans hr3
  have z40 : q_r f1 x 4 = hist := (hF.r hx (by rw [kx]; rfl)).trans hr4
  have z41 : q_r f1 x 5 = rep := (hF.r hx (by rw [kx]; rfl)).trans hr5
  have z42 : q_r f1 x 6 = now := (hF.r hx (by rw [kx]; rfl)).trans hr6
  have z43 : q_r f1 x 7 = dr := (hF.r hx (by rw [kx]; rfl)).trans hr7
  have z44 : q_r f1 x 8 = sv := (hF.r hx (by rw [kx]; rfl)).trans hr8
  have z45 : q_r f1 fc 0 = tr := (hF.r hfc (by rw [kfc]; rfl)).trans hr9
  have z46 : q_r f1 mo 1 = bu := (hF.r hmo (by rw [kmo]; rfl)).trans hr10
  have z47 : q_r f1 mo 13 = sr := (hF.r hmo (by rw [kmo]; rfl)).trans hr11
  have z48 : q_r f1 mo 14 = sd := (hF.r hmo (by rw [kmo]; rfl)).trans hr12
  have z49 : q_r f1 mo 15 = as := (hF.r hmo (by rw [kmo]; rfl)).trans hr13
  have z50 : q_r f1 mo 16 = aw := (hF.r hmo (by rw [kmo]; rfl)).trans hr14
  have z51 : q_r f1 mo 17 = pa := (hF.r hmo (by rw [kmo]; rfl)).trans hr15
  have z52 : q_r f1 mo 18 = nm := (hF.r hmo (by rw [kmo]; rfl)).trans hr16
  have z53 : q_r f1 mo 19 = snm := (hF.r hmo (by rw [kmo]; rfl)).trans hr17
  have z54 : q_r f1 mo 20 = anm := (hF.r hmo (by rw [kmo]; rfl)).trans hr18
  subst qy2
  refine lv_istore (lv' := [(6, .int (q_i 1)), (5, .int (q_i 0)), (0, .ref b), (1, .ref x), (2, .ref mo), (3, .ref out), (4, .ref outD)]) cx.1 cx.2.1 dL_law_2355 hl (by decide) rfl (fun ls hl => ?_)
  refine q_ald_n cx dL_law_2357 rfl (lv_at hl 4 rfl) ?_
  refine q_cVi (As := []) (rest := []) cx hB (fun q h => hLA q h) hN hmo kmo (by decide) rfl (p_restore l g hN hB.2.1 mo hmo kmo bu hbu kbu sr hsr ksr sd hsd ksd as has kas aw haw kaw pa hpa kpa nm hnm knm snm hsnm ksnm anm hanm kanm z18 z19 z20 z21 z22 z23 z24 z25 z26 z27 z28 z29 z30 z31 z32 z33 z34 z35 z46 z47 z48 z49 z50 z51 z52 z53 z54) q_cL_260 q_dX12_restore (by decide) rfl rfl hl.1 rfl (Nat.le_of_ble_eq_true rfl) dL_law_2358 (fun y56 H locs f55 ry56 h57 hF hB => ?_)
  obtain ⟨qy56, z58⟩ := h57
  have z59 : q_z f55 x 9 = 0 := (hF.z hx (by rw [kx]; rfl)).trans z4
  have z60 : q_z f55 src 1 = 0 := (hF.z hsrc (by rw [ksrc]; rfl)).trans z5
  have z61 : q_z f55 src 2 = 0 := (hF.z hsrc (by rw [ksrc]; rfl)).trans z6
  have z62 : q_z f55 src 3 = (-1) := (hF.z hsrc (by rw [ksrc]; rfl)).trans z7
  have z63 : q_z f55 hist 1 = 0 := (hF.z hhist (by rw [khist]; rfl)).trans z8
  have z64 : q_z f55 hist 2 = 0 := (hF.z hhist (by rw [khist]; rfl)).trans z9
  have z65 : q_z f55 rep 1 = 0 := (hF.z hrep (by rw [krep]; rfl)).trans z10
  have z66 : q_z f55 now 3 = 0 := (hF.z hnow (by rw [know]; rfl)).trans z11
  have z67 : q_z f55 now 4 = 0 := (hF.z hnow (by rw [know]; rfl)).trans z12
  have z68 : q_z f55 now 5 = 0 := (hF.z hnow (by rw [know]; rfl)).trans z13
  have z69 : q_z f55 now 6 = 12 := (hF.z hnow (by rw [know]; rfl)).trans z14
  have z70 : q_z f55 now 10 = 3 := (hF.z hnow (by rw [know]; rfl)).trans z15
  have z71 : q_z f55 now 11 = 0 := (hF.z hnow (by rw [know]; rfl)).trans z16
  have z72 : q_z f55 now 12 = 0 := (hF.z hnow (by rw [know]; rfl)).trans z17
  have z73 : q_r f55 x 0 = src := (hF.r hx (by rw [kx]; rfl)).trans z36
  have z74 : q_r f55 x 1 = rdr := (hF.r hx (by rw [kx]; rfl)).trans z37
  have z75 : q_r f55 x 2 = scr := (hF.r hx (by rw [kx]; rfl)).trans z38
  have z76 : q_r f55 x 3 = fc := (hF.r hx (by rw [kx]; rfl)).trans z39
  have z77 : q_r f55 x 4 = hist := (hF.r hx (by rw [kx]; rfl)).trans z40
  have z78 : q_r f55 x 5 = rep := (hF.r hx (by rw [kx]; rfl)).trans z41
  have z79 : q_r f55 x 6 = now := (hF.r hx (by rw [kx]; rfl)).trans z42
  have z80 : q_r f55 x 7 = dr := (hF.r hx (by rw [kx]; rfl)).trans z43
  have z81 : q_r f55 x 8 = sv := (hF.r hx (by rw [kx]; rfl)).trans z44
  have z82 : q_r f55 fc 0 = tr := (hF.r hfc (by rw [kfc]; rfl)).trans z45
  subst qy56
  refine lv_istore (lv' := [(7, .int (q_i 0)), (6, .int (q_i 1)), (5, .int (q_i 0)), (0, .ref b), (1, .ref x), (2, .ref mo), (3, .ref out), (4, .ref outD)]) cx.1 cx.2.1 dL_law_2361 hl (by decide) rfl (fun ls hl => ?_)
  refine q_ald_n cx dL_law_2363 rfl (lv_at hl 5 rfl) ?_
  refine q_cVi (As := []) (rest := []) cx hB (fun q h => hLA q h) hN hmo kmo (by decide) rfl (r_thrown l g hN hB.2.1 mo hmo kmo 1 (by decide) (by decide) z58) q_cL_124 q_dX12_thrown (by decide) rfl rfl hl.1 rfl (Nat.le_of_ble_eq_true rfl) dL_law_2364 (fun y84 H locs f83 ry84 h85 hF hB => ?_)
  obtain ⟨rfl, qy84⟩ := h85
  subst qy84
  refine lv_iload cx.1 cx.2.1 dL_law_2367 (lv_at hl 1 rfl) ?_
  refine q_iceq (tgt := 2374) cx ⟨by decide, by decide⟩ ⟨by decide, by decide⟩ dL_law_2369 (by decide) (fun c86 => ?_) (fun c86 => ?_)
  · refine lv_iload cx.1 cx.2.1 dL_law_2374 (lv_at hl 1 rfl) ?_
    refine q_ifne (tgt := 2391) cx ⟨by decide, by decide⟩ dL_law_2376 (by decide) (fun c87 => ?_) (fun c87 => ?_)
    · refine lv_goto (tgt := 2394) cx.1 cx.2.1 dL_law_2391 (by decide) ?_
      refine q_iinc (lv' := [(5, .int (q_i (0 + 6))), (7, .int (q_i 0)), (6, .int (q_i 1)), (0, .ref b), (1, .ref x), (2, .ref mo), (3, .ref out), (4, .ref outD)]) cx dL_law_2394 hl (k := 2) rfl (by decide) rfl (fun ls hl => ?_)
      refine lv_goto (tgt := 28) cx.1 cx.2.1 dL_law_2397 (by decide) ?_
      refine lv_iload cx.1 cx.2.1 dL_law_28 (lv_at hl 0 rfl) ?_
      refine q_ald_n cx dL_law_30 rfl (lv_at hl 3 rfl) ?_
      refine va_slen cx.1 cx.2.1 hXs hbl hbA hB.1.2.2.2 dL_law_31 ?_
      rw [show Int32.ofNat 6 = q_i 6 from by decide]
      refine q_bipush cx dL_law_32 rfl ?_
      refine q_isub cx dL_law_34 ?_
      refine q_icgt (tgt := 2400) cx ⟨by decide, by decide⟩ ⟨by decide, by decide⟩ dL_law_35 (by decide) (fun c88 => ?_) (fun c88 => ?_)
      · refine q_iconst cx dL_law_2400 ?_
        exact q_lawret C0 hB (by decide) (by decide) dL_law_2401
      · exact absurd c88 (by omega)
    · exact absurd c87 (by omega)
  · exact absurd c86 (by omega)
set_option maxHeartbeats 4000000 in
set_option maxRecDepth 100000 in
theorem law_c2394 {p : Program} {l : Launch} {e : Env} {s : State} {m : MethodId} {below : List Frame} {meth : Method} {c : Code} {b : Nat} {xs : Nat → Int32} (hfl : l.stackTraces = false) (C0 : lw_At p s m meth c b 6 xs) (cx : CallFix p m c cL_law 10 s #[Value.ref b] q_al RL) {g : q_G} {K : Nat → Nat} {L : List Nat} {f : Nat → va_E} {H : Heap} {locs : List Loc} {ls : Array Slot} (hN : L.Nodup) (hLA : ∀ q, q ∈ L → s.heap.size ≤ q) (hX : q_X (fun q => q ∈ L) s) (hB : q_B g K L (fun q => s.heap.size ≤ q) [(2, 1, 2), (6, 1, 1), (7, 1, 4), (8, 1, 9), (9, 0, 2), (10, 3, 15), (11, 9, 9), (12, 0, 40), (13, 3, 15), (14, 3, 15), (15, 3, 15), (16, 3, 15), (142, 0, 599), (150, 0, 599), (151, 0, 657), (152, 0, 657), (153, 0, 657), (154, 0, 657), (155, 0, 3947), (156, 0, 9), (157, 0, 9), (158, 0, 9), (168, 0, 0), (169, 0, 0)] f f s H locs) {x : Nat} (hx : x ∈ L) (kx : K x = 11) {src : Nat} (hsrc : src ∈ L) (ksrc : K src = 8) {rdr : Nat} (hrdr : rdr ∈ L) (krdr : K rdr = 9) {scr : Nat} (hscr : scr ∈ L) (kscr : K scr = 7) {fc : Nat} (hfc : fc ∈ L) (kfc : K fc = 1) {hist : Nat} (hhist : hist ∈ L) (khist : K hist = 2) {rep : Nat} (hrep : rep ∈ L) (krep : K rep = 6) {now : Nat} (hnow : now ∈ L) (know : K now = 10) {dr : Nat} (hdr : dr ∈ L) (kdr : K dr = 13) {sv : Nat} (hsv : sv ∈ L) (ksv : K sv = 14) {tr : Nat} (htr : tr ∈ L) (ktr : K tr = 15) {mo : Nat} (hmo : mo ∈ L) (kmo : K mo = 12) {bu : Nat} (hbu : bu ∈ L) (kbu : K bu = 150) {sr : Nat} (hsr : sr ∈ L) (ksr : K sr = 151) {sd : Nat} (hsd : sd ∈ L) (ksd : K sd = 152) {as : Nat} (has : as ∈ L) (kas : K as = 153) {aw : Nat} (haw : aw ∈ L) (kaw : K aw = 154) {pa : Nat} (hpa : pa ∈ L) (kpa : K pa = 155) {nm : Nat} (hnm : nm ∈ L) (knm : K nm = 156) {snm : Nat} (hsnm : snm ∈ L) (ksnm : K snm = 157) {anm : Nat} (hanm : anm ∈ L) (kanm : K anm = 158) {out : Nat} (hout : out ∈ L) (kout : K out = 168) {outD : Nat} (houtD : outD ∈ L) (koutD : K outD = 169) (hf0 : q_z f x 9 = 0) (hf1 : q_z f src 1 = 0) (hf2 : q_z f src 2 = 0) (hf3 : q_z f src 3 = (-1)) (hf4 : q_z f hist 1 = 0) (hf5 : q_z f hist 2 = 0) (hf6 : q_z f rep 1 = 0) (hf7 : q_z f now 3 = 0) (hf8 : q_z f now 4 = 0) (hf9 : q_z f now 5 = 0) (hf10 : q_z f now 6 = 12) (hf11 : q_z f now 10 = 3) (hf12 : q_z f now 11 = 0) (hf13 : q_z f now 12 = 0) (hf14 : q_z f mo 2 = 0) (hf15 : q_z f mo 8 = 0) (hf16 : q_z f mo 9 = (-1)) (hf17 : q_z f mo 10 = 0) (hf18 : q_z f mo 11 = (-1)) (hf19 : q_z f mo 21 = 0) (hf20 : q_z f mo 22 = 0) (hf21 : q_z f mo 40 = 0) (hf22 : q_z f sr 0 = 0) (hf23 : q_z f sr 1 = 0) (hf24 : q_z f sr 2 = 12) (hf25 : q_z f sr 3 = 0) (hf26 : q_z f sr 4 = 0) (hf27 : q_z f sr 5 = 1) (hf28 : q_z f sr 6 = 2) (hf29 : q_z f sr 7 = 5) (hf30 : q_z f sr 8 = 3) (hf31 : q_z f sr 9 = 0) (hr0 : q_r f x 0 = src) (hr1 : q_r f x 1 = rdr) (hr2 : q_r f x 2 = scr) (hr3 : q_r f x 3 = fc) (hr4 : q_r f x 4 = hist) (hr5 : q_r f x 5 = rep) (hr6 : q_r f x 6 = now) (hr7 : q_r f x 7 = dr) (hr8 : q_r f x 8 = sv) (hr9 : q_r f fc 0 = tr) (hr10 : q_r f mo 1 = bu) (hr11 : q_r f mo 13 = sr) (hr12 : q_r f mo 14 = sd) (hr13 : q_r f mo 15 = as) (hr14 : q_r f mo 16 = aw) (hr15 : q_r f mo 17 = pa) (hr16 : q_r f mo 18 = nm) (hr17 : q_r f mo 19 = snm) (hr18 : q_r f mo 20 = anm) (hl : lv_has ls 10 [(5, .int (q_i 0)), (0, .ref b), (1, .ref x), (2, .ref mo), (3, .ref out), (4, .ref outD)]) : W p l e room_1 s m #[Value.ref b] below meth c H locs 1100 20000 (lw_Z below #[Value.ref b] s) (F0 m 2394 ls []) := by
  have hXs := C0.2.2.2.2.2.2.1
  have hbl := C0.2.2.2.2.2.2.2.1
  have hbA := q_bA hbl
  obtain ⟨x0, rx0, ex0⟩ : ∃ z : Int, q_R z ∧ xs 0 = q_i z := ⟨_, q_rng _, (q_of _).symm⟩
  have lx0 := rx0.1
  have ux0 := rx0.2
  obtain ⟨x1, rx1, ex1⟩ : ∃ z : Int, q_R z ∧ xs 1 = q_i z := ⟨_, q_rng _, (q_of _).symm⟩
  have lx1 := rx1.1
  have ux1 := rx1.2
  obtain ⟨x2, rx2, ex2⟩ : ∃ z : Int, q_R z ∧ xs 2 = q_i z := ⟨_, q_rng _, (q_of _).symm⟩
  have lx2 := rx2.1
  have ux2 := rx2.2
  obtain ⟨x3, rx3, ex3⟩ : ∃ z : Int, q_R z ∧ xs 3 = q_i z := ⟨_, q_rng _, (q_of _).symm⟩
  have lx3 := rx3.1
  have ux3 := rx3.2
  obtain ⟨x4, rx4, ex4⟩ : ∃ z : Int, q_R z ∧ xs 4 = q_i z := ⟨_, q_rng _, (q_of _).symm⟩
  have lx4 := rx4.1
  have ux4 := rx4.2
  obtain ⟨x5, rx5, ex5⟩ : ∃ z : Int, q_R z ∧ xs 5 = q_i z := ⟨_, q_rng _, (q_of _).symm⟩
  have lx5 := rx5.1
  have ux5 := rx5.2
  refine q_iinc (lv' := [(5, .int (q_i (0 + 6))), (0, .ref b), (1, .ref x), (2, .ref mo), (3, .ref out), (4, .ref outD)]) cx dL_law_2394 hl (k := 0) rfl (by decide) rfl (fun ls hl => ?_)
  refine lv_goto (tgt := 28) cx.1 cx.2.1 dL_law_2397 (by decide) ?_
  refine lv_iload cx.1 cx.2.1 dL_law_28 (lv_at hl 0 rfl) ?_
  refine q_ald_n cx dL_law_30 rfl (lv_at hl 1 rfl) ?_
  refine va_slen cx.1 cx.2.1 hXs hbl hbA hB.1.2.2.2 dL_law_31 ?_
  rw [show Int32.ofNat 6 = q_i 6 from by decide]
  refine q_bipush cx dL_law_32 rfl ?_
  refine q_isub cx dL_law_34 ?_
  refine q_icgt (tgt := 2400) cx ⟨by decide, by decide⟩ ⟨by decide, by decide⟩ dL_law_35 (by decide) (fun c1 => ?_) (fun c1 => ?_)
  · refine q_iconst cx dL_law_2400 ?_
    exact q_lawret C0 hB (by decide) (by decide) dL_law_2401
  · exact absurd c1 (by omega)
set_option maxHeartbeats 4000000 in
set_option maxRecDepth 100000 in
theorem law_go0 {p : Program} {l : Launch} {e : Env} {s : State} {m : MethodId} {below : List Frame} {meth : Method} {c : Code} {b : Nat} {xs : Nat → Int32} (hfl : l.stackTraces = false) (C0 : lw_At p s m meth c b 0 xs) (cx : CallFix p m c cL_law 10 s #[Value.ref b] q_al RL) {g : q_G} {K : Nat → Nat} {L : List Nat} {f : Nat → va_E} {H : Heap} {locs : List Loc} {ls : Array Slot} (hN : L.Nodup) (hLA : ∀ q, q ∈ L → s.heap.size ≤ q) (hX : q_X (fun q => q ∈ L) s) (hB : q_B g K L (fun q => s.heap.size ≤ q) [(2, 1, 2), (6, 1, 1), (7, 1, 4), (8, 1, 9), (9, 0, 2), (10, 3, 15), (11, 9, 9), (12, 0, 40), (13, 3, 15), (14, 3, 15), (15, 3, 15), (16, 3, 15), (142, 0, 599), (150, 0, 599), (151, 0, 657), (152, 0, 657), (153, 0, 657), (154, 0, 657), (155, 0, 3947), (156, 0, 9), (157, 0, 9), (158, 0, 9), (168, 0, 0), (169, 0, 0)] f f s H locs) {x : Nat} (hx : x ∈ L) (kx : K x = 11) {src : Nat} (hsrc : src ∈ L) (ksrc : K src = 8) {rdr : Nat} (hrdr : rdr ∈ L) (krdr : K rdr = 9) {scr : Nat} (hscr : scr ∈ L) (kscr : K scr = 7) {fc : Nat} (hfc : fc ∈ L) (kfc : K fc = 1) {hist : Nat} (hhist : hist ∈ L) (khist : K hist = 2) {rep : Nat} (hrep : rep ∈ L) (krep : K rep = 6) {now : Nat} (hnow : now ∈ L) (know : K now = 10) {dr : Nat} (hdr : dr ∈ L) (kdr : K dr = 13) {sv : Nat} (hsv : sv ∈ L) (ksv : K sv = 14) {tr : Nat} (htr : tr ∈ L) (ktr : K tr = 15) {mo : Nat} (hmo : mo ∈ L) (kmo : K mo = 12) {bu : Nat} (hbu : bu ∈ L) (kbu : K bu = 150) {sr : Nat} (hsr : sr ∈ L) (ksr : K sr = 151) {sd : Nat} (hsd : sd ∈ L) (ksd : K sd = 152) {as : Nat} (has : as ∈ L) (kas : K as = 153) {aw : Nat} (haw : aw ∈ L) (kaw : K aw = 154) {pa : Nat} (hpa : pa ∈ L) (kpa : K pa = 155) {nm : Nat} (hnm : nm ∈ L) (knm : K nm = 156) {snm : Nat} (hsnm : snm ∈ L) (ksnm : K snm = 157) {anm : Nat} (hanm : anm ∈ L) (kanm : K anm = 158) {out : Nat} (hout : out ∈ L) (kout : K out = 168) {outD : Nat} (houtD : outD ∈ L) (koutD : K outD = 169) (hf0 : q_z f x 9 = 0) (hf1 : q_z f src 1 = 0) (hf2 : q_z f src 2 = 0) (hf3 : q_z f src 3 = (-1)) (hf4 : q_z f hist 1 = 0) (hf5 : q_z f hist 2 = 0) (hf6 : q_z f rep 1 = 0) (hf7 : q_z f now 3 = 0) (hf8 : q_z f now 4 = 0) (hf9 : q_z f now 5 = 0) (hf10 : q_z f now 6 = 12) (hf11 : q_z f now 10 = 3) (hf12 : q_z f now 11 = 0) (hf13 : q_z f now 12 = 0) (hf14 : q_z f mo 2 = 0) (hf15 : q_z f mo 8 = 0) (hf16 : q_z f mo 9 = (-1)) (hf17 : q_z f mo 10 = 0) (hf18 : q_z f mo 11 = (-1)) (hf19 : q_z f mo 21 = 0) (hf20 : q_z f mo 22 = 0) (hf21 : q_z f mo 40 = 0) (hf22 : q_z f sr 0 = 0) (hf23 : q_z f sr 1 = 0) (hf24 : q_z f sr 2 = 12) (hf25 : q_z f sr 3 = 0) (hf26 : q_z f sr 4 = 0) (hf27 : q_z f sr 5 = 1) (hf28 : q_z f sr 6 = 2) (hf29 : q_z f sr 7 = 5) (hf30 : q_z f sr 8 = 3) (hf31 : q_z f sr 9 = 0) (hr0 : q_r f x 0 = src) (hr1 : q_r f x 1 = rdr) (hr2 : q_r f x 2 = scr) (hr3 : q_r f x 3 = fc) (hr4 : q_r f x 4 = hist) (hr5 : q_r f x 5 = rep) (hr6 : q_r f x 6 = now) (hr7 : q_r f x 7 = dr) (hr8 : q_r f x 8 = sv) (hr9 : q_r f fc 0 = tr) (hr10 : q_r f mo 1 = bu) (hr11 : q_r f mo 13 = sr) (hr12 : q_r f mo 14 = sd) (hr13 : q_r f mo 15 = as) (hr14 : q_r f mo 16 = aw) (hr15 : q_r f mo 17 = pa) (hr16 : q_r f mo 18 = nm) (hr17 : q_r f mo 19 = snm) (hr18 : q_r f mo 20 = anm) (hl : lv_has ls 10 [(0, .ref b), (1, .ref x), (2, .ref mo), (3, .ref out), (4, .ref outD)]) : W p l e room_1 s m #[Value.ref b] below meth c H locs 1100 20000 (lw_Z below #[Value.ref b] s) (F0 m 25 ls []) := by
  have hXs := C0.2.2.2.2.2.2.1
  have hbl := C0.2.2.2.2.2.2.2.1
  have hbA := q_bA hbl
  refine q_iconst cx dL_law_25 ?_
  refine lv_istore (lv' := [(5, .int (q_i 0)), (0, .ref b), (1, .ref x), (2, .ref mo), (3, .ref out), (4, .ref outD)]) cx.1 cx.2.1 dL_law_26 hl (by decide) rfl (fun ls hl => ?_)
  refine lv_iload cx.1 cx.2.1 dL_law_28 (lv_at hl 0 rfl) ?_
  refine q_ald_n cx dL_law_30 rfl (lv_at hl 1 rfl) ?_
  refine va_slen cx.1 cx.2.1 hXs hbl hbA hB.1.2.2.2 dL_law_31 ?_
  rw [show Int32.ofNat 0 = q_i 0 from by decide]
  refine q_bipush cx dL_law_32 rfl ?_
  refine q_isub cx dL_law_34 ?_
  refine q_icgt (tgt := 2400) cx ⟨by decide, by decide⟩ ⟨by decide, by decide⟩ dL_law_35 (by decide) (fun c1 => ?_) (fun c1 => ?_)
  · refine q_iconst cx dL_law_2400 ?_
    exact q_lawret C0 hB (by decide) (by decide) dL_law_2401
  · exact absurd c1 (by omega)
set_option maxHeartbeats 4000000 in
set_option maxRecDepth 100000 in
theorem law_go1 {p : Program} {l : Launch} {e : Env} {s : State} {m : MethodId} {below : List Frame} {meth : Method} {c : Code} {b : Nat} {xs : Nat → Int32} (hfl : l.stackTraces = false) (C0 : lw_At p s m meth c b 1 xs) (cx : CallFix p m c cL_law 10 s #[Value.ref b] q_al RL) {g : q_G} {K : Nat → Nat} {L : List Nat} {f : Nat → va_E} {H : Heap} {locs : List Loc} {ls : Array Slot} (hN : L.Nodup) (hLA : ∀ q, q ∈ L → s.heap.size ≤ q) (hX : q_X (fun q => q ∈ L) s) (hB : q_B g K L (fun q => s.heap.size ≤ q) [(2, 1, 2), (6, 1, 1), (7, 1, 4), (8, 1, 9), (9, 0, 2), (10, 3, 15), (11, 9, 9), (12, 0, 40), (13, 3, 15), (14, 3, 15), (15, 3, 15), (16, 3, 15), (142, 0, 599), (150, 0, 599), (151, 0, 657), (152, 0, 657), (153, 0, 657), (154, 0, 657), (155, 0, 3947), (156, 0, 9), (157, 0, 9), (158, 0, 9), (168, 0, 0), (169, 0, 0)] f f s H locs) {x : Nat} (hx : x ∈ L) (kx : K x = 11) {src : Nat} (hsrc : src ∈ L) (ksrc : K src = 8) {rdr : Nat} (hrdr : rdr ∈ L) (krdr : K rdr = 9) {scr : Nat} (hscr : scr ∈ L) (kscr : K scr = 7) {fc : Nat} (hfc : fc ∈ L) (kfc : K fc = 1) {hist : Nat} (hhist : hist ∈ L) (khist : K hist = 2) {rep : Nat} (hrep : rep ∈ L) (krep : K rep = 6) {now : Nat} (hnow : now ∈ L) (know : K now = 10) {dr : Nat} (hdr : dr ∈ L) (kdr : K dr = 13) {sv : Nat} (hsv : sv ∈ L) (ksv : K sv = 14) {tr : Nat} (htr : tr ∈ L) (ktr : K tr = 15) {mo : Nat} (hmo : mo ∈ L) (kmo : K mo = 12) {bu : Nat} (hbu : bu ∈ L) (kbu : K bu = 150) {sr : Nat} (hsr : sr ∈ L) (ksr : K sr = 151) {sd : Nat} (hsd : sd ∈ L) (ksd : K sd = 152) {as : Nat} (has : as ∈ L) (kas : K as = 153) {aw : Nat} (haw : aw ∈ L) (kaw : K aw = 154) {pa : Nat} (hpa : pa ∈ L) (kpa : K pa = 155) {nm : Nat} (hnm : nm ∈ L) (knm : K nm = 156) {snm : Nat} (hsnm : snm ∈ L) (ksnm : K snm = 157) {anm : Nat} (hanm : anm ∈ L) (kanm : K anm = 158) {out : Nat} (hout : out ∈ L) (kout : K out = 168) {outD : Nat} (houtD : outD ∈ L) (koutD : K outD = 169) (hf0 : q_z f x 9 = 0) (hf1 : q_z f src 1 = 0) (hf2 : q_z f src 2 = 0) (hf3 : q_z f src 3 = (-1)) (hf4 : q_z f hist 1 = 0) (hf5 : q_z f hist 2 = 0) (hf6 : q_z f rep 1 = 0) (hf7 : q_z f now 3 = 0) (hf8 : q_z f now 4 = 0) (hf9 : q_z f now 5 = 0) (hf10 : q_z f now 6 = 12) (hf11 : q_z f now 10 = 3) (hf12 : q_z f now 11 = 0) (hf13 : q_z f now 12 = 0) (hf14 : q_z f mo 2 = 0) (hf15 : q_z f mo 8 = 0) (hf16 : q_z f mo 9 = (-1)) (hf17 : q_z f mo 10 = 0) (hf18 : q_z f mo 11 = (-1)) (hf19 : q_z f mo 21 = 0) (hf20 : q_z f mo 22 = 0) (hf21 : q_z f mo 40 = 0) (hf22 : q_z f sr 0 = 0) (hf23 : q_z f sr 1 = 0) (hf24 : q_z f sr 2 = 12) (hf25 : q_z f sr 3 = 0) (hf26 : q_z f sr 4 = 0) (hf27 : q_z f sr 5 = 1) (hf28 : q_z f sr 6 = 2) (hf29 : q_z f sr 7 = 5) (hf30 : q_z f sr 8 = 3) (hf31 : q_z f sr 9 = 0) (hr0 : q_r f x 0 = src) (hr1 : q_r f x 1 = rdr) (hr2 : q_r f x 2 = scr) (hr3 : q_r f x 3 = fc) (hr4 : q_r f x 4 = hist) (hr5 : q_r f x 5 = rep) (hr6 : q_r f x 6 = now) (hr7 : q_r f x 7 = dr) (hr8 : q_r f x 8 = sv) (hr9 : q_r f fc 0 = tr) (hr10 : q_r f mo 1 = bu) (hr11 : q_r f mo 13 = sr) (hr12 : q_r f mo 14 = sd) (hr13 : q_r f mo 15 = as) (hr14 : q_r f mo 16 = aw) (hr15 : q_r f mo 17 = pa) (hr16 : q_r f mo 18 = nm) (hr17 : q_r f mo 19 = snm) (hr18 : q_r f mo 20 = anm) (hl : lv_has ls 10 [(0, .ref b), (1, .ref x), (2, .ref mo), (3, .ref out), (4, .ref outD)]) : W p l e room_1 s m #[Value.ref b] below meth c H locs 1100 20000 (lw_Z below #[Value.ref b] s) (F0 m 25 ls []) := by
  have hXs := C0.2.2.2.2.2.2.1
  have hbl := C0.2.2.2.2.2.2.2.1
  have hbA := q_bA hbl
  refine q_iconst cx dL_law_25 ?_
  refine lv_istore (lv' := [(5, .int (q_i 0)), (0, .ref b), (1, .ref x), (2, .ref mo), (3, .ref out), (4, .ref outD)]) cx.1 cx.2.1 dL_law_26 hl (by decide) rfl (fun ls hl => ?_)
  refine lv_iload cx.1 cx.2.1 dL_law_28 (lv_at hl 0 rfl) ?_
  refine q_ald_n cx dL_law_30 rfl (lv_at hl 1 rfl) ?_
  refine va_slen cx.1 cx.2.1 hXs hbl hbA hB.1.2.2.2 dL_law_31 ?_
  rw [show Int32.ofNat 1 = q_i 1 from by decide]
  refine q_bipush cx dL_law_32 rfl ?_
  refine q_isub cx dL_law_34 ?_
  refine q_icgt (tgt := 2400) cx ⟨by decide, by decide⟩ ⟨by decide, by decide⟩ dL_law_35 (by decide) (fun c1 => ?_) (fun c1 => ?_)
  · refine q_iconst cx dL_law_2400 ?_
    exact q_lawret C0 hB (by decide) (by decide) dL_law_2401
  · exact absurd c1 (by omega)
set_option maxHeartbeats 4000000 in
set_option maxRecDepth 100000 in
theorem law_go2 {p : Program} {l : Launch} {e : Env} {s : State} {m : MethodId} {below : List Frame} {meth : Method} {c : Code} {b : Nat} {xs : Nat → Int32} (hfl : l.stackTraces = false) (C0 : lw_At p s m meth c b 2 xs) (cx : CallFix p m c cL_law 10 s #[Value.ref b] q_al RL) {g : q_G} {K : Nat → Nat} {L : List Nat} {f : Nat → va_E} {H : Heap} {locs : List Loc} {ls : Array Slot} (hN : L.Nodup) (hLA : ∀ q, q ∈ L → s.heap.size ≤ q) (hX : q_X (fun q => q ∈ L) s) (hB : q_B g K L (fun q => s.heap.size ≤ q) [(2, 1, 2), (6, 1, 1), (7, 1, 4), (8, 1, 9), (9, 0, 2), (10, 3, 15), (11, 9, 9), (12, 0, 40), (13, 3, 15), (14, 3, 15), (15, 3, 15), (16, 3, 15), (142, 0, 599), (150, 0, 599), (151, 0, 657), (152, 0, 657), (153, 0, 657), (154, 0, 657), (155, 0, 3947), (156, 0, 9), (157, 0, 9), (158, 0, 9), (168, 0, 0), (169, 0, 0)] f f s H locs) {x : Nat} (hx : x ∈ L) (kx : K x = 11) {src : Nat} (hsrc : src ∈ L) (ksrc : K src = 8) {rdr : Nat} (hrdr : rdr ∈ L) (krdr : K rdr = 9) {scr : Nat} (hscr : scr ∈ L) (kscr : K scr = 7) {fc : Nat} (hfc : fc ∈ L) (kfc : K fc = 1) {hist : Nat} (hhist : hist ∈ L) (khist : K hist = 2) {rep : Nat} (hrep : rep ∈ L) (krep : K rep = 6) {now : Nat} (hnow : now ∈ L) (know : K now = 10) {dr : Nat} (hdr : dr ∈ L) (kdr : K dr = 13) {sv : Nat} (hsv : sv ∈ L) (ksv : K sv = 14) {tr : Nat} (htr : tr ∈ L) (ktr : K tr = 15) {mo : Nat} (hmo : mo ∈ L) (kmo : K mo = 12) {bu : Nat} (hbu : bu ∈ L) (kbu : K bu = 150) {sr : Nat} (hsr : sr ∈ L) (ksr : K sr = 151) {sd : Nat} (hsd : sd ∈ L) (ksd : K sd = 152) {as : Nat} (has : as ∈ L) (kas : K as = 153) {aw : Nat} (haw : aw ∈ L) (kaw : K aw = 154) {pa : Nat} (hpa : pa ∈ L) (kpa : K pa = 155) {nm : Nat} (hnm : nm ∈ L) (knm : K nm = 156) {snm : Nat} (hsnm : snm ∈ L) (ksnm : K snm = 157) {anm : Nat} (hanm : anm ∈ L) (kanm : K anm = 158) {out : Nat} (hout : out ∈ L) (kout : K out = 168) {outD : Nat} (houtD : outD ∈ L) (koutD : K outD = 169) (hf0 : q_z f x 9 = 0) (hf1 : q_z f src 1 = 0) (hf2 : q_z f src 2 = 0) (hf3 : q_z f src 3 = (-1)) (hf4 : q_z f hist 1 = 0) (hf5 : q_z f hist 2 = 0) (hf6 : q_z f rep 1 = 0) (hf7 : q_z f now 3 = 0) (hf8 : q_z f now 4 = 0) (hf9 : q_z f now 5 = 0) (hf10 : q_z f now 6 = 12) (hf11 : q_z f now 10 = 3) (hf12 : q_z f now 11 = 0) (hf13 : q_z f now 12 = 0) (hf14 : q_z f mo 2 = 0) (hf15 : q_z f mo 8 = 0) (hf16 : q_z f mo 9 = (-1)) (hf17 : q_z f mo 10 = 0) (hf18 : q_z f mo 11 = (-1)) (hf19 : q_z f mo 21 = 0) (hf20 : q_z f mo 22 = 0) (hf21 : q_z f mo 40 = 0) (hf22 : q_z f sr 0 = 0) (hf23 : q_z f sr 1 = 0) (hf24 : q_z f sr 2 = 12) (hf25 : q_z f sr 3 = 0) (hf26 : q_z f sr 4 = 0) (hf27 : q_z f sr 5 = 1) (hf28 : q_z f sr 6 = 2) (hf29 : q_z f sr 7 = 5) (hf30 : q_z f sr 8 = 3) (hf31 : q_z f sr 9 = 0) (hr0 : q_r f x 0 = src) (hr1 : q_r f x 1 = rdr) (hr2 : q_r f x 2 = scr) (hr3 : q_r f x 3 = fc) (hr4 : q_r f x 4 = hist) (hr5 : q_r f x 5 = rep) (hr6 : q_r f x 6 = now) (hr7 : q_r f x 7 = dr) (hr8 : q_r f x 8 = sv) (hr9 : q_r f fc 0 = tr) (hr10 : q_r f mo 1 = bu) (hr11 : q_r f mo 13 = sr) (hr12 : q_r f mo 14 = sd) (hr13 : q_r f mo 15 = as) (hr14 : q_r f mo 16 = aw) (hr15 : q_r f mo 17 = pa) (hr16 : q_r f mo 18 = nm) (hr17 : q_r f mo 19 = snm) (hr18 : q_r f mo 20 = anm) (hl : lv_has ls 10 [(0, .ref b), (1, .ref x), (2, .ref mo), (3, .ref out), (4, .ref outD)]) : W p l e room_1 s m #[Value.ref b] below meth c H locs 1100 20000 (lw_Z below #[Value.ref b] s) (F0 m 25 ls []) := by
  have hXs := C0.2.2.2.2.2.2.1
  have hbl := C0.2.2.2.2.2.2.2.1
  have hbA := q_bA hbl
  refine q_iconst cx dL_law_25 ?_
  refine lv_istore (lv' := [(5, .int (q_i 0)), (0, .ref b), (1, .ref x), (2, .ref mo), (3, .ref out), (4, .ref outD)]) cx.1 cx.2.1 dL_law_26 hl (by decide) rfl (fun ls hl => ?_)
  refine lv_iload cx.1 cx.2.1 dL_law_28 (lv_at hl 0 rfl) ?_
  refine q_ald_n cx dL_law_30 rfl (lv_at hl 1 rfl) ?_
  refine va_slen cx.1 cx.2.1 hXs hbl hbA hB.1.2.2.2 dL_law_31 ?_
  rw [show Int32.ofNat 2 = q_i 2 from by decide]
  refine q_bipush cx dL_law_32 rfl ?_
  refine q_isub cx dL_law_34 ?_
  refine q_icgt (tgt := 2400) cx ⟨by decide, by decide⟩ ⟨by decide, by decide⟩ dL_law_35 (by decide) (fun c1 => ?_) (fun c1 => ?_)
  · refine q_iconst cx dL_law_2400 ?_
    exact q_lawret C0 hB (by decide) (by decide) dL_law_2401
  · exact absurd c1 (by omega)
set_option maxHeartbeats 4000000 in
set_option maxRecDepth 100000 in
theorem law_go3 {p : Program} {l : Launch} {e : Env} {s : State} {m : MethodId} {below : List Frame} {meth : Method} {c : Code} {b : Nat} {xs : Nat → Int32} (hfl : l.stackTraces = false) (C0 : lw_At p s m meth c b 3 xs) (cx : CallFix p m c cL_law 10 s #[Value.ref b] q_al RL) {g : q_G} {K : Nat → Nat} {L : List Nat} {f : Nat → va_E} {H : Heap} {locs : List Loc} {ls : Array Slot} (hN : L.Nodup) (hLA : ∀ q, q ∈ L → s.heap.size ≤ q) (hX : q_X (fun q => q ∈ L) s) (hB : q_B g K L (fun q => s.heap.size ≤ q) [(2, 1, 2), (6, 1, 1), (7, 1, 4), (8, 1, 9), (9, 0, 2), (10, 3, 15), (11, 9, 9), (12, 0, 40), (13, 3, 15), (14, 3, 15), (15, 3, 15), (16, 3, 15), (142, 0, 599), (150, 0, 599), (151, 0, 657), (152, 0, 657), (153, 0, 657), (154, 0, 657), (155, 0, 3947), (156, 0, 9), (157, 0, 9), (158, 0, 9), (168, 0, 0), (169, 0, 0)] f f s H locs) {x : Nat} (hx : x ∈ L) (kx : K x = 11) {src : Nat} (hsrc : src ∈ L) (ksrc : K src = 8) {rdr : Nat} (hrdr : rdr ∈ L) (krdr : K rdr = 9) {scr : Nat} (hscr : scr ∈ L) (kscr : K scr = 7) {fc : Nat} (hfc : fc ∈ L) (kfc : K fc = 1) {hist : Nat} (hhist : hist ∈ L) (khist : K hist = 2) {rep : Nat} (hrep : rep ∈ L) (krep : K rep = 6) {now : Nat} (hnow : now ∈ L) (know : K now = 10) {dr : Nat} (hdr : dr ∈ L) (kdr : K dr = 13) {sv : Nat} (hsv : sv ∈ L) (ksv : K sv = 14) {tr : Nat} (htr : tr ∈ L) (ktr : K tr = 15) {mo : Nat} (hmo : mo ∈ L) (kmo : K mo = 12) {bu : Nat} (hbu : bu ∈ L) (kbu : K bu = 150) {sr : Nat} (hsr : sr ∈ L) (ksr : K sr = 151) {sd : Nat} (hsd : sd ∈ L) (ksd : K sd = 152) {as : Nat} (has : as ∈ L) (kas : K as = 153) {aw : Nat} (haw : aw ∈ L) (kaw : K aw = 154) {pa : Nat} (hpa : pa ∈ L) (kpa : K pa = 155) {nm : Nat} (hnm : nm ∈ L) (knm : K nm = 156) {snm : Nat} (hsnm : snm ∈ L) (ksnm : K snm = 157) {anm : Nat} (hanm : anm ∈ L) (kanm : K anm = 158) {out : Nat} (hout : out ∈ L) (kout : K out = 168) {outD : Nat} (houtD : outD ∈ L) (koutD : K outD = 169) (hf0 : q_z f x 9 = 0) (hf1 : q_z f src 1 = 0) (hf2 : q_z f src 2 = 0) (hf3 : q_z f src 3 = (-1)) (hf4 : q_z f hist 1 = 0) (hf5 : q_z f hist 2 = 0) (hf6 : q_z f rep 1 = 0) (hf7 : q_z f now 3 = 0) (hf8 : q_z f now 4 = 0) (hf9 : q_z f now 5 = 0) (hf10 : q_z f now 6 = 12) (hf11 : q_z f now 10 = 3) (hf12 : q_z f now 11 = 0) (hf13 : q_z f now 12 = 0) (hf14 : q_z f mo 2 = 0) (hf15 : q_z f mo 8 = 0) (hf16 : q_z f mo 9 = (-1)) (hf17 : q_z f mo 10 = 0) (hf18 : q_z f mo 11 = (-1)) (hf19 : q_z f mo 21 = 0) (hf20 : q_z f mo 22 = 0) (hf21 : q_z f mo 40 = 0) (hf22 : q_z f sr 0 = 0) (hf23 : q_z f sr 1 = 0) (hf24 : q_z f sr 2 = 12) (hf25 : q_z f sr 3 = 0) (hf26 : q_z f sr 4 = 0) (hf27 : q_z f sr 5 = 1) (hf28 : q_z f sr 6 = 2) (hf29 : q_z f sr 7 = 5) (hf30 : q_z f sr 8 = 3) (hf31 : q_z f sr 9 = 0) (hr0 : q_r f x 0 = src) (hr1 : q_r f x 1 = rdr) (hr2 : q_r f x 2 = scr) (hr3 : q_r f x 3 = fc) (hr4 : q_r f x 4 = hist) (hr5 : q_r f x 5 = rep) (hr6 : q_r f x 6 = now) (hr7 : q_r f x 7 = dr) (hr8 : q_r f x 8 = sv) (hr9 : q_r f fc 0 = tr) (hr10 : q_r f mo 1 = bu) (hr11 : q_r f mo 13 = sr) (hr12 : q_r f mo 14 = sd) (hr13 : q_r f mo 15 = as) (hr14 : q_r f mo 16 = aw) (hr15 : q_r f mo 17 = pa) (hr16 : q_r f mo 18 = nm) (hr17 : q_r f mo 19 = snm) (hr18 : q_r f mo 20 = anm) (hl : lv_has ls 10 [(0, .ref b), (1, .ref x), (2, .ref mo), (3, .ref out), (4, .ref outD)]) : W p l e room_1 s m #[Value.ref b] below meth c H locs 1100 20000 (lw_Z below #[Value.ref b] s) (F0 m 25 ls []) := by
  have hXs := C0.2.2.2.2.2.2.1
  have hbl := C0.2.2.2.2.2.2.2.1
  have hbA := q_bA hbl
  refine q_iconst cx dL_law_25 ?_
  refine lv_istore (lv' := [(5, .int (q_i 0)), (0, .ref b), (1, .ref x), (2, .ref mo), (3, .ref out), (4, .ref outD)]) cx.1 cx.2.1 dL_law_26 hl (by decide) rfl (fun ls hl => ?_)
  refine lv_iload cx.1 cx.2.1 dL_law_28 (lv_at hl 0 rfl) ?_
  refine q_ald_n cx dL_law_30 rfl (lv_at hl 1 rfl) ?_
  refine va_slen cx.1 cx.2.1 hXs hbl hbA hB.1.2.2.2 dL_law_31 ?_
  rw [show Int32.ofNat 3 = q_i 3 from by decide]
  refine q_bipush cx dL_law_32 rfl ?_
  refine q_isub cx dL_law_34 ?_
  refine q_icgt (tgt := 2400) cx ⟨by decide, by decide⟩ ⟨by decide, by decide⟩ dL_law_35 (by decide) (fun c1 => ?_) (fun c1 => ?_)
  · refine q_iconst cx dL_law_2400 ?_
    exact q_lawret C0 hB (by decide) (by decide) dL_law_2401
  · exact absurd c1 (by omega)
set_option maxHeartbeats 4000000 in
set_option maxRecDepth 100000 in
theorem law_go4 {p : Program} {l : Launch} {e : Env} {s : State} {m : MethodId} {below : List Frame} {meth : Method} {c : Code} {b : Nat} {xs : Nat → Int32} (hfl : l.stackTraces = false) (C0 : lw_At p s m meth c b 4 xs) (cx : CallFix p m c cL_law 10 s #[Value.ref b] q_al RL) {g : q_G} {K : Nat → Nat} {L : List Nat} {f : Nat → va_E} {H : Heap} {locs : List Loc} {ls : Array Slot} (hN : L.Nodup) (hLA : ∀ q, q ∈ L → s.heap.size ≤ q) (hX : q_X (fun q => q ∈ L) s) (hB : q_B g K L (fun q => s.heap.size ≤ q) [(2, 1, 2), (6, 1, 1), (7, 1, 4), (8, 1, 9), (9, 0, 2), (10, 3, 15), (11, 9, 9), (12, 0, 40), (13, 3, 15), (14, 3, 15), (15, 3, 15), (16, 3, 15), (142, 0, 599), (150, 0, 599), (151, 0, 657), (152, 0, 657), (153, 0, 657), (154, 0, 657), (155, 0, 3947), (156, 0, 9), (157, 0, 9), (158, 0, 9), (168, 0, 0), (169, 0, 0)] f f s H locs) {x : Nat} (hx : x ∈ L) (kx : K x = 11) {src : Nat} (hsrc : src ∈ L) (ksrc : K src = 8) {rdr : Nat} (hrdr : rdr ∈ L) (krdr : K rdr = 9) {scr : Nat} (hscr : scr ∈ L) (kscr : K scr = 7) {fc : Nat} (hfc : fc ∈ L) (kfc : K fc = 1) {hist : Nat} (hhist : hist ∈ L) (khist : K hist = 2) {rep : Nat} (hrep : rep ∈ L) (krep : K rep = 6) {now : Nat} (hnow : now ∈ L) (know : K now = 10) {dr : Nat} (hdr : dr ∈ L) (kdr : K dr = 13) {sv : Nat} (hsv : sv ∈ L) (ksv : K sv = 14) {tr : Nat} (htr : tr ∈ L) (ktr : K tr = 15) {mo : Nat} (hmo : mo ∈ L) (kmo : K mo = 12) {bu : Nat} (hbu : bu ∈ L) (kbu : K bu = 150) {sr : Nat} (hsr : sr ∈ L) (ksr : K sr = 151) {sd : Nat} (hsd : sd ∈ L) (ksd : K sd = 152) {as : Nat} (has : as ∈ L) (kas : K as = 153) {aw : Nat} (haw : aw ∈ L) (kaw : K aw = 154) {pa : Nat} (hpa : pa ∈ L) (kpa : K pa = 155) {nm : Nat} (hnm : nm ∈ L) (knm : K nm = 156) {snm : Nat} (hsnm : snm ∈ L) (ksnm : K snm = 157) {anm : Nat} (hanm : anm ∈ L) (kanm : K anm = 158) {out : Nat} (hout : out ∈ L) (kout : K out = 168) {outD : Nat} (houtD : outD ∈ L) (koutD : K outD = 169) (hf0 : q_z f x 9 = 0) (hf1 : q_z f src 1 = 0) (hf2 : q_z f src 2 = 0) (hf3 : q_z f src 3 = (-1)) (hf4 : q_z f hist 1 = 0) (hf5 : q_z f hist 2 = 0) (hf6 : q_z f rep 1 = 0) (hf7 : q_z f now 3 = 0) (hf8 : q_z f now 4 = 0) (hf9 : q_z f now 5 = 0) (hf10 : q_z f now 6 = 12) (hf11 : q_z f now 10 = 3) (hf12 : q_z f now 11 = 0) (hf13 : q_z f now 12 = 0) (hf14 : q_z f mo 2 = 0) (hf15 : q_z f mo 8 = 0) (hf16 : q_z f mo 9 = (-1)) (hf17 : q_z f mo 10 = 0) (hf18 : q_z f mo 11 = (-1)) (hf19 : q_z f mo 21 = 0) (hf20 : q_z f mo 22 = 0) (hf21 : q_z f mo 40 = 0) (hf22 : q_z f sr 0 = 0) (hf23 : q_z f sr 1 = 0) (hf24 : q_z f sr 2 = 12) (hf25 : q_z f sr 3 = 0) (hf26 : q_z f sr 4 = 0) (hf27 : q_z f sr 5 = 1) (hf28 : q_z f sr 6 = 2) (hf29 : q_z f sr 7 = 5) (hf30 : q_z f sr 8 = 3) (hf31 : q_z f sr 9 = 0) (hr0 : q_r f x 0 = src) (hr1 : q_r f x 1 = rdr) (hr2 : q_r f x 2 = scr) (hr3 : q_r f x 3 = fc) (hr4 : q_r f x 4 = hist) (hr5 : q_r f x 5 = rep) (hr6 : q_r f x 6 = now) (hr7 : q_r f x 7 = dr) (hr8 : q_r f x 8 = sv) (hr9 : q_r f fc 0 = tr) (hr10 : q_r f mo 1 = bu) (hr11 : q_r f mo 13 = sr) (hr12 : q_r f mo 14 = sd) (hr13 : q_r f mo 15 = as) (hr14 : q_r f mo 16 = aw) (hr15 : q_r f mo 17 = pa) (hr16 : q_r f mo 18 = nm) (hr17 : q_r f mo 19 = snm) (hr18 : q_r f mo 20 = anm) (hl : lv_has ls 10 [(0, .ref b), (1, .ref x), (2, .ref mo), (3, .ref out), (4, .ref outD)]) : W p l e room_1 s m #[Value.ref b] below meth c H locs 1100 20000 (lw_Z below #[Value.ref b] s) (F0 m 25 ls []) := by
  have hXs := C0.2.2.2.2.2.2.1
  have hbl := C0.2.2.2.2.2.2.2.1
  have hbA := q_bA hbl
  refine q_iconst cx dL_law_25 ?_
  refine lv_istore (lv' := [(5, .int (q_i 0)), (0, .ref b), (1, .ref x), (2, .ref mo), (3, .ref out), (4, .ref outD)]) cx.1 cx.2.1 dL_law_26 hl (by decide) rfl (fun ls hl => ?_)
  refine lv_iload cx.1 cx.2.1 dL_law_28 (lv_at hl 0 rfl) ?_
  refine q_ald_n cx dL_law_30 rfl (lv_at hl 1 rfl) ?_
  refine va_slen cx.1 cx.2.1 hXs hbl hbA hB.1.2.2.2 dL_law_31 ?_
  rw [show Int32.ofNat 4 = q_i 4 from by decide]
  refine q_bipush cx dL_law_32 rfl ?_
  refine q_isub cx dL_law_34 ?_
  refine q_icgt (tgt := 2400) cx ⟨by decide, by decide⟩ ⟨by decide, by decide⟩ dL_law_35 (by decide) (fun c1 => ?_) (fun c1 => ?_)
  · refine q_iconst cx dL_law_2400 ?_
    exact q_lawret C0 hB (by decide) (by decide) dL_law_2401
  · exact absurd c1 (by omega)
set_option maxHeartbeats 4000000 in
set_option maxRecDepth 100000 in
theorem law_go5 {p : Program} {l : Launch} {e : Env} {s : State} {m : MethodId} {below : List Frame} {meth : Method} {c : Code} {b : Nat} {xs : Nat → Int32} (hfl : l.stackTraces = false) (C0 : lw_At p s m meth c b 5 xs) (cx : CallFix p m c cL_law 10 s #[Value.ref b] q_al RL) {g : q_G} {K : Nat → Nat} {L : List Nat} {f : Nat → va_E} {H : Heap} {locs : List Loc} {ls : Array Slot} (hN : L.Nodup) (hLA : ∀ q, q ∈ L → s.heap.size ≤ q) (hX : q_X (fun q => q ∈ L) s) (hB : q_B g K L (fun q => s.heap.size ≤ q) [(2, 1, 2), (6, 1, 1), (7, 1, 4), (8, 1, 9), (9, 0, 2), (10, 3, 15), (11, 9, 9), (12, 0, 40), (13, 3, 15), (14, 3, 15), (15, 3, 15), (16, 3, 15), (142, 0, 599), (150, 0, 599), (151, 0, 657), (152, 0, 657), (153, 0, 657), (154, 0, 657), (155, 0, 3947), (156, 0, 9), (157, 0, 9), (158, 0, 9), (168, 0, 0), (169, 0, 0)] f f s H locs) {x : Nat} (hx : x ∈ L) (kx : K x = 11) {src : Nat} (hsrc : src ∈ L) (ksrc : K src = 8) {rdr : Nat} (hrdr : rdr ∈ L) (krdr : K rdr = 9) {scr : Nat} (hscr : scr ∈ L) (kscr : K scr = 7) {fc : Nat} (hfc : fc ∈ L) (kfc : K fc = 1) {hist : Nat} (hhist : hist ∈ L) (khist : K hist = 2) {rep : Nat} (hrep : rep ∈ L) (krep : K rep = 6) {now : Nat} (hnow : now ∈ L) (know : K now = 10) {dr : Nat} (hdr : dr ∈ L) (kdr : K dr = 13) {sv : Nat} (hsv : sv ∈ L) (ksv : K sv = 14) {tr : Nat} (htr : tr ∈ L) (ktr : K tr = 15) {mo : Nat} (hmo : mo ∈ L) (kmo : K mo = 12) {bu : Nat} (hbu : bu ∈ L) (kbu : K bu = 150) {sr : Nat} (hsr : sr ∈ L) (ksr : K sr = 151) {sd : Nat} (hsd : sd ∈ L) (ksd : K sd = 152) {as : Nat} (has : as ∈ L) (kas : K as = 153) {aw : Nat} (haw : aw ∈ L) (kaw : K aw = 154) {pa : Nat} (hpa : pa ∈ L) (kpa : K pa = 155) {nm : Nat} (hnm : nm ∈ L) (knm : K nm = 156) {snm : Nat} (hsnm : snm ∈ L) (ksnm : K snm = 157) {anm : Nat} (hanm : anm ∈ L) (kanm : K anm = 158) {out : Nat} (hout : out ∈ L) (kout : K out = 168) {outD : Nat} (houtD : outD ∈ L) (koutD : K outD = 169) (hf0 : q_z f x 9 = 0) (hf1 : q_z f src 1 = 0) (hf2 : q_z f src 2 = 0) (hf3 : q_z f src 3 = (-1)) (hf4 : q_z f hist 1 = 0) (hf5 : q_z f hist 2 = 0) (hf6 : q_z f rep 1 = 0) (hf7 : q_z f now 3 = 0) (hf8 : q_z f now 4 = 0) (hf9 : q_z f now 5 = 0) (hf10 : q_z f now 6 = 12) (hf11 : q_z f now 10 = 3) (hf12 : q_z f now 11 = 0) (hf13 : q_z f now 12 = 0) (hf14 : q_z f mo 2 = 0) (hf15 : q_z f mo 8 = 0) (hf16 : q_z f mo 9 = (-1)) (hf17 : q_z f mo 10 = 0) (hf18 : q_z f mo 11 = (-1)) (hf19 : q_z f mo 21 = 0) (hf20 : q_z f mo 22 = 0) (hf21 : q_z f mo 40 = 0) (hf22 : q_z f sr 0 = 0) (hf23 : q_z f sr 1 = 0) (hf24 : q_z f sr 2 = 12) (hf25 : q_z f sr 3 = 0) (hf26 : q_z f sr 4 = 0) (hf27 : q_z f sr 5 = 1) (hf28 : q_z f sr 6 = 2) (hf29 : q_z f sr 7 = 5) (hf30 : q_z f sr 8 = 3) (hf31 : q_z f sr 9 = 0) (hr0 : q_r f x 0 = src) (hr1 : q_r f x 1 = rdr) (hr2 : q_r f x 2 = scr) (hr3 : q_r f x 3 = fc) (hr4 : q_r f x 4 = hist) (hr5 : q_r f x 5 = rep) (hr6 : q_r f x 6 = now) (hr7 : q_r f x 7 = dr) (hr8 : q_r f x 8 = sv) (hr9 : q_r f fc 0 = tr) (hr10 : q_r f mo 1 = bu) (hr11 : q_r f mo 13 = sr) (hr12 : q_r f mo 14 = sd) (hr13 : q_r f mo 15 = as) (hr14 : q_r f mo 16 = aw) (hr15 : q_r f mo 17 = pa) (hr16 : q_r f mo 18 = nm) (hr17 : q_r f mo 19 = snm) (hr18 : q_r f mo 20 = anm) (hl : lv_has ls 10 [(0, .ref b), (1, .ref x), (2, .ref mo), (3, .ref out), (4, .ref outD)]) : W p l e room_1 s m #[Value.ref b] below meth c H locs 1100 20000 (lw_Z below #[Value.ref b] s) (F0 m 25 ls []) := by
  have hXs := C0.2.2.2.2.2.2.1
  have hbl := C0.2.2.2.2.2.2.2.1
  have hbA := q_bA hbl
  refine q_iconst cx dL_law_25 ?_
  refine lv_istore (lv' := [(5, .int (q_i 0)), (0, .ref b), (1, .ref x), (2, .ref mo), (3, .ref out), (4, .ref outD)]) cx.1 cx.2.1 dL_law_26 hl (by decide) rfl (fun ls hl => ?_)
  refine lv_iload cx.1 cx.2.1 dL_law_28 (lv_at hl 0 rfl) ?_
  refine q_ald_n cx dL_law_30 rfl (lv_at hl 1 rfl) ?_
  refine va_slen cx.1 cx.2.1 hXs hbl hbA hB.1.2.2.2 dL_law_31 ?_
  rw [show Int32.ofNat 5 = q_i 5 from by decide]
  refine q_bipush cx dL_law_32 rfl ?_
  refine q_isub cx dL_law_34 ?_
  refine q_icgt (tgt := 2400) cx ⟨by decide, by decide⟩ ⟨by decide, by decide⟩ dL_law_35 (by decide) (fun c1 => ?_) (fun c1 => ?_)
  · refine q_iconst cx dL_law_2400 ?_
    exact q_lawret C0 hB (by decide) (by decide) dL_law_2401
  · exact absurd c1 (by omega)
set_option maxHeartbeats 4000000 in
set_option maxRecDepth 100000 in
theorem law_go6 {p : Program} {l : Launch} {e : Env} {s : State} {m : MethodId} {below : List Frame} {meth : Method} {c : Code} {b : Nat} {xs : Nat → Int32} (hfl : l.stackTraces = false) (C0 : lw_At p s m meth c b 6 xs) (cx : CallFix p m c cL_law 10 s #[Value.ref b] q_al RL) {g : q_G} {K : Nat → Nat} {L : List Nat} {f : Nat → va_E} {H : Heap} {locs : List Loc} {ls : Array Slot} (hN : L.Nodup) (hLA : ∀ q, q ∈ L → s.heap.size ≤ q) (hX : q_X (fun q => q ∈ L) s) (hB : q_B g K L (fun q => s.heap.size ≤ q) [(2, 1, 2), (6, 1, 1), (7, 1, 4), (8, 1, 9), (9, 0, 2), (10, 3, 15), (11, 9, 9), (12, 0, 40), (13, 3, 15), (14, 3, 15), (15, 3, 15), (16, 3, 15), (142, 0, 599), (150, 0, 599), (151, 0, 657), (152, 0, 657), (153, 0, 657), (154, 0, 657), (155, 0, 3947), (156, 0, 9), (157, 0, 9), (158, 0, 9), (168, 0, 0), (169, 0, 0)] f f s H locs) {x : Nat} (hx : x ∈ L) (kx : K x = 11) {src : Nat} (hsrc : src ∈ L) (ksrc : K src = 8) {rdr : Nat} (hrdr : rdr ∈ L) (krdr : K rdr = 9) {scr : Nat} (hscr : scr ∈ L) (kscr : K scr = 7) {fc : Nat} (hfc : fc ∈ L) (kfc : K fc = 1) {hist : Nat} (hhist : hist ∈ L) (khist : K hist = 2) {rep : Nat} (hrep : rep ∈ L) (krep : K rep = 6) {now : Nat} (hnow : now ∈ L) (know : K now = 10) {dr : Nat} (hdr : dr ∈ L) (kdr : K dr = 13) {sv : Nat} (hsv : sv ∈ L) (ksv : K sv = 14) {tr : Nat} (htr : tr ∈ L) (ktr : K tr = 15) {mo : Nat} (hmo : mo ∈ L) (kmo : K mo = 12) {bu : Nat} (hbu : bu ∈ L) (kbu : K bu = 150) {sr : Nat} (hsr : sr ∈ L) (ksr : K sr = 151) {sd : Nat} (hsd : sd ∈ L) (ksd : K sd = 152) {as : Nat} (has : as ∈ L) (kas : K as = 153) {aw : Nat} (haw : aw ∈ L) (kaw : K aw = 154) {pa : Nat} (hpa : pa ∈ L) (kpa : K pa = 155) {nm : Nat} (hnm : nm ∈ L) (knm : K nm = 156) {snm : Nat} (hsnm : snm ∈ L) (ksnm : K snm = 157) {anm : Nat} (hanm : anm ∈ L) (kanm : K anm = 158) {out : Nat} (hout : out ∈ L) (kout : K out = 168) {outD : Nat} (houtD : outD ∈ L) (koutD : K outD = 169) (hf0 : q_z f x 9 = 0) (hf1 : q_z f src 1 = 0) (hf2 : q_z f src 2 = 0) (hf3 : q_z f src 3 = (-1)) (hf4 : q_z f hist 1 = 0) (hf5 : q_z f hist 2 = 0) (hf6 : q_z f rep 1 = 0) (hf7 : q_z f now 3 = 0) (hf8 : q_z f now 4 = 0) (hf9 : q_z f now 5 = 0) (hf10 : q_z f now 6 = 12) (hf11 : q_z f now 10 = 3) (hf12 : q_z f now 11 = 0) (hf13 : q_z f now 12 = 0) (hf14 : q_z f mo 2 = 0) (hf15 : q_z f mo 8 = 0) (hf16 : q_z f mo 9 = (-1)) (hf17 : q_z f mo 10 = 0) (hf18 : q_z f mo 11 = (-1)) (hf19 : q_z f mo 21 = 0) (hf20 : q_z f mo 22 = 0) (hf21 : q_z f mo 40 = 0) (hf22 : q_z f sr 0 = 0) (hf23 : q_z f sr 1 = 0) (hf24 : q_z f sr 2 = 12) (hf25 : q_z f sr 3 = 0) (hf26 : q_z f sr 4 = 0) (hf27 : q_z f sr 5 = 1) (hf28 : q_z f sr 6 = 2) (hf29 : q_z f sr 7 = 5) (hf30 : q_z f sr 8 = 3) (hf31 : q_z f sr 9 = 0) (hr0 : q_r f x 0 = src) (hr1 : q_r f x 1 = rdr) (hr2 : q_r f x 2 = scr) (hr3 : q_r f x 3 = fc) (hr4 : q_r f x 4 = hist) (hr5 : q_r f x 5 = rep) (hr6 : q_r f x 6 = now) (hr7 : q_r f x 7 = dr) (hr8 : q_r f x 8 = sv) (hr9 : q_r f fc 0 = tr) (hr10 : q_r f mo 1 = bu) (hr11 : q_r f mo 13 = sr) (hr12 : q_r f mo 14 = sd) (hr13 : q_r f mo 15 = as) (hr14 : q_r f mo 16 = aw) (hr15 : q_r f mo 17 = pa) (hr16 : q_r f mo 18 = nm) (hr17 : q_r f mo 19 = snm) (hr18 : q_r f mo 20 = anm) (hl : lv_has ls 10 [(0, .ref b), (1, .ref x), (2, .ref mo), (3, .ref out), (4, .ref outD)]) : W p l e room_1 s m #[Value.ref b] below meth c H locs 1100 20000 (lw_Z below #[Value.ref b] s) (F0 m 25 ls []) := by
  have hXs := C0.2.2.2.2.2.2.1
  have hbl := C0.2.2.2.2.2.2.2.1
  have hbA := q_bA hbl
  obtain ⟨x0, rx0, ex0⟩ : ∃ z : Int, q_R z ∧ xs 0 = q_i z := ⟨_, q_rng _, (q_of _).symm⟩
  have lx0 := rx0.1
  have ux0 := rx0.2
  obtain ⟨x1, rx1, ex1⟩ : ∃ z : Int, q_R z ∧ xs 1 = q_i z := ⟨_, q_rng _, (q_of _).symm⟩
  have lx1 := rx1.1
  have ux1 := rx1.2
  obtain ⟨x2, rx2, ex2⟩ : ∃ z : Int, q_R z ∧ xs 2 = q_i z := ⟨_, q_rng _, (q_of _).symm⟩
  have lx2 := rx2.1
  have ux2 := rx2.2
  obtain ⟨x3, rx3, ex3⟩ : ∃ z : Int, q_R z ∧ xs 3 = q_i z := ⟨_, q_rng _, (q_of _).symm⟩
  have lx3 := rx3.1
  have ux3 := rx3.2
  obtain ⟨x4, rx4, ex4⟩ : ∃ z : Int, q_R z ∧ xs 4 = q_i z := ⟨_, q_rng _, (q_of _).symm⟩
  have lx4 := rx4.1
  have ux4 := rx4.2
  obtain ⟨x5, rx5, ex5⟩ : ∃ z : Int, q_R z ∧ xs 5 = q_i z := ⟨_, q_rng _, (q_of _).symm⟩
  have lx5 := rx5.1
  have ux5 := rx5.2
  refine q_iconst cx dL_law_25 ?_
  refine lv_istore (lv' := [(5, .int (q_i 0)), (0, .ref b), (1, .ref x), (2, .ref mo), (3, .ref out), (4, .ref outD)]) cx.1 cx.2.1 dL_law_26 hl (by decide) rfl (fun ls hl => ?_)
  refine lv_iload cx.1 cx.2.1 dL_law_28 (lv_at hl 0 rfl) ?_
  refine q_ald_n cx dL_law_30 rfl (lv_at hl 1 rfl) ?_
  refine va_slen cx.1 cx.2.1 hXs hbl hbA hB.1.2.2.2 dL_law_31 ?_
  rw [show Int32.ofNat 6 = q_i 6 from by decide]
  refine q_bipush cx dL_law_32 rfl ?_
  refine q_isub cx dL_law_34 ?_
  refine q_icgt (tgt := 2400) cx ⟨by decide, by decide⟩ ⟨by decide, by decide⟩ dL_law_35 (by decide) (fun c1 => ?_) (fun c1 => ?_)
  · exact absurd c1 (by omega)
  · refine q_ald_n cx dL_law_38 rfl (lv_at hl 1 rfl) ?_
    refine lv_iload cx.1 cx.2.1 dL_law_39 (lv_at hl 0 rfl) ?_
    refine va_sld cx.1 cx.2.1 hXs hbl hbA hB.1.2.2.2 (q_in (by decide) (by decide) (by decide)) dL_law_41 ?_
    rw [show (q_i 0).toNatClampNeg = 0 from by decide, ex0]
    refine q_bipush cx dL_law_42 rfl ?_
    refine q_iandm cx 6 (by decide) rfl dL_law_44 (fun y2 ly2 uy2 ey2 => ?_)
    by_cases cs0 : y2 = 0
    · refine lv_tableIn (tgt := 220) cx.1 cx.2.1 dL_law_45 (by rw [q_toInt ⟨by omega, by omega⟩]; omega) (by rw [q_toInt ⟨by omega, by omega⟩]; omega) (off := 175) (by rw [q_toInt ⟨by omega, by omega⟩, cs0]; rfl) (by decide) ?_
      exact law_c220 hfl C0 cx hN hLA hX hB hx kx hsrc ksrc hrdr krdr hscr kscr hfc kfc hhist khist hrep krep hnow know hdr kdr hsv ksv htr ktr hmo kmo hbu kbu hsr ksr hsd ksd has kas haw kaw hpa kpa hnm knm hsnm ksnm hanm kanm hout kout houtD koutD hf0 hf1 hf2 hf3 hf4 hf5 hf6 hf7 hf8 hf9 hf10 hf11 hf12 hf13 hf14 hf15 hf16 hf17 hf18 hf19 hf20 hf21 hf22 hf23 hf24 hf25 hf26 hf27 hf28 hf29 hf30 hf31 hr0 hr1 hr2 hr3 hr4 hr5 hr6 hr7 hr8 hr9 hr10 hr11 hr12 hr13 hr14 hr15 hr16 hr17 hr18 hl
    by_cases cs1 : y2 = 1
    · refine lv_tableIn (tgt := 324) cx.1 cx.2.1 dL_law_45 (by rw [q_toInt ⟨by omega, by omega⟩]; omega) (by rw [q_toInt ⟨by omega, by omega⟩]; omega) (off := 279) (by rw [q_toInt ⟨by omega, by omega⟩, cs1]; rfl) (by decide) ?_
      exact law_c324 hfl C0 cx hN hLA hX hB hx kx hsrc ksrc hrdr krdr hscr kscr hfc kfc hhist khist hrep krep hnow know hdr kdr hsv ksv htr ktr hmo kmo hbu kbu hsr ksr hsd ksd has kas haw kaw hpa kpa hnm knm hsnm ksnm hanm kanm hout kout houtD koutD hf0 hf1 hf2 hf3 hf4 hf5 hf6 hf7 hf8 hf9 hf10 hf11 hf12 hf13 hf14 hf15 hf16 hf17 hf18 hf19 hf20 hf21 hf22 hf23 hf24 hf25 hf26 hf27 hf28 hf29 hf30 hf31 hr0 hr1 hr2 hr3 hr4 hr5 hr6 hr7 hr8 hr9 hr10 hr11 hr12 hr13 hr14 hr15 hr16 hr17 hr18 hl
    by_cases cs2 : y2 = 2
    · refine lv_tableIn (tgt := 380) cx.1 cx.2.1 dL_law_45 (by rw [q_toInt ⟨by omega, by omega⟩]; omega) (by rw [q_toInt ⟨by omega, by omega⟩]; omega) (off := 335) (by rw [q_toInt ⟨by omega, by omega⟩, cs2]; rfl) (by decide) ?_
      exact law_c380 hfl C0 cx hN hLA hX hB hx kx hsrc ksrc hrdr krdr hscr kscr hfc kfc hhist khist hrep krep hnow know hdr kdr hsv ksv htr ktr hmo kmo hbu kbu hsr ksr hsd ksd has kas haw kaw hpa kpa hnm knm hsnm ksnm hanm kanm hout kout houtD koutD hf0 hf1 hf2 hf3 hf4 hf5 hf6 hf7 hf8 hf9 hf10 hf11 hf12 hf13 hf14 hf15 hf16 hf17 hf18 hf19 hf20 hf21 hf22 hf23 hf24 hf25 hf26 hf27 hf28 hf29 hf30 hf31 hr0 hr1 hr2 hr3 hr4 hr5 hr6 hr7 hr8 hr9 hr10 hr11 hr12 hr13 hr14 hr15 hr16 hr17 hr18 hl
    by_cases cs3 : y2 = 3
    · refine lv_tableIn (tgt := 424) cx.1 cx.2.1 dL_law_45 (by rw [q_toInt ⟨by omega, by omega⟩]; omega) (by rw [q_toInt ⟨by omega, by omega⟩]; omega) (off := 379) (by rw [q_toInt ⟨by omega, by omega⟩, cs3]; rfl) (by decide) ?_
      exact law_c424 hfl C0 cx hN hLA hX hB hx kx hsrc ksrc hrdr krdr hscr kscr hfc kfc hhist khist hrep krep hnow know hdr kdr hsv ksv htr ktr hmo kmo hbu kbu hsr ksr hsd ksd has kas haw kaw hpa kpa hnm knm hsnm ksnm hanm kanm hout kout houtD koutD hf0 hf1 hf2 hf3 hf4 hf5 hf6 hf7 hf8 hf9 hf10 hf11 hf12 hf13 hf14 hf15 hf16 hf17 hf18 hf19 hf20 hf21 hf22 hf23 hf24 hf25 hf26 hf27 hf28 hf29 hf30 hf31 hr0 hr1 hr2 hr3 hr4 hr5 hr6 hr7 hr8 hr9 hr10 hr11 hr12 hr13 hr14 hr15 hr16 hr17 hr18 hl
    by_cases cs4 : y2 = 4
    · refine lv_tableIn (tgt := 468) cx.1 cx.2.1 dL_law_45 (by rw [q_toInt ⟨by omega, by omega⟩]; omega) (by rw [q_toInt ⟨by omega, by omega⟩]; omega) (off := 423) (by rw [q_toInt ⟨by omega, by omega⟩, cs4]; rfl) (by decide) ?_
      exact law_c468 hfl C0 cx hN hLA hX hB hx kx hsrc ksrc hrdr krdr hscr kscr hfc kfc hhist khist hrep krep hnow know hdr kdr hsv ksv htr ktr hmo kmo hbu kbu hsr ksr hsd ksd has kas haw kaw hpa kpa hnm knm hsnm ksnm hanm kanm hout kout houtD koutD hf0 hf1 hf2 hf3 hf4 hf5 hf6 hf7 hf8 hf9 hf10 hf11 hf12 hf13 hf14 hf15 hf16 hf17 hf18 hf19 hf20 hf21 hf22 hf23 hf24 hf25 hf26 hf27 hf28 hf29 hf30 hf31 hr0 hr1 hr2 hr3 hr4 hr5 hr6 hr7 hr8 hr9 hr10 hr11 hr12 hr13 hr14 hr15 hr16 hr17 hr18 hl
    by_cases cs5 : y2 = 5
    · refine lv_tableIn (tgt := 481) cx.1 cx.2.1 dL_law_45 (by rw [q_toInt ⟨by omega, by omega⟩]; omega) (by rw [q_toInt ⟨by omega, by omega⟩]; omega) (off := 436) (by rw [q_toInt ⟨by omega, by omega⟩, cs5]; rfl) (by decide) ?_
      exact law_c481 hfl C0 cx hN hLA hX hB hx kx hsrc ksrc hrdr krdr hscr kscr hfc kfc hhist khist hrep krep hnow know hdr kdr hsv ksv htr ktr hmo kmo hbu kbu hsr ksr hsd ksd has kas haw kaw hpa kpa hnm knm hsnm ksnm hanm kanm hout kout houtD koutD hf0 hf1 hf2 hf3 hf4 hf5 hf6 hf7 hf8 hf9 hf10 hf11 hf12 hf13 hf14 hf15 hf16 hf17 hf18 hf19 hf20 hf21 hf22 hf23 hf24 hf25 hf26 hf27 hf28 hf29 hf30 hf31 hr0 hr1 hr2 hr3 hr4 hr5 hr6 hr7 hr8 hr9 hr10 hr11 hr12 hr13 hr14 hr15 hr16 hr17 hr18 hl
    by_cases cs6 : y2 = 6
    · refine lv_tableIn (tgt := 494) cx.1 cx.2.1 dL_law_45 (by rw [q_toInt ⟨by omega, by omega⟩]; omega) (by rw [q_toInt ⟨by omega, by omega⟩]; omega) (off := 449) (by rw [q_toInt ⟨by omega, by omega⟩, cs6]; rfl) (by decide) ?_
      exact law_c494 hfl C0 cx hN hLA hX hB hx kx hsrc ksrc hrdr krdr hscr kscr hfc kfc hhist khist hrep krep hnow know hdr kdr hsv ksv htr ktr hmo kmo hbu kbu hsr ksr hsd ksd has kas haw kaw hpa kpa hnm knm hsnm ksnm hanm kanm hout kout houtD koutD hf0 hf1 hf2 hf3 hf4 hf5 hf6 hf7 hf8 hf9 hf10 hf11 hf12 hf13 hf14 hf15 hf16 hf17 hf18 hf19 hf20 hf21 hf22 hf23 hf24 hf25 hf26 hf27 hf28 hf29 hf30 hf31 hr0 hr1 hr2 hr3 hr4 hr5 hr6 hr7 hr8 hr9 hr10 hr11 hr12 hr13 hr14 hr15 hr16 hr17 hr18 hl
    by_cases cs7 : y2 = 7
    · refine lv_tableIn (tgt := 550) cx.1 cx.2.1 dL_law_45 (by rw [q_toInt ⟨by omega, by omega⟩]; omega) (by rw [q_toInt ⟨by omega, by omega⟩]; omega) (off := 505) (by rw [q_toInt ⟨by omega, by omega⟩, cs7]; rfl) (by decide) ?_
      exact law_c550 hfl C0 cx hN hLA hX hB hx kx hsrc ksrc hrdr krdr hscr kscr hfc kfc hhist khist hrep krep hnow know hdr kdr hsv ksv htr ktr hmo kmo hbu kbu hsr ksr hsd ksd has kas haw kaw hpa kpa hnm knm hsnm ksnm hanm kanm hout kout houtD koutD hf0 hf1 hf2 hf3 hf4 hf5 hf6 hf7 hf8 hf9 hf10 hf11 hf12 hf13 hf14 hf15 hf16 hf17 hf18 hf19 hf20 hf21 hf22 hf23 hf24 hf25 hf26 hf27 hf28 hf29 hf30 hf31 hr0 hr1 hr2 hr3 hr4 hr5 hr6 hr7 hr8 hr9 hr10 hr11 hr12 hr13 hr14 hr15 hr16 hr17 hr18 hl
    by_cases cs8 : y2 = 8
    · refine lv_tableIn (tgt := 618) cx.1 cx.2.1 dL_law_45 (by rw [q_toInt ⟨by omega, by omega⟩]; omega) (by rw [q_toInt ⟨by omega, by omega⟩]; omega) (off := 573) (by rw [q_toInt ⟨by omega, by omega⟩, cs8]; rfl) (by decide) ?_
      exact law_c618 hfl C0 cx hN hLA hX hB hx kx hsrc ksrc hrdr krdr hscr kscr hfc kfc hhist khist hrep krep hnow know hdr kdr hsv ksv htr ktr hmo kmo hbu kbu hsr ksr hsd ksd has kas haw kaw hpa kpa hnm knm hsnm ksnm hanm kanm hout kout houtD koutD hf0 hf1 hf2 hf3 hf4 hf5 hf6 hf7 hf8 hf9 hf10 hf11 hf12 hf13 hf14 hf15 hf16 hf17 hf18 hf19 hf20 hf21 hf22 hf23 hf24 hf25 hf26 hf27 hf28 hf29 hf30 hf31 hr0 hr1 hr2 hr3 hr4 hr5 hr6 hr7 hr8 hr9 hr10 hr11 hr12 hr13 hr14 hr15 hr16 hr17 hr18 hl
    by_cases cs9 : y2 = 9
    · refine lv_tableIn (tgt := 686) cx.1 cx.2.1 dL_law_45 (by rw [q_toInt ⟨by omega, by omega⟩]; omega) (by rw [q_toInt ⟨by omega, by omega⟩]; omega) (off := 641) (by rw [q_toInt ⟨by omega, by omega⟩, cs9]; rfl) (by decide) ?_
      exact law_c686 hfl C0 cx hN hLA hX hB hx kx hsrc ksrc hrdr krdr hscr kscr hfc kfc hhist khist hrep krep hnow know hdr kdr hsv ksv htr ktr hmo kmo hbu kbu hsr ksr hsd ksd has kas haw kaw hpa kpa hnm knm hsnm ksnm hanm kanm hout kout houtD koutD hf0 hf1 hf2 hf3 hf4 hf5 hf6 hf7 hf8 hf9 hf10 hf11 hf12 hf13 hf14 hf15 hf16 hf17 hf18 hf19 hf20 hf21 hf22 hf23 hf24 hf25 hf26 hf27 hf28 hf29 hf30 hf31 hr0 hr1 hr2 hr3 hr4 hr5 hr6 hr7 hr8 hr9 hr10 hr11 hr12 hr13 hr14 hr15 hr16 hr17 hr18 hl
    by_cases cs10 : y2 = 10
    · refine lv_tableIn (tgt := 754) cx.1 cx.2.1 dL_law_45 (by rw [q_toInt ⟨by omega, by omega⟩]; omega) (by rw [q_toInt ⟨by omega, by omega⟩]; omega) (off := 709) (by rw [q_toInt ⟨by omega, by omega⟩, cs10]; rfl) (by decide) ?_
      exact law_c754 hfl C0 cx hN hLA hX hB hx kx hsrc ksrc hrdr krdr hscr kscr hfc kfc hhist khist hrep krep hnow know hdr kdr hsv ksv htr ktr hmo kmo hbu kbu hsr ksr hsd ksd has kas haw kaw hpa kpa hnm knm hsnm ksnm hanm kanm hout kout houtD koutD hf0 hf1 hf2 hf3 hf4 hf5 hf6 hf7 hf8 hf9 hf10 hf11 hf12 hf13 hf14 hf15 hf16 hf17 hf18 hf19 hf20 hf21 hf22 hf23 hf24 hf25 hf26 hf27 hf28 hf29 hf30 hf31 hr0 hr1 hr2 hr3 hr4 hr5 hr6 hr7 hr8 hr9 hr10 hr11 hr12 hr13 hr14 hr15 hr16 hr17 hr18 hl
    by_cases cs11 : y2 = 11
    · refine lv_tableIn (tgt := 822) cx.1 cx.2.1 dL_law_45 (by rw [q_toInt ⟨by omega, by omega⟩]; omega) (by rw [q_toInt ⟨by omega, by omega⟩]; omega) (off := 777) (by rw [q_toInt ⟨by omega, by omega⟩, cs11]; rfl) (by decide) ?_
      exact law_c822 hfl C0 cx hN hLA hX hB hx kx hsrc ksrc hrdr krdr hscr kscr hfc kfc hhist khist hrep krep hnow know hdr kdr hsv ksv htr ktr hmo kmo hbu kbu hsr ksr hsd ksd has kas haw kaw hpa kpa hnm knm hsnm ksnm hanm kanm hout kout houtD koutD hf0 hf1 hf2 hf3 hf4 hf5 hf6 hf7 hf8 hf9 hf10 hf11 hf12 hf13 hf14 hf15 hf16 hf17 hf18 hf19 hf20 hf21 hf22 hf23 hf24 hf25 hf26 hf27 hf28 hf29 hf30 hf31 hr0 hr1 hr2 hr3 hr4 hr5 hr6 hr7 hr8 hr9 hr10 hr11 hr12 hr13 hr14 hr15 hr16 hr17 hr18 hl
    by_cases cs12 : y2 = 12
    · refine lv_tableIn (tgt := 897) cx.1 cx.2.1 dL_law_45 (by rw [q_toInt ⟨by omega, by omega⟩]; omega) (by rw [q_toInt ⟨by omega, by omega⟩]; omega) (off := 852) (by rw [q_toInt ⟨by omega, by omega⟩, cs12]; rfl) (by decide) ?_
      exact law_c897 hfl C0 cx hN hLA hX hB hx kx hsrc ksrc hrdr krdr hscr kscr hfc kfc hhist khist hrep krep hnow know hdr kdr hsv ksv htr ktr hmo kmo hbu kbu hsr ksr hsd ksd has kas haw kaw hpa kpa hnm knm hsnm ksnm hanm kanm hout kout houtD koutD hf0 hf1 hf2 hf3 hf4 hf5 hf6 hf7 hf8 hf9 hf10 hf11 hf12 hf13 hf14 hf15 hf16 hf17 hf18 hf19 hf20 hf21 hf22 hf23 hf24 hf25 hf26 hf27 hf28 hf29 hf30 hf31 hr0 hr1 hr2 hr3 hr4 hr5 hr6 hr7 hr8 hr9 hr10 hr11 hr12 hr13 hr14 hr15 hr16 hr17 hr18 hl
    by_cases cs13 : y2 = 13
    · refine lv_tableIn (tgt := 975) cx.1 cx.2.1 dL_law_45 (by rw [q_toInt ⟨by omega, by omega⟩]; omega) (by rw [q_toInt ⟨by omega, by omega⟩]; omega) (off := 930) (by rw [q_toInt ⟨by omega, by omega⟩, cs13]; rfl) (by decide) ?_
      exact law_c975 hfl C0 cx hN hLA hX hB hx kx hsrc ksrc hrdr krdr hscr kscr hfc kfc hhist khist hrep krep hnow know hdr kdr hsv ksv htr ktr hmo kmo hbu kbu hsr ksr hsd ksd has kas haw kaw hpa kpa hnm knm hsnm ksnm hanm kanm hout kout houtD koutD hf0 hf1 hf2 hf3 hf4 hf5 hf6 hf7 hf8 hf9 hf10 hf11 hf12 hf13 hf14 hf15 hf16 hf17 hf18 hf19 hf20 hf21 hf22 hf23 hf24 hf25 hf26 hf27 hf28 hf29 hf30 hf31 hr0 hr1 hr2 hr3 hr4 hr5 hr6 hr7 hr8 hr9 hr10 hr11 hr12 hr13 hr14 hr15 hr16 hr17 hr18 hl
    by_cases cs14 : y2 = 14
    · refine lv_tableIn (tgt := 1016) cx.1 cx.2.1 dL_law_45 (by rw [q_toInt ⟨by omega, by omega⟩]; omega) (by rw [q_toInt ⟨by omega, by omega⟩]; omega) (off := 971) (by rw [q_toInt ⟨by omega, by omega⟩, cs14]; rfl) (by decide) ?_
      exact law_c1016 hfl C0 cx hN hLA hX hB hx kx hsrc ksrc hrdr krdr hscr kscr hfc kfc hhist khist hrep krep hnow know hdr kdr hsv ksv htr ktr hmo kmo hbu kbu hsr ksr hsd ksd has kas haw kaw hpa kpa hnm knm hsnm ksnm hanm kanm hout kout houtD koutD hf0 hf1 hf2 hf3 hf4 hf5 hf6 hf7 hf8 hf9 hf10 hf11 hf12 hf13 hf14 hf15 hf16 hf17 hf18 hf19 hf20 hf21 hf22 hf23 hf24 hf25 hf26 hf27 hf28 hf29 hf30 hf31 hr0 hr1 hr2 hr3 hr4 hr5 hr6 hr7 hr8 hr9 hr10 hr11 hr12 hr13 hr14 hr15 hr16 hr17 hr18 hl
    by_cases cs15 : y2 = 15
    · refine lv_tableIn (tgt := 1072) cx.1 cx.2.1 dL_law_45 (by rw [q_toInt ⟨by omega, by omega⟩]; omega) (by rw [q_toInt ⟨by omega, by omega⟩]; omega) (off := 1027) (by rw [q_toInt ⟨by omega, by omega⟩, cs15]; rfl) (by decide) ?_
      exact law_c1072 hfl C0 cx hN hLA hX hB hx kx hsrc ksrc hrdr krdr hscr kscr hfc kfc hhist khist hrep krep hnow know hdr kdr hsv ksv htr ktr hmo kmo hbu kbu hsr ksr hsd ksd has kas haw kaw hpa kpa hnm knm hsnm ksnm hanm kanm hout kout houtD koutD hf0 hf1 hf2 hf3 hf4 hf5 hf6 hf7 hf8 hf9 hf10 hf11 hf12 hf13 hf14 hf15 hf16 hf17 hf18 hf19 hf20 hf21 hf22 hf23 hf24 hf25 hf26 hf27 hf28 hf29 hf30 hf31 hr0 hr1 hr2 hr3 hr4 hr5 hr6 hr7 hr8 hr9 hr10 hr11 hr12 hr13 hr14 hr15 hr16 hr17 hr18 hl
    by_cases cs16 : y2 = 16
    · refine lv_tableIn (tgt := 1140) cx.1 cx.2.1 dL_law_45 (by rw [q_toInt ⟨by omega, by omega⟩]; omega) (by rw [q_toInt ⟨by omega, by omega⟩]; omega) (off := 1095) (by rw [q_toInt ⟨by omega, by omega⟩, cs16]; rfl) (by decide) ?_
      exact law_c1140 hfl C0 cx hN hLA hX hB hx kx hsrc ksrc hrdr krdr hscr kscr hfc kfc hhist khist hrep krep hnow know hdr kdr hsv ksv htr ktr hmo kmo hbu kbu hsr ksr hsd ksd has kas haw kaw hpa kpa hnm knm hsnm ksnm hanm kanm hout kout houtD koutD hf0 hf1 hf2 hf3 hf4 hf5 hf6 hf7 hf8 hf9 hf10 hf11 hf12 hf13 hf14 hf15 hf16 hf17 hf18 hf19 hf20 hf21 hf22 hf23 hf24 hf25 hf26 hf27 hf28 hf29 hf30 hf31 hr0 hr1 hr2 hr3 hr4 hr5 hr6 hr7 hr8 hr9 hr10 hr11 hr12 hr13 hr14 hr15 hr16 hr17 hr18 hl
    by_cases cs17 : y2 = 17
    · refine lv_tableIn (tgt := 1153) cx.1 cx.2.1 dL_law_45 (by rw [q_toInt ⟨by omega, by omega⟩]; omega) (by rw [q_toInt ⟨by omega, by omega⟩]; omega) (off := 1108) (by rw [q_toInt ⟨by omega, by omega⟩, cs17]; rfl) (by decide) ?_
      exact law_c1153 hfl C0 cx hN hLA hX hB hx kx hsrc ksrc hrdr krdr hscr kscr hfc kfc hhist khist hrep krep hnow know hdr kdr hsv ksv htr ktr hmo kmo hbu kbu hsr ksr hsd ksd has kas haw kaw hpa kpa hnm knm hsnm ksnm hanm kanm hout kout houtD koutD hf0 hf1 hf2 hf3 hf4 hf5 hf6 hf7 hf8 hf9 hf10 hf11 hf12 hf13 hf14 hf15 hf16 hf17 hf18 hf19 hf20 hf21 hf22 hf23 hf24 hf25 hf26 hf27 hf28 hf29 hf30 hf31 hr0 hr1 hr2 hr3 hr4 hr5 hr6 hr7 hr8 hr9 hr10 hr11 hr12 hr13 hr14 hr15 hr16 hr17 hr18 hl
    by_cases cs18 : y2 = 18
    · refine lv_tableIn (tgt := 1166) cx.1 cx.2.1 dL_law_45 (by rw [q_toInt ⟨by omega, by omega⟩]; omega) (by rw [q_toInt ⟨by omega, by omega⟩]; omega) (off := 1121) (by rw [q_toInt ⟨by omega, by omega⟩, cs18]; rfl) (by decide) ?_
      exact law_c1166 hfl C0 cx hN hLA hX hB hx kx hsrc ksrc hrdr krdr hscr kscr hfc kfc hhist khist hrep krep hnow know hdr kdr hsv ksv htr ktr hmo kmo hbu kbu hsr ksr hsd ksd has kas haw kaw hpa kpa hnm knm hsnm ksnm hanm kanm hout kout houtD koutD hf0 hf1 hf2 hf3 hf4 hf5 hf6 hf7 hf8 hf9 hf10 hf11 hf12 hf13 hf14 hf15 hf16 hf17 hf18 hf19 hf20 hf21 hf22 hf23 hf24 hf25 hf26 hf27 hf28 hf29 hf30 hf31 hr0 hr1 hr2 hr3 hr4 hr5 hr6 hr7 hr8 hr9 hr10 hr11 hr12 hr13 hr14 hr15 hr16 hr17 hr18 hl
    by_cases cs19 : y2 = 19
    · refine lv_tableIn (tgt := 1234) cx.1 cx.2.1 dL_law_45 (by rw [q_toInt ⟨by omega, by omega⟩]; omega) (by rw [q_toInt ⟨by omega, by omega⟩]; omega) (off := 1189) (by rw [q_toInt ⟨by omega, by omega⟩, cs19]; rfl) (by decide) ?_
      exact law_c1234 hfl C0 cx hN hLA hX hB hx kx hsrc ksrc hrdr krdr hscr kscr hfc kfc hhist khist hrep krep hnow know hdr kdr hsv ksv htr ktr hmo kmo hbu kbu hsr ksr hsd ksd has kas haw kaw hpa kpa hnm knm hsnm ksnm hanm kanm hout kout houtD koutD hf0 hf1 hf2 hf3 hf4 hf5 hf6 hf7 hf8 hf9 hf10 hf11 hf12 hf13 hf14 hf15 hf16 hf17 hf18 hf19 hf20 hf21 hf22 hf23 hf24 hf25 hf26 hf27 hf28 hf29 hf30 hf31 hr0 hr1 hr2 hr3 hr4 hr5 hr6 hr7 hr8 hr9 hr10 hr11 hr12 hr13 hr14 hr15 hr16 hr17 hr18 hl
    by_cases cs20 : y2 = 20
    · refine lv_tableIn (tgt := 1302) cx.1 cx.2.1 dL_law_45 (by rw [q_toInt ⟨by omega, by omega⟩]; omega) (by rw [q_toInt ⟨by omega, by omega⟩]; omega) (off := 1257) (by rw [q_toInt ⟨by omega, by omega⟩, cs20]; rfl) (by decide) ?_
      exact law_c1302 hfl C0 cx hN hLA hX hB hx kx hsrc ksrc hrdr krdr hscr kscr hfc kfc hhist khist hrep krep hnow know hdr kdr hsv ksv htr ktr hmo kmo hbu kbu hsr ksr hsd ksd has kas haw kaw hpa kpa hnm knm hsnm ksnm hanm kanm hout kout houtD koutD hf0 hf1 hf2 hf3 hf4 hf5 hf6 hf7 hf8 hf9 hf10 hf11 hf12 hf13 hf14 hf15 hf16 hf17 hf18 hf19 hf20 hf21 hf22 hf23 hf24 hf25 hf26 hf27 hf28 hf29 hf30 hf31 hr0 hr1 hr2 hr3 hr4 hr5 hr6 hr7 hr8 hr9 hr10 hr11 hr12 hr13 hr14 hr15 hr16 hr17 hr18 hl
    by_cases cs21 : y2 = 21
    · refine lv_tableIn (tgt := 1315) cx.1 cx.2.1 dL_law_45 (by rw [q_toInt ⟨by omega, by omega⟩]; omega) (by rw [q_toInt ⟨by omega, by omega⟩]; omega) (off := 1270) (by rw [q_toInt ⟨by omega, by omega⟩, cs21]; rfl) (by decide) ?_
      exact law_c1315 hfl C0 cx hN hLA hX hB hx kx hsrc ksrc hrdr krdr hscr kscr hfc kfc hhist khist hrep krep hnow know hdr kdr hsv ksv htr ktr hmo kmo hbu kbu hsr ksr hsd ksd has kas haw kaw hpa kpa hnm knm hsnm ksnm hanm kanm hout kout houtD koutD hf0 hf1 hf2 hf3 hf4 hf5 hf6 hf7 hf8 hf9 hf10 hf11 hf12 hf13 hf14 hf15 hf16 hf17 hf18 hf19 hf20 hf21 hf22 hf23 hf24 hf25 hf26 hf27 hf28 hf29 hf30 hf31 hr0 hr1 hr2 hr3 hr4 hr5 hr6 hr7 hr8 hr9 hr10 hr11 hr12 hr13 hr14 hr15 hr16 hr17 hr18 hl
    by_cases cs22 : y2 = 22
    · refine lv_tableIn (tgt := 1371) cx.1 cx.2.1 dL_law_45 (by rw [q_toInt ⟨by omega, by omega⟩]; omega) (by rw [q_toInt ⟨by omega, by omega⟩]; omega) (off := 1326) (by rw [q_toInt ⟨by omega, by omega⟩, cs22]; rfl) (by decide) ?_
      exact law_c1371 hfl C0 cx hN hLA hX hB hx kx hsrc ksrc hrdr krdr hscr kscr hfc kfc hhist khist hrep krep hnow know hdr kdr hsv ksv htr ktr hmo kmo hbu kbu hsr ksr hsd ksd has kas haw kaw hpa kpa hnm knm hsnm ksnm hanm kanm hout kout houtD koutD hf0 hf1 hf2 hf3 hf4 hf5 hf6 hf7 hf8 hf9 hf10 hf11 hf12 hf13 hf14 hf15 hf16 hf17 hf18 hf19 hf20 hf21 hf22 hf23 hf24 hf25 hf26 hf27 hf28 hf29 hf30 hf31 hr0 hr1 hr2 hr3 hr4 hr5 hr6 hr7 hr8 hr9 hr10 hr11 hr12 hr13 hr14 hr15 hr16 hr17 hr18 hl
    by_cases cs23 : y2 = 23
    · refine lv_tableIn (tgt := 1467) cx.1 cx.2.1 dL_law_45 (by rw [q_toInt ⟨by omega, by omega⟩]; omega) (by rw [q_toInt ⟨by omega, by omega⟩]; omega) (off := 1422) (by rw [q_toInt ⟨by omega, by omega⟩, cs23]; rfl) (by decide) ?_
      exact law_c1467 hfl C0 cx hN hLA hX hB hx kx hsrc ksrc hrdr krdr hscr kscr hfc kfc hhist khist hrep krep hnow know hdr kdr hsv ksv htr ktr hmo kmo hbu kbu hsr ksr hsd ksd has kas haw kaw hpa kpa hnm knm hsnm ksnm hanm kanm hout kout houtD koutD hf0 hf1 hf2 hf3 hf4 hf5 hf6 hf7 hf8 hf9 hf10 hf11 hf12 hf13 hf14 hf15 hf16 hf17 hf18 hf19 hf20 hf21 hf22 hf23 hf24 hf25 hf26 hf27 hf28 hf29 hf30 hf31 hr0 hr1 hr2 hr3 hr4 hr5 hr6 hr7 hr8 hr9 hr10 hr11 hr12 hr13 hr14 hr15 hr16 hr17 hr18 hl
    by_cases cs24 : y2 = 24
    · refine lv_tableIn (tgt := 1523) cx.1 cx.2.1 dL_law_45 (by rw [q_toInt ⟨by omega, by omega⟩]; omega) (by rw [q_toInt ⟨by omega, by omega⟩]; omega) (off := 1478) (by rw [q_toInt ⟨by omega, by omega⟩, cs24]; rfl) (by decide) ?_
      exact law_c1523 hfl C0 cx hN hLA hX hB hx kx hsrc ksrc hrdr krdr hscr kscr hfc kfc hhist khist hrep krep hnow know hdr kdr hsv ksv htr ktr hmo kmo hbu kbu hsr ksr hsd ksd has kas haw kaw hpa kpa hnm knm hsnm ksnm hanm kanm hout kout houtD koutD hf0 hf1 hf2 hf3 hf4 hf5 hf6 hf7 hf8 hf9 hf10 hf11 hf12 hf13 hf14 hf15 hf16 hf17 hf18 hf19 hf20 hf21 hf22 hf23 hf24 hf25 hf26 hf27 hf28 hf29 hf30 hf31 hr0 hr1 hr2 hr3 hr4 hr5 hr6 hr7 hr8 hr9 hr10 hr11 hr12 hr13 hr14 hr15 hr16 hr17 hr18 hl
    by_cases cs25 : y2 = 25
    · refine lv_tableIn (tgt := 1591) cx.1 cx.2.1 dL_law_45 (by rw [q_toInt ⟨by omega, by omega⟩]; omega) (by rw [q_toInt ⟨by omega, by omega⟩]; omega) (off := 1546) (by rw [q_toInt ⟨by omega, by omega⟩, cs25]; rfl) (by decide) ?_
      exact law_c1591 hfl C0 cx hN hLA hX hB hx kx hsrc ksrc hrdr krdr hscr kscr hfc kfc hhist khist hrep krep hnow know hdr kdr hsv ksv htr ktr hmo kmo hbu kbu hsr ksr hsd ksd has kas haw kaw hpa kpa hnm knm hsnm ksnm hanm kanm hout kout houtD koutD hf0 hf1 hf2 hf3 hf4 hf5 hf6 hf7 hf8 hf9 hf10 hf11 hf12 hf13 hf14 hf15 hf16 hf17 hf18 hf19 hf20 hf21 hf22 hf23 hf24 hf25 hf26 hf27 hf28 hf29 hf30 hf31 hr0 hr1 hr2 hr3 hr4 hr5 hr6 hr7 hr8 hr9 hr10 hr11 hr12 hr13 hr14 hr15 hr16 hr17 hr18 hl
    by_cases cs26 : y2 = 26
    · refine lv_tableIn (tgt := 1604) cx.1 cx.2.1 dL_law_45 (by rw [q_toInt ⟨by omega, by omega⟩]; omega) (by rw [q_toInt ⟨by omega, by omega⟩]; omega) (off := 1559) (by rw [q_toInt ⟨by omega, by omega⟩, cs26]; rfl) (by decide) ?_
      exact law_c1604 hfl C0 cx hN hLA hX hB hx kx hsrc ksrc hrdr krdr hscr kscr hfc kfc hhist khist hrep krep hnow know hdr kdr hsv ksv htr ktr hmo kmo hbu kbu hsr ksr hsd ksd has kas haw kaw hpa kpa hnm knm hsnm ksnm hanm kanm hout kout houtD koutD hf0 hf1 hf2 hf3 hf4 hf5 hf6 hf7 hf8 hf9 hf10 hf11 hf12 hf13 hf14 hf15 hf16 hf17 hf18 hf19 hf20 hf21 hf22 hf23 hf24 hf25 hf26 hf27 hf28 hf29 hf30 hf31 hr0 hr1 hr2 hr3 hr4 hr5 hr6 hr7 hr8 hr9 hr10 hr11 hr12 hr13 hr14 hr15 hr16 hr17 hr18 hl
    by_cases cs27 : y2 = 27
    · refine lv_tableIn (tgt := 1660) cx.1 cx.2.1 dL_law_45 (by rw [q_toInt ⟨by omega, by omega⟩]; omega) (by rw [q_toInt ⟨by omega, by omega⟩]; omega) (off := 1615) (by rw [q_toInt ⟨by omega, by omega⟩, cs27]; rfl) (by decide) ?_
      exact law_c1660 hfl C0 cx hN hLA hX hB hx kx hsrc ksrc hrdr krdr hscr kscr hfc kfc hhist khist hrep krep hnow know hdr kdr hsv ksv htr ktr hmo kmo hbu kbu hsr ksr hsd ksd has kas haw kaw hpa kpa hnm knm hsnm ksnm hanm kanm hout kout houtD koutD hf0 hf1 hf2 hf3 hf4 hf5 hf6 hf7 hf8 hf9 hf10 hf11 hf12 hf13 hf14 hf15 hf16 hf17 hf18 hf19 hf20 hf21 hf22 hf23 hf24 hf25 hf26 hf27 hf28 hf29 hf30 hf31 hr0 hr1 hr2 hr3 hr4 hr5 hr6 hr7 hr8 hr9 hr10 hr11 hr12 hr13 hr14 hr15 hr16 hr17 hr18 hl
    by_cases cs28 : y2 = 28
    · refine lv_tableIn (tgt := 1728) cx.1 cx.2.1 dL_law_45 (by rw [q_toInt ⟨by omega, by omega⟩]; omega) (by rw [q_toInt ⟨by omega, by omega⟩]; omega) (off := 1683) (by rw [q_toInt ⟨by omega, by omega⟩, cs28]; rfl) (by decide) ?_
      exact law_c1728 hfl C0 cx hN hLA hX hB hx kx hsrc ksrc hrdr krdr hscr kscr hfc kfc hhist khist hrep krep hnow know hdr kdr hsv ksv htr ktr hmo kmo hbu kbu hsr ksr hsd ksd has kas haw kaw hpa kpa hnm knm hsnm ksnm hanm kanm hout kout houtD koutD hf0 hf1 hf2 hf3 hf4 hf5 hf6 hf7 hf8 hf9 hf10 hf11 hf12 hf13 hf14 hf15 hf16 hf17 hf18 hf19 hf20 hf21 hf22 hf23 hf24 hf25 hf26 hf27 hf28 hf29 hf30 hf31 hr0 hr1 hr2 hr3 hr4 hr5 hr6 hr7 hr8 hr9 hr10 hr11 hr12 hr13 hr14 hr15 hr16 hr17 hr18 hl
    by_cases cs29 : y2 = 29
    · refine lv_tableIn (tgt := 1784) cx.1 cx.2.1 dL_law_45 (by rw [q_toInt ⟨by omega, by omega⟩]; omega) (by rw [q_toInt ⟨by omega, by omega⟩]; omega) (off := 1739) (by rw [q_toInt ⟨by omega, by omega⟩, cs29]; rfl) (by decide) ?_
      exact law_c1784 hfl C0 cx hN hLA hX hB hx kx hsrc ksrc hrdr krdr hscr kscr hfc kfc hhist khist hrep krep hnow know hdr kdr hsv ksv htr ktr hmo kmo hbu kbu hsr ksr hsd ksd has kas haw kaw hpa kpa hnm knm hsnm ksnm hanm kanm hout kout houtD koutD hf0 hf1 hf2 hf3 hf4 hf5 hf6 hf7 hf8 hf9 hf10 hf11 hf12 hf13 hf14 hf15 hf16 hf17 hf18 hf19 hf20 hf21 hf22 hf23 hf24 hf25 hf26 hf27 hf28 hf29 hf30 hf31 hr0 hr1 hr2 hr3 hr4 hr5 hr6 hr7 hr8 hr9 hr10 hr11 hr12 hr13 hr14 hr15 hr16 hr17 hr18 hl
    by_cases cs30 : y2 = 30
    · refine lv_tableIn (tgt := 1892) cx.1 cx.2.1 dL_law_45 (by rw [q_toInt ⟨by omega, by omega⟩]; omega) (by rw [q_toInt ⟨by omega, by omega⟩]; omega) (off := 1847) (by rw [q_toInt ⟨by omega, by omega⟩, cs30]; rfl) (by decide) ?_
      exact law_c1892 hfl C0 cx hN hLA hX hB hx kx hsrc ksrc hrdr krdr hscr kscr hfc kfc hhist khist hrep krep hnow know hdr kdr hsv ksv htr ktr hmo kmo hbu kbu hsr ksr hsd ksd has kas haw kaw hpa kpa hnm knm hsnm ksnm hanm kanm hout kout houtD koutD hf0 hf1 hf2 hf3 hf4 hf5 hf6 hf7 hf8 hf9 hf10 hf11 hf12 hf13 hf14 hf15 hf16 hf17 hf18 hf19 hf20 hf21 hf22 hf23 hf24 hf25 hf26 hf27 hf28 hf29 hf30 hf31 hr0 hr1 hr2 hr3 hr4 hr5 hr6 hr7 hr8 hr9 hr10 hr11 hr12 hr13 hr14 hr15 hr16 hr17 hr18 hl
    by_cases cs31 : y2 = 31
    · refine lv_tableIn (tgt := 1960) cx.1 cx.2.1 dL_law_45 (by rw [q_toInt ⟨by omega, by omega⟩]; omega) (by rw [q_toInt ⟨by omega, by omega⟩]; omega) (off := 1915) (by rw [q_toInt ⟨by omega, by omega⟩, cs31]; rfl) (by decide) ?_
      exact law_c1960 hfl C0 cx hN hLA hX hB hx kx hsrc ksrc hrdr krdr hscr kscr hfc kfc hhist khist hrep krep hnow know hdr kdr hsv ksv htr ktr hmo kmo hbu kbu hsr ksr hsd ksd has kas haw kaw hpa kpa hnm knm hsnm ksnm hanm kanm hout kout houtD koutD hf0 hf1 hf2 hf3 hf4 hf5 hf6 hf7 hf8 hf9 hf10 hf11 hf12 hf13 hf14 hf15 hf16 hf17 hf18 hf19 hf20 hf21 hf22 hf23 hf24 hf25 hf26 hf27 hf28 hf29 hf30 hf31 hr0 hr1 hr2 hr3 hr4 hr5 hr6 hr7 hr8 hr9 hr10 hr11 hr12 hr13 hr14 hr15 hr16 hr17 hr18 hl
    by_cases cs32 : y2 = 32
    · refine lv_tableIn (tgt := 2063) cx.1 cx.2.1 dL_law_45 (by rw [q_toInt ⟨by omega, by omega⟩]; omega) (by rw [q_toInt ⟨by omega, by omega⟩]; omega) (off := 2018) (by rw [q_toInt ⟨by omega, by omega⟩, cs32]; rfl) (by decide) ?_
      exact law_c2063 hfl C0 cx hN hLA hX hB hx kx hsrc ksrc hrdr krdr hscr kscr hfc kfc hhist khist hrep krep hnow know hdr kdr hsv ksv htr ktr hmo kmo hbu kbu hsr ksr hsd ksd has kas haw kaw hpa kpa hnm knm hsnm ksnm hanm kanm hout kout houtD koutD hf0 hf1 hf2 hf3 hf4 hf5 hf6 hf7 hf8 hf9 hf10 hf11 hf12 hf13 hf14 hf15 hf16 hf17 hf18 hf19 hf20 hf21 hf22 hf23 hf24 hf25 hf26 hf27 hf28 hf29 hf30 hf31 hr0 hr1 hr2 hr3 hr4 hr5 hr6 hr7 hr8 hr9 hr10 hr11 hr12 hr13 hr14 hr15 hr16 hr17 hr18 hl
    by_cases cs33 : y2 = 33
    · refine lv_tableIn (tgt := 2131) cx.1 cx.2.1 dL_law_45 (by rw [q_toInt ⟨by omega, by omega⟩]; omega) (by rw [q_toInt ⟨by omega, by omega⟩]; omega) (off := 2086) (by rw [q_toInt ⟨by omega, by omega⟩, cs33]; rfl) (by decide) ?_
      exact law_c2131 hfl C0 cx hN hLA hX hB hx kx hsrc ksrc hrdr krdr hscr kscr hfc kfc hhist khist hrep krep hnow know hdr kdr hsv ksv htr ktr hmo kmo hbu kbu hsr ksr hsd ksd has kas haw kaw hpa kpa hnm knm hsnm ksnm hanm kanm hout kout houtD koutD hf0 hf1 hf2 hf3 hf4 hf5 hf6 hf7 hf8 hf9 hf10 hf11 hf12 hf13 hf14 hf15 hf16 hf17 hf18 hf19 hf20 hf21 hf22 hf23 hf24 hf25 hf26 hf27 hf28 hf29 hf30 hf31 hr0 hr1 hr2 hr3 hr4 hr5 hr6 hr7 hr8 hr9 hr10 hr11 hr12 hr13 hr14 hr15 hr16 hr17 hr18 hl
    by_cases cs34 : y2 = 34
    · refine lv_tableIn (tgt := 2199) cx.1 cx.2.1 dL_law_45 (by rw [q_toInt ⟨by omega, by omega⟩]; omega) (by rw [q_toInt ⟨by omega, by omega⟩]; omega) (off := 2154) (by rw [q_toInt ⟨by omega, by omega⟩, cs34]; rfl) (by decide) ?_
      exact law_c2199 hfl C0 cx hN hLA hX hB hx kx hsrc ksrc hrdr krdr hscr kscr hfc kfc hhist khist hrep krep hnow know hdr kdr hsv ksv htr ktr hmo kmo hbu kbu hsr ksr hsd ksd has kas haw kaw hpa kpa hnm knm hsnm ksnm hanm kanm hout kout houtD koutD hf0 hf1 hf2 hf3 hf4 hf5 hf6 hf7 hf8 hf9 hf10 hf11 hf12 hf13 hf14 hf15 hf16 hf17 hf18 hf19 hf20 hf21 hf22 hf23 hf24 hf25 hf26 hf27 hf28 hf29 hf30 hf31 hr0 hr1 hr2 hr3 hr4 hr5 hr6 hr7 hr8 hr9 hr10 hr11 hr12 hr13 hr14 hr15 hr16 hr17 hr18 hl
    by_cases cs35 : y2 = 35
    · refine lv_tableIn (tgt := 2255) cx.1 cx.2.1 dL_law_45 (by rw [q_toInt ⟨by omega, by omega⟩]; omega) (by rw [q_toInt ⟨by omega, by omega⟩]; omega) (off := 2210) (by rw [q_toInt ⟨by omega, by omega⟩, cs35]; rfl) (by decide) ?_
      exact law_c2255 hfl C0 cx hN hLA hX hB hx kx hsrc ksrc hrdr krdr hscr kscr hfc kfc hhist khist hrep krep hnow know hdr kdr hsv ksv htr ktr hmo kmo hbu kbu hsr ksr hsd ksd has kas haw kaw hpa kpa hnm knm hsnm ksnm hanm kanm hout kout houtD koutD hf0 hf1 hf2 hf3 hf4 hf5 hf6 hf7 hf8 hf9 hf10 hf11 hf12 hf13 hf14 hf15 hf16 hf17 hf18 hf19 hf20 hf21 hf22 hf23 hf24 hf25 hf26 hf27 hf28 hf29 hf30 hf31 hr0 hr1 hr2 hr3 hr4 hr5 hr6 hr7 hr8 hr9 hr10 hr11 hr12 hr13 hr14 hr15 hr16 hr17 hr18 hl
    by_cases cs36 : y2 = 36
    · refine lv_tableIn (tgt := 2268) cx.1 cx.2.1 dL_law_45 (by rw [q_toInt ⟨by omega, by omega⟩]; omega) (by rw [q_toInt ⟨by omega, by omega⟩]; omega) (off := 2223) (by rw [q_toInt ⟨by omega, by omega⟩, cs36]; rfl) (by decide) ?_
      exact law_c2268 hfl C0 cx hN hLA hX hB hx kx hsrc ksrc hrdr krdr hscr kscr hfc kfc hhist khist hrep krep hnow know hdr kdr hsv ksv htr ktr hmo kmo hbu kbu hsr ksr hsd ksd has kas haw kaw hpa kpa hnm knm hsnm ksnm hanm kanm hout kout houtD koutD hf0 hf1 hf2 hf3 hf4 hf5 hf6 hf7 hf8 hf9 hf10 hf11 hf12 hf13 hf14 hf15 hf16 hf17 hf18 hf19 hf20 hf21 hf22 hf23 hf24 hf25 hf26 hf27 hf28 hf29 hf30 hf31 hr0 hr1 hr2 hr3 hr4 hr5 hr6 hr7 hr8 hr9 hr10 hr11 hr12 hr13 hr14 hr15 hr16 hr17 hr18 hl
    by_cases cs37 : y2 = 37
    · refine lv_tableIn (tgt := 2324) cx.1 cx.2.1 dL_law_45 (by rw [q_toInt ⟨by omega, by omega⟩]; omega) (by rw [q_toInt ⟨by omega, by omega⟩]; omega) (off := 2279) (by rw [q_toInt ⟨by omega, by omega⟩, cs37]; rfl) (by decide) ?_
      exact law_c2324 hfl C0 cx hN hLA hX hB hx kx hsrc ksrc hrdr krdr hscr kscr hfc kfc hhist khist hrep krep hnow know hdr kdr hsv ksv htr ktr hmo kmo hbu kbu hsr ksr hsd ksd has kas haw kaw hpa kpa hnm knm hsnm ksnm hanm kanm hout kout houtD koutD hf0 hf1 hf2 hf3 hf4 hf5 hf6 hf7 hf8 hf9 hf10 hf11 hf12 hf13 hf14 hf15 hf16 hf17 hf18 hf19 hf20 hf21 hf22 hf23 hf24 hf25 hf26 hf27 hf28 hf29 hf30 hf31 hr0 hr1 hr2 hr3 hr4 hr5 hr6 hr7 hr8 hr9 hr10 hr11 hr12 hr13 hr14 hr15 hr16 hr17 hr18 hl
    by_cases cs38 : y2 = 38
    · refine lv_tableIn (tgt := 2337) cx.1 cx.2.1 dL_law_45 (by rw [q_toInt ⟨by omega, by omega⟩]; omega) (by rw [q_toInt ⟨by omega, by omega⟩]; omega) (off := 2292) (by rw [q_toInt ⟨by omega, by omega⟩, cs38]; rfl) (by decide) ?_
      exact law_c2337 hfl C0 cx hN hLA hX hB hx kx hsrc ksrc hrdr krdr hscr kscr hfc kfc hhist khist hrep krep hnow know hdr kdr hsv ksv htr ktr hmo kmo hbu kbu hsr ksr hsd ksd has kas haw kaw hpa kpa hnm knm hsnm ksnm hanm kanm hout kout houtD koutD hf0 hf1 hf2 hf3 hf4 hf5 hf6 hf7 hf8 hf9 hf10 hf11 hf12 hf13 hf14 hf15 hf16 hf17 hf18 hf19 hf20 hf21 hf22 hf23 hf24 hf25 hf26 hf27 hf28 hf29 hf30 hf31 hr0 hr1 hr2 hr3 hr4 hr5 hr6 hr7 hr8 hr9 hr10 hr11 hr12 hr13 hr14 hr15 hr16 hr17 hr18 hl
    by_cases cs39 : y2 = 39
    · refine lv_tableIn (tgt := 2350) cx.1 cx.2.1 dL_law_45 (by rw [q_toInt ⟨by omega, by omega⟩]; omega) (by rw [q_toInt ⟨by omega, by omega⟩]; omega) (off := 2305) (by rw [q_toInt ⟨by omega, by omega⟩, cs39]; rfl) (by decide) ?_
      exact law_c2350 hfl C0 cx hN hLA hX hB hx kx hsrc ksrc hrdr krdr hscr kscr hfc kfc hhist khist hrep krep hnow know hdr kdr hsv ksv htr ktr hmo kmo hbu kbu hsr ksr hsd ksd has kas haw kaw hpa kpa hnm knm hsnm ksnm hanm kanm hout kout houtD koutD hf0 hf1 hf2 hf3 hf4 hf5 hf6 hf7 hf8 hf9 hf10 hf11 hf12 hf13 hf14 hf15 hf16 hf17 hf18 hf19 hf20 hf21 hf22 hf23 hf24 hf25 hf26 hf27 hf28 hf29 hf30 hf31 hr0 hr1 hr2 hr3 hr4 hr5 hr6 hr7 hr8 hr9 hr10 hr11 hr12 hr13 hr14 hr15 hr16 hr17 hr18 hl
    refine lv_tableOut (tgt := 2394) cx.1 cx.2.1 dL_law_45 (by rw [q_toInt ⟨by omega, by omega⟩]; omega) (by decide) ?_
    exact law_c2394 hfl C0 cx hN hLA hX hB hx kx hsrc ksrc hrdr krdr hscr kscr hfc kfc hhist khist hrep krep hnow know hdr kdr hsv ksv htr ktr hmo kmo hbu kbu hsr ksr hsd ksd has kas haw kaw hpa kpa hnm knm hsnm ksnm hanm kanm hout kout houtD koutD hf0 hf1 hf2 hf3 hf4 hf5 hf6 hf7 hf8 hf9 hf10 hf11 hf12 hf13 hf14 hf15 hf16 hf17 hf18 hf19 hf20 hf21 hf22 hf23 hf24 hf25 hf26 hf27 hf28 hf29 hf30 hf31 hr0 hr1 hr2 hr3 hr4 hr5 hr6 hr7 hr8 hr9 hr10 hr11 hr12 hr13 hr14 hr15 hr16 hr17 hr18 hl
