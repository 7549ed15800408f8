set_option maxHeartbeats 4000000 in
set_option maxRecDepth 100000 in
theorem w_hops (l : Launch) (g : q_G) (ad : Nat → Nat) {K : Nat → Nat} {L : List Nat} (hN : L.Nodup) {f : Nat → va_E} (hT : q_Ty g K L f) (hfl : l.stackTraces = false) (x : Nat) (hx : x ∈ L) (kx : K x = 11) (a0 : Int) (la0 : (-2147483648) ≤ a0) (ua0 : a0 ≤ 2147483647) (b0 : Int) (lb0 : (-2147483648) ≤ b0) (ub0 : b0 ≤ 2147483647) (out : Nat) (hout : out ∈ L) (kout : K out = 168) (src : Nat) (hsrc : src ∈ L) (ksrc : K src = 8) (rdr : Nat) (hrdr : rdr ∈ L) (krdr : K rdr = 9) (scr : Nat) (hscr : scr ∈ L) (kscr : K scr = 7) (fc : Nat) (hfc : fc ∈ L) (kfc : K fc = 1) (hist : Nat) (hhist : hist ∈ L) (khist : K hist = 2) (rep : Nat) (hrep : rep ∈ L) (krep : K rep = 6) (now : Nat) (hnow : now ∈ L) (know : K now = 10) (dr : Nat) (hdr : dr ∈ L) (kdr : K dr = 13) (sv : Nat) (hsv : sv ∈ L) (ksv : K sv = 14) (tr : Nat) (htr : tr ∈ L) (ktr : K tr = 15) (hr0 : q_ir (q_r f x 0) src) (hr1 : q_ir (q_r f x 1) rdr) (hr2 : q_ir (q_r f x 2) scr) (hr3 : q_ir (q_r f x 3) fc) (hr4 : q_ir (q_r f x 4) hist) (hr5 : q_ir (q_r f x 5) rep) (hr6 : q_ir (q_r f x 6) now) (hr7 : q_ir (q_r f x 7) dr) (hr8 : q_ir (q_r f x 8) sv) (hr9 : q_ir (q_r f fc 0) tr) : q_Wt l g ad K L yL_hops cL_hops 5 (some .int) [(0, 10, 13, 35)] 8 125 2 12 [.ref x, .int (q_i a0), .int (q_i b0), .ref out] f [(168, 0, 0)] (q_Pi (fun (z : Int) (f1 : Nat → va_E) => 0 ≤ z ∧ z ≤ 3)) := by
  refine q_wofb (by decide +kernel) hN hT (Nat.le_of_ble_eq_true rfl) ?_
  intro p e s m below meth c ls cx hr hlk htab hX hB hl
  have hl : lv_has ls 5 [(0, .ref x), (1, .int (q_i a0)), (2, .int (q_i b0)), (3, .ref out)] := hl
  obtain ⟨H, hH⟩ : ∃ H : Heap, H = s.heap := ⟨_, rfl⟩
  obtain ⟨locs, hlocs⟩ : ∃ z : List Loc, z = [] := ⟨_, rfl⟩
  rw [← hH, ← hlocs] at hB
  rw [← hH, ← hlocs]
  refine q_ald_n cx dL_hops_0 rfl (lv_at hl 3 rfl) ?_
  refine q_iconst cx dL_hops_1 ?_
  refine q_ald_n cx dL_hops_2 rfl (lv_at hl 0 rfl) ?_
  refine q_ild_n cx dL_hops_3 rfl (lv_at hl 1 rfl) ?_
  refine q_ild_n cx dL_hops_4 rfl (lv_at hl 2 rfl) ?_
  refine q_cXV (As := [.int (q_i a0), .int (q_i b0)]) (rest := [.int (q_i 0), .ref out]) cx hX hB (fun _ h => h) (fun _ h _ => h) hN hx kx (by decide) rfl (x_hops l g ad hN hB.2.1 hfl x hx kx a0 (by omega) (by omega) b0 (by omega) (by omega) src hsrc ksrc rdr hrdr krdr scr hscr kscr fc hfc kfc hist hhist khist rep hrep krep now hnow know dr hdr kdr sv hsv ksv tr htr ktr hr0 hr1 hr2 hr3 hr4 hr5 hr6 hr7 hr8 hr9) q_cL_60 q_dX11_hops (by decide) rfl rfl hl.1 rfl (Nat.le_of_ble_eq_true rfl) dL_hops_5 (fun E9 ce9 q9 H locs f20 hex hF hB hcell hcv hcl => ?_) (fun v9 H locs f17 h19 hF hB => ?_)
  · rcases hex with ⟨rfl, rfl⟩
    · refine vx_catch (E := "java/lang/IndexOutOfBoundsException") (name := "java/lang/IndexOutOfBoundsException") cx.2.2.2.1 [] ⟨0, 10, 13, 35⟩ [] (htab.trans rfl) (q_pnil) (by decide) (by decide) (cx.2.2.2.2 _ q_h1225) (va_Nw.use rfl (hX.2.2.2.1 (.castable "java/lang/IndexOutOfBoundsException" "java/lang/IndexOutOfBoundsException") (by decide +kernel))) hcell hcv hcl ?_
      refine lv_astore (lv' := [(4, .ref q9), (0, .ref x), (1, .int (q_i a0)), (2, .int (q_i b0)), (3, .ref out)]) cx.1 cx.2.1 dL_hops_13 hl (by decide) rfl (fun ls hl => ?_)
      refine q_iconst cx dL_hops_15 ?_
      refine W.widen (k := 2) (n := 12) (by decide) (by decide) ?_
      refine q_iret cx hr hlk hB dL_hops_16 ⟨by decide, by decide⟩ ?_
      exact ⟨(by decide), (by decide)⟩
  · obtain ⟨y18, rfl, ry18, h19⟩ := h19
    refine W.eq (g2 := F0 m 8 ls [.int (q_i y18), .int (q_i 0), .ref out]) rfl ?_
    obtain rfl := h19
    refine q_i2l cx ⟨by omega, by omega⟩ dL_hops_8 ?_
    refine q_last (n := 1) cx hB hout kout (by decide) rfl rfl (by decide) (by decide) (by decide) rfl rfl dL_hops_9 (fun H locs f21 ef21 z22 hB => ?_)
    have z23 : q_ir (q_r f21 x 0) src := by rw [ef21, q_setr (Or.inl (fun q => by rw [q, kout] at kx; exact absurd kx (by decide)))]; exact hr0
    have z24 : q_ir (q_r f21 x 1) rdr := by rw [ef21, q_setr (Or.inr (by decide))]; exact hr1
    have z25 : q_ir (q_r f21 x 2) scr := by rw [ef21, q_setr (Or.inr (by decide))]; exact hr2
    have z26 : q_ir (q_r f21 x 3) fc := by rw [ef21, q_setr (Or.inr (by decide))]; exact hr3
    have z27 : q_ir (q_r f21 x 4) hist := by rw [ef21, q_setr (Or.inr (by decide))]; exact hr4
    have z28 : q_ir (q_r f21 x 5) rep := by rw [ef21, q_setr (Or.inr (by decide))]; exact hr5
    have z29 : q_ir (q_r f21 x 6) now := by rw [ef21, q_setr (Or.inr (by decide))]; exact hr6
    have z30 : q_ir (q_r f21 x 7) dr := by rw [ef21, q_setr (Or.inr (by decide))]; exact hr7
    have z31 : q_ir (q_r f21 x 8) sv := by rw [ef21, q_setr (Or.inr (by decide))]; exact hr8
    have z32 : q_ir (q_r f21 fc 0) tr := by rw [ef21, q_setr (Or.inl (fun q => by rw [q, kout] at kfc; exact absurd kfc (by decide)))]; exact hr9
    refine lv_goto (tgt := 17) cx.1 cx.2.1 dL_hops_10 (by decide) ?_
    refine q_iconst cx dL_hops_17 ?_
    refine W.widen (k := 2) (n := 12) (by decide) (by decide) ?_
    refine q_iret cx hr hlk hB dL_hops_18 ⟨by decide, by decide⟩ ?_
    exact ⟨(by decide), (by decide)⟩
set_option maxHeartbeats 4000000 in
set_option maxRecDepth 100000 in
theorem w_nextNode (l : Launch) (g : q_G) (ad : Nat → Nat) {K : Nat → Nat} {L : List Nat} (hN : L.Nodup) {f : Nat → va_E} (hT : q_Ty g K L f) (hfl : l.stackTraces = false) (x : Nat) (hx : x ∈ L) (kx : K x = 11) (a0 : Int) (la0 : (-2147483648) ≤ a0) (ua0 : a0 ≤ 2147483647) (b0 : Int) (lb0 : (-2147483648) ≤ b0) (ub0 : b0 ≤ 2147483647) (out : Nat) (hout : out ∈ L) (kout : K out = 168) (src : Nat) (hsrc : src ∈ L) (ksrc : K src = 8) (rdr : Nat) (hrdr : rdr ∈ L) (krdr : K rdr = 9) (scr : Nat) (hscr : scr ∈ L) (kscr : K scr = 7) (fc : Nat) (hfc : fc ∈ L) (kfc : K fc = 1) (hist : Nat) (hhist : hist ∈ L) (khist : K hist = 2) (rep : Nat) (hrep : rep ∈ L) (krep : K rep = 6) (now : Nat) (hnow : now ∈ L) (know : K now = 10) (dr : Nat) (hdr : dr ∈ L) (kdr : K dr = 13) (sv : Nat) (hsv : sv ∈ L) (ksv : K sv = 14) (tr : Nat) (htr : tr ∈ L) (ktr : K tr = 15) (hr0 : q_ir (q_r f x 0) src) (hr1 : q_ir (q_r f x 1) rdr) (hr2 : q_ir (q_r f x 2) scr) (hr3 : q_ir (q_r f x 3) fc) (hr4 : q_ir (q_r f x 4) hist) (hr5 : q_ir (q_r f x 5) rep) (hr6 : q_ir (q_r f x 6) now) (hr7 : q_ir (q_r f x 7) dr) (hr8 : q_ir (q_r f x 8) sv) (hr9 : q_ir (q_r f fc 0) tr) : q_Wt l g ad K L yL_nextNode cL_nextNode 5 (some .int) [(0, 10, 13, 35)] 8 125 2 12 [.ref x, .int (q_i a0), .int (q_i b0), .ref out] f [(168, 0, 0)] (q_Pi (fun (z : Int) (f1 : Nat → va_E) => 0 ≤ z ∧ z ≤ 3)) := by
  refine q_wofb (by decide +kernel) hN hT (Nat.le_of_ble_eq_true rfl) ?_
  intro p e s m below meth c ls cx hr hlk htab hX hB hl
  have hl : lv_has ls 5 [(0, .ref x), (1, .int (q_i a0)), (2, .int (q_i b0)), (3, .ref out)] := hl
  obtain ⟨H, hH⟩ : ∃ H : Heap, H = s.heap := ⟨_, rfl⟩
  obtain ⟨locs, hlocs⟩ : ∃ z : List Loc, z = [] := ⟨_, rfl⟩
  rw [← hH, ← hlocs] at hB
  rw [← hH, ← hlocs]
  refine q_ald_n cx dL_nextNode_0 rfl (lv_at hl 3 rfl) ?_
  refine q_iconst cx dL_nextNode_1 ?_
  refine q_ald_n cx dL_nextNode_2 rfl (lv_at hl 0 rfl) ?_
  refine q_ild_n cx dL_nextNode_3 rfl (lv_at hl 1 rfl) ?_
  refine q_ild_n cx dL_nextNode_4 rfl (lv_at hl 2 rfl) ?_
  refine q_cXV (As := [.int (q_i a0), .int (q_i b0)]) (rest := [.int (q_i 0), .ref out]) cx hX hB (fun _ h => h) (fun _ h _ => h) hN hx kx (by decide) rfl (x_nextNode l g ad hN hB.2.1 hfl x hx kx a0 (by omega) (by omega) b0 (by omega) (by omega) src hsrc ksrc rdr hrdr krdr scr hscr kscr fc hfc kfc hist hhist khist rep hrep krep now hnow know dr hdr kdr sv hsv ksv tr htr ktr hr0 hr1 hr2 hr3 hr4 hr5 hr6 hr7 hr8 hr9) q_cL_63 q_dX11_nextNode (by decide) rfl rfl hl.1 rfl (Nat.le_of_ble_eq_true rfl) dL_nextNode_5 (fun E9 ce9 q9 H locs f20 hex hF hB hcell hcv hcl => ?_) (fun v9 H locs f17 h19 hF hB => ?_)
  · rcases hex with ⟨rfl, rfl⟩
    · refine vx_catch (E := "java/lang/IndexOutOfBoundsException") (name := "java/lang/IndexOutOfBoundsException") cx.2.2.2.1 [] ⟨0, 10, 13, 35⟩ [] (htab.trans rfl) (q_pnil) (by decide) (by decide) (cx.2.2.2.2 _ q_h1225) (va_Nw.use rfl (hX.2.2.2.1 (.castable "java/lang/IndexOutOfBoundsException" "java/lang/IndexOutOfBoundsException") (by decide +kernel))) hcell hcv hcl ?_
      refine lv_astore (lv' := [(4, .ref q9), (0, .ref x), (1, .int (q_i a0)), (2, .int (q_i b0)), (3, .ref out)]) cx.1 cx.2.1 dL_nextNode_13 hl (by decide) rfl (fun ls hl => ?_)
      refine q_iconst cx dL_nextNode_15 ?_
      refine W.widen (k := 2) (n := 12) (by decide) (by decide) ?_
      refine q_iret cx hr hlk hB dL_nextNode_16 ⟨by decide, by decide⟩ ?_
      exact ⟨(by decide), (by decide)⟩
  · obtain ⟨y18, rfl, ry18, h19⟩ := h19
    refine W.eq (g2 := F0 m 8 ls [.int (q_i y18), .int (q_i 0), .ref out]) rfl ?_
    obtain rfl := h19
    refine q_i2l cx ⟨by omega, by omega⟩ dL_nextNode_8 ?_
    refine q_last (n := 1) cx hB hout kout (by decide) rfl rfl (by decide) (by decide) (by decide) rfl rfl dL_nextNode_9 (fun H locs f21 ef21 z22 hB => ?_)
    have z23 : q_ir (q_r f21 x 0) src := by rw [ef21, q_setr (Or.inl (fun q => by rw [q, kout] at kx; exact absurd kx (by decide)))]; exact hr0
    have z24 : q_ir (q_r f21 x 1) rdr := by rw [ef21, q_setr (Or.inr (by decide))]; exact hr1
    have z25 : q_ir (q_r f21 x 2) scr := by rw [ef21, q_setr (Or.inr (by decide))]; exact hr2
    have z26 : q_ir (q_r f21 x 3) fc := by rw [ef21, q_setr (Or.inr (by decide))]; exact hr3
    have z27 : q_ir (q_r f21 x 4) hist := by rw [ef21, q_setr (Or.inr (by decide))]; exact hr4
    have z28 : q_ir (q_r f21 x 5) rep := by rw [ef21, q_setr (Or.inr (by decide))]; exact hr5
    have z29 : q_ir (q_r f21 x 6) now := by rw [ef21, q_setr (Or.inr (by decide))]; exact hr6
    have z30 : q_ir (q_r f21 x 7) dr := by rw [ef21, q_setr (Or.inr (by decide))]; exact hr7
    have z31 : q_ir (q_r f21 x 8) sv := by rw [ef21, q_setr (Or.inr (by decide))]; exact hr8
    have z32 : q_ir (q_r f21 fc 0) tr := by rw [ef21, q_setr (Or.inl (fun q => by rw [q, kout] at kfc; exact absurd kfc (by decide)))]; exact hr9
    refine lv_goto (tgt := 17) cx.1 cx.2.1 dL_nextNode_10 (by decide) ?_
    refine q_iconst cx dL_nextNode_17 ?_
    refine W.widen (k := 2) (n := 12) (by decide) (by decide) ?_
    refine q_iret cx hr hlk hB dL_nextNode_18 ⟨by decide, by decide⟩ ?_
    exact ⟨(by decide), (by decide)⟩
set_option maxHeartbeats 4000000 in
set_option maxRecDepth 100000 in
theorem w_arrives (l : Launch) (g : q_G) (ad : Nat → Nat) {K : Nat → Nat} {L : List Nat} (hN : L.Nodup) {f : Nat → va_E} (hT : q_Ty g K L f) (hfl : l.stackTraces = false) (x : Nat) (hx : x ∈ L) (kx : K x = 11) (a0 : Int) (la0 : (-2147483648) ≤ a0) (ua0 : a0 ≤ 2147483647) (out : Nat) (hout : out ∈ L) (kout : K out = 168) (src : Nat) (hsrc : src ∈ L) (ksrc : K src = 8) (rdr : Nat) (hrdr : rdr ∈ L) (krdr : K rdr = 9) (scr : Nat) (hscr : scr ∈ L) (kscr : K scr = 7) (fc : Nat) (hfc : fc ∈ L) (kfc : K fc = 1) (hist : Nat) (hhist : hist ∈ L) (khist : K hist = 2) (rep : Nat) (hrep : rep ∈ L) (krep : K rep = 6) (now : Nat) (hnow : now ∈ L) (know : K now = 10) (dr : Nat) (hdr : dr ∈ L) (kdr : K dr = 13) (sv : Nat) (hsv : sv ∈ L) (ksv : K sv = 14) (tr : Nat) (htr : tr ∈ L) (ktr : K tr = 15) (hr0 : q_ir (q_r f x 0) src) (hr1 : q_ir (q_r f x 1) rdr) (hr2 : q_ir (q_r f x 2) scr) (hr3 : q_ir (q_r f x 3) fc) (hr4 : q_ir (q_r f x 4) hist) (hr5 : q_ir (q_r f x 5) rep) (hr6 : q_ir (q_r f x 6) now) (hr7 : q_ir (q_r f x 7) dr) (hr8 : q_ir (q_r f x 8) sv) (hr9 : q_ir (q_r f fc 0) tr) : q_Wt l g ad K L yL_arrives cL_arrives 4 (some .int) [(0, 9, 12, 35)] 8 192 1 6 [.ref x, .int (q_i a0), .ref out] f [(15, 3, 15), (19, 0, 9), (23, 0, 4), (27, 0, 7), (168, 0, 0)] (q_Pi (fun (z : Int) (f1 : Nat → va_E) => 0 ≤ z ∧ z ≤ 3)) := by
  refine q_wofb (by decide +kernel) hN hT (Nat.le_of_ble_eq_true rfl) ?_
  intro p e s m below meth c ls cx hr hlk htab hX hB hl
  have hl : lv_has ls 4 [(0, .ref x), (1, .int (q_i a0)), (2, .ref out)] := hl
  obtain ⟨H, hH⟩ : ∃ H : Heap, H = s.heap := ⟨_, rfl⟩
  obtain ⟨locs, hlocs⟩ : ∃ z : List Loc, z = [] := ⟨_, rfl⟩
  rw [← hH, ← hlocs] at hB
  rw [← hH, ← hlocs]
  refine q_ald_n cx dL_arrives_0 rfl (lv_at hl 2 rfl) ?_
  refine q_iconst cx dL_arrives_1 ?_
  refine q_ald_n cx dL_arrives_2 rfl (lv_at hl 0 rfl) ?_
  refine q_ild_n cx dL_arrives_3 rfl (lv_at hl 1 rfl) ?_
  refine q_cXV (As := [.int (q_i a0)]) (rest := [.int (q_i 0), .ref out]) cx hX hB (fun _ h => h) (fun _ h _ => h) hN hx kx (by decide) rfl (x_arrives l g ad hN hB.2.1 hfl x hx kx a0 (by omega) (by omega) src hsrc ksrc rdr hrdr krdr scr hscr kscr fc hfc kfc hist hhist khist rep hrep krep now hnow know dr hdr kdr sv hsv ksv tr htr ktr hr0 hr1 hr2 hr3 hr4 hr5 hr6 hr7 hr8 hr9) q_cL_66 q_dX11_arrives (by decide) rfl rfl hl.1 rfl (Nat.le_of_ble_eq_true rfl) dL_arrives_4 (fun E9 ce9 q9 H locs f30 hex hF hB hcell hcv hcl => ?_) (fun v9 H locs f27 h29 hF hB => ?_)
  · rcases hex with ⟨rfl, rfl⟩
    · refine vx_catch (E := "java/lang/IndexOutOfBoundsException") (name := "java/lang/IndexOutOfBoundsException") cx.2.2.2.1 [] ⟨0, 9, 12, 35⟩ [] (htab.trans rfl) (q_pnil) (by decide) (by decide) (cx.2.2.2.2 _ q_h1225) (va_Nw.use rfl (hX.2.2.2.1 (.castable "java/lang/IndexOutOfBoundsException" "java/lang/IndexOutOfBoundsException") (by decide +kernel))) hcell hcv hcl ?_
      refine lv_astore_n (lv' := [(3, .ref q9), (0, .ref x), (1, .int (q_i a0)), (2, .ref out)]) cx.1 cx.2.1 dL_arrives_12 rfl hl (by decide) rfl (fun ls hl => ?_)
      refine q_iconst cx dL_arrives_13 ?_
      refine W.widen (k := 1) (n := 6) (by decide) (by decide) ?_
      refine q_iret cx hr hlk hB dL_arrives_14 ⟨by decide, by decide⟩ ?_
      exact ⟨(by decide), (by decide)⟩
  · obtain ⟨y28, rfl, ry28, h29⟩ := h29
    refine W.eq (g2 := F0 m 7 ls [.int (q_i y28), .int (q_i 0), .ref out]) rfl ?_
    have z31 : q_ir (q_r f27 x 0) src := Eq.trans (hF.r hx (by rw [kx]; rfl)) hr0
    have z32 : q_ir (q_r f27 x 1) rdr := Eq.trans (hF.r hx (by rw [kx]; rfl)) hr1
    have z33 : q_ir (q_r f27 x 2) scr := Eq.trans (hF.r hx (by rw [kx]; rfl)) hr2
    have z34 : q_ir (q_r f27 x 3) fc := Eq.trans (hF.r hx (by rw [kx]; rfl)) hr3
    have z35 : q_ir (q_r f27 x 4) hist := Eq.trans (hF.r hx (by rw [kx]; rfl)) hr4
    have z36 : q_ir (q_r f27 x 5) rep := Eq.trans (hF.r hx (by rw [kx]; rfl)) hr5
    have z37 : q_ir (q_r f27 x 6) now := Eq.trans (hF.r hx (by rw [kx]; rfl)) hr6
    have z38 : q_ir (q_r f27 x 7) dr := Eq.trans (hF.r hx (by rw [kx]; rfl)) hr7
    have z39 : q_ir (q_r f27 x 8) sv := Eq.trans (hF.r hx (by rw [kx]; rfl)) hr8
    have z40 : q_ir (q_r f27 fc 0) tr := Eq.trans (hF.r hfc (by rw [kfc]; rfl)) hr9
    refine q_i2l cx ⟨by omega, by omega⟩ dL_arrives_7 ?_
    refine q_last (n := 1) cx hB hout kout (by decide) rfl rfl (by decide) (by decide) (by decide) rfl rfl dL_arrives_8 (fun H locs f41 ef41 z42 hB => ?_)
    have z43 : q_ir (q_r f41 x 0) src := by rw [ef41, q_setr (Or.inl (fun q => by rw [q, kout] at kx; exact absurd kx (by decide)))]; exact z31
    have z44 : q_ir (q_r f41 x 1) rdr := by rw [ef41, q_setr (Or.inr (by decide))]; exact z32
    have z45 : q_ir (q_r f41 x 2) scr := by rw [ef41, q_setr (Or.inr (by decide))]; exact z33
    have z46 : q_ir (q_r f41 x 3) fc := by rw [ef41, q_setr (Or.inr (by decide))]; exact z34
    have z47 : q_ir (q_r f41 x 4) hist := by rw [ef41, q_setr (Or.inr (by decide))]; exact z35
    have z48 : q_ir (q_r f41 x 5) rep := by rw [ef41, q_setr (Or.inr (by decide))]; exact z36
    have z49 : q_ir (q_r f41 x 6) now := by rw [ef41, q_setr (Or.inr (by decide))]; exact z37
    have z50 : q_ir (q_r f41 x 7) dr := by rw [ef41, q_setr (Or.inr (by decide))]; exact z38
    have z51 : q_ir (q_r f41 x 8) sv := by rw [ef41, q_setr (Or.inr (by decide))]; exact z39
    have z52 : q_ir (q_r f41 fc 0) tr := by rw [ef41, q_setr (Or.inl (fun q => by rw [q, kout] at kfc; exact absurd kfc (by decide)))]; exact z40
    refine lv_goto (tgt := 15) cx.1 cx.2.1 dL_arrives_9 (by decide) ?_
    refine q_iconst cx dL_arrives_15 ?_
    refine W.widen (k := 1) (n := 6) (by decide) (by decide) ?_
    refine q_iret cx hr hlk hB dL_arrives_16 ⟨by decide, by decide⟩ ?_
    exact ⟨(by decide), (by decide)⟩
set_option maxHeartbeats 4000000 in
set_option maxRecDepth 100000 in
theorem w_wouldArrive (l : Launch) (g : q_G) (ad : Nat → Nat) {K : Nat → Nat} {L : List Nat} (hN : L.Nodup) {f : Nat → va_E} (hT : q_Ty g K L f) (hfl : l.stackTraces = false) (x : Nat) (hx : x ∈ L) (kx : K x = 11) (a0 : Int) (la0 : (-2147483648) ≤ a0) (ua0 : a0 ≤ 2147483647) (b0 : Int) (lb0 : (-2147483648) ≤ b0) (ub0 : b0 ≤ 2147483647) (z0 : Int) (lz0 : 0 ≤ z0) (uz0 : z0 ≤ 1) (out : Nat) (hout : out ∈ L) (kout : K out = 168) (src : Nat) (hsrc : src ∈ L) (ksrc : K src = 8) (rdr : Nat) (hrdr : rdr ∈ L) (krdr : K rdr = 9) (scr : Nat) (hscr : scr ∈ L) (kscr : K scr = 7) (fc : Nat) (hfc : fc ∈ L) (kfc : K fc = 1) (hist : Nat) (hhist : hist ∈ L) (khist : K hist = 2) (rep : Nat) (hrep : rep ∈ L) (krep : K rep = 6) (now : Nat) (hnow : now ∈ L) (know : K now = 10) (dr : Nat) (hdr : dr ∈ L) (kdr : K dr = 13) (sv : Nat) (hsv : sv ∈ L) (ksv : K sv = 14) (tr : Nat) (htr : tr ∈ L) (ktr : K tr = 15) (hr0 : q_ir (q_r f x 0) src) (hr1 : q_ir (q_r f x 1) rdr) (hr2 : q_ir (q_r f x 2) scr) (hr3 : q_ir (q_r f x 3) fc) (hr4 : q_ir (q_r f x 4) hist) (hr5 : q_ir (q_r f x 5) rep) (hr6 : q_ir (q_r f x 6) now) (hr7 : q_ir (q_r f x 7) dr) (hr8 : q_ir (q_r f x 8) sv) (hr9 : q_ir (q_r f fc 0) tr) : q_Wt l g ad K L yL_wouldArrive cL_wouldArrive 6 (some .int) [(0, 12, 15, 35), (0, 12, 19, 19)] 8 196 3 18 [.ref x, .int (q_i a0), .int (q_i b0), .int (q_i z0), .ref out] f [(15, 3, 15), (19, 0, 9), (23, 0, 4), (27, 0, 7), (168, 0, 0)] (q_Pi (fun (z : Int) (f1 : Nat → va_E) => 0 ≤ z ∧ z ≤ 3)) := by
  refine q_wofb (by decide +kernel) hN hT (Nat.le_of_ble_eq_true rfl) ?_
  intro p e s m below meth c ls cx hr hlk htab hX hB hl
  have hl : lv_has ls 6 [(0, .ref x), (1, .int (q_i a0)), (2, .int (q_i b0)), (3, .int (q_i z0)), (4, .ref out)] := hl
  obtain ⟨H, hH⟩ : ∃ H : Heap, H = s.heap := ⟨_, rfl⟩
  obtain ⟨locs, hlocs⟩ : ∃ z : List Loc, z = [] := ⟨_, rfl⟩
  rw [← hH, ← hlocs] at hB
  rw [← hH, ← hlocs]
  refine lv_aload cx.1 cx.2.1 dL_wouldArrive_0 (lv_at hl 4 rfl) ?_
  refine q_iconst cx dL_wouldArrive_2 ?_
  refine q_ald_n cx dL_wouldArrive_3 rfl (lv_at hl 0 rfl) ?_
  refine q_ild_n cx dL_wouldArrive_4 rfl (lv_at hl 1 rfl) ?_
  refine q_ild_n cx dL_wouldArrive_5 rfl (lv_at hl 2 rfl) ?_
  refine q_ild_n cx dL_wouldArrive_6 rfl (lv_at hl 3 rfl) ?_
  refine q_cXV (As := [.int (q_i a0), .int (q_i b0), .int (q_i z0)]) (rest := [.int (q_i 0), .ref out]) cx hX hB (fun _ h => h) (fun _ h _ => h) hN hx kx (by decide) rfl (x_wouldArrive l g ad hN hB.2.1 hfl x hx kx a0 (by omega) (by omega) b0 (by omega) (by omega) z0 (by omega) (by omega) src hsrc ksrc rdr hrdr krdr scr hscr kscr fc hfc kfc hist hhist khist rep hrep krep now hnow know dr hdr kdr sv hsv ksv tr htr ktr hr0 hr1 hr2 hr3 hr4 hr5 hr6 hr7 hr8 hr9) q_cL_69 q_dX11_wouldArrive (by decide) rfl rfl hl.1 rfl (Nat.le_of_ble_eq_true rfl) dL_wouldArrive_7 (fun E9 ce9 q9 H locs f30 hex hF hB hcell hcv hcl => ?_) (fun v9 H locs f27 h29 hF hB => ?_)
  · rcases hex with ⟨rfl, rfl⟩ | ⟨rfl, rfl⟩
    · refine vx_catch (E := "java/lang/IndexOutOfBoundsException") (name := "java/lang/IndexOutOfBoundsException") cx.2.2.2.1 [] ⟨0, 12, 15, 35⟩ [⟨0, 12, 19, 19⟩] (htab.trans rfl) (q_pnil) (by decide) (by decide) (cx.2.2.2.2 _ q_h1225) (va_Nw.use rfl (hX.2.2.2.1 (.castable "java/lang/IndexOutOfBoundsException" "java/lang/IndexOutOfBoundsException") (by decide +kernel))) hcell hcv hcl ?_
      refine lv_astore (lv' := [(5, .ref q9), (0, .ref x), (1, .int (q_i a0)), (2, .int (q_i b0)), (3, .int (q_i z0)), (4, .ref out)]) cx.1 cx.2.1 dL_wouldArrive_15 hl (by decide) rfl (fun ls hl => ?_)
      refine q_iconst cx dL_wouldArrive_17 ?_
      refine W.widen (k := 3) (n := 18) (by decide) (by decide) ?_
      refine q_iret cx hr hlk hB dL_wouldArrive_18 ⟨by decide, by decide⟩ ?_
      exact ⟨(by decide), (by decide)⟩
    · refine vx_catch (E := "java/lang/IllegalArgumentException") (name := "java/lang/IllegalArgumentException") cx.2.2.2.1 [⟨0, 12, 15, 35⟩] ⟨0, 12, 19, 19⟩ [] (htab.trans rfl) (q_pcons (Or.inr ⟨by decide, "java/lang/IndexOutOfBoundsException", cx.2.2.2.2 _ q_h1225, hX.2.2.2.2.1 ("java/lang/IllegalArgumentException", "java/lang/IndexOutOfBoundsException") (by decide)⟩) (q_pnil)) (by decide) (by decide) (cx.2.2.2.2 _ q_h875) (va_Nw.use rfl (hX.2.2.2.1 (.castable "java/lang/IllegalArgumentException" "java/lang/IllegalArgumentException") (by decide +kernel))) hcell hcv hcl ?_
      refine lv_astore (lv' := [(5, .ref q9), (0, .ref x), (1, .int (q_i a0)), (2, .int (q_i b0)), (3, .int (q_i z0)), (4, .ref out)]) cx.1 cx.2.1 dL_wouldArrive_19 hl (by decide) rfl (fun ls hl => ?_)
      refine q_iconst cx dL_wouldArrive_21 ?_
      refine W.widen (k := 3) (n := 18) (by decide) (by decide) ?_
      refine q_iret cx hr hlk hB dL_wouldArrive_22 ⟨by decide, by decide⟩ ?_
      exact ⟨(by decide), (by decide)⟩
  · obtain ⟨y28, rfl, ry28, h29⟩ := h29
    refine W.eq (g2 := F0 m 10 ls [.int (q_i y28), .int (q_i 0), .ref out]) rfl ?_
    have z31 : q_ir (q_r f27 x 0) src := Eq.trans (hF.r hx (by rw [kx]; rfl)) hr0
    have z32 : q_ir (q_r f27 x 1) rdr := Eq.trans (hF.r hx (by rw [kx]; rfl)) hr1
    have z33 : q_ir (q_r f27 x 2) scr := Eq.trans (hF.r hx (by rw [kx]; rfl)) hr2
    have z34 : q_ir (q_r f27 x 3) fc := Eq.trans (hF.r hx (by rw [kx]; rfl)) hr3
    have z35 : q_ir (q_r f27 x 4) hist := Eq.trans (hF.r hx (by rw [kx]; rfl)) hr4
    have z36 : q_ir (q_r f27 x 5) rep := Eq.trans (hF.r hx (by rw [kx]; rfl)) hr5
    have z37 : q_ir (q_r f27 x 6) now := Eq.trans (hF.r hx (by rw [kx]; rfl)) hr6
    have z38 : q_ir (q_r f27 x 7) dr := Eq.trans (hF.r hx (by rw [kx]; rfl)) hr7
    have z39 : q_ir (q_r f27 x 8) sv := Eq.trans (hF.r hx (by rw [kx]; rfl)) hr8
    have z40 : q_ir (q_r f27 fc 0) tr := Eq.trans (hF.r hfc (by rw [kfc]; rfl)) hr9
    refine q_i2l cx ⟨by omega, by omega⟩ dL_wouldArrive_10 ?_
    refine q_last (n := 1) cx hB hout kout (by decide) rfl rfl (by decide) (by decide) (by decide) rfl rfl dL_wouldArrive_11 (fun H locs f41 ef41 z42 hB => ?_)
    have z43 : q_ir (q_r f41 x 0) src := by rw [ef41, q_setr (Or.inl (fun q => by rw [q, kout] at kx; exact absurd kx (by decide)))]; exact z31
    have z44 : q_ir (q_r f41 x 1) rdr := by rw [ef41, q_setr (Or.inr (by decide))]; exact z32
    have z45 : q_ir (q_r f41 x 2) scr := by rw [ef41, q_setr (Or.inr (by decide))]; exact z33
    have z46 : q_ir (q_r f41 x 3) fc := by rw [ef41, q_setr (Or.inr (by decide))]; exact z34
    have z47 : q_ir (q_r f41 x 4) hist := by rw [ef41, q_setr (Or.inr (by decide))]; exact z35
    have z48 : q_ir (q_r f41 x 5) rep := by rw [ef41, q_setr (Or.inr (by decide))]; exact z36
    have z49 : q_ir (q_r f41 x 6) now := by rw [ef41, q_setr (Or.inr (by decide))]; exact z37
    have z50 : q_ir (q_r f41 x 7) dr := by rw [ef41, q_setr (Or.inr (by decide))]; exact z38
    have z51 : q_ir (q_r f41 x 8) sv := by rw [ef41, q_setr (Or.inr (by decide))]; exact z39
    have z52 : q_ir (q_r f41 fc 0) tr := by rw [ef41, q_setr (Or.inl (fun q => by rw [q, kout] at kfc; exact absurd kfc (by decide)))]; exact z40
    refine lv_goto (tgt := 23) cx.1 cx.2.1 dL_wouldArrive_12 (by decide) ?_
    refine q_iconst cx dL_wouldArrive_23 ?_
    refine W.widen (k := 3) (n := 18) (by decide) (by decide) ?_
    refine q_iret cx hr hlk hB dL_wouldArrive_24 ⟨by decide, by decide⟩ ?_
    exact ⟨(by decide), (by decide)⟩
set_option maxHeartbeats 4000000 in
set_option maxRecDepth 100000 in
theorem w_outIn (l : Launch) (g : q_G) (ad : Nat → Nat) {K : Nat → Nat} {L : List Nat} (hN : L.Nodup) {f : Nat → va_E} (hT : q_Ty g K L f) (hfl : l.stackTraces = false) (x : Nat) (hx : x ∈ L) (kx : K x = 11) (a0 : Int) (la0 : (-2147483648) ≤ a0) (ua0 : a0 ≤ 2147483647) (out : Nat) (hout : out ∈ L) (kout : K out = 168) (src : Nat) (hsrc : src ∈ L) (ksrc : K src = 8) (rdr : Nat) (hrdr : rdr ∈ L) (krdr : K rdr = 9) (scr : Nat) (hscr : scr ∈ L) (kscr : K scr = 7) (fc : Nat) (hfc : fc ∈ L) (kfc : K fc = 1) (hist : Nat) (hhist : hist ∈ L) (khist : K hist = 2) (rep : Nat) (hrep : rep ∈ L) (krep : K rep = 6) (now : Nat) (hnow : now ∈ L) (know : K now = 10) (dr : Nat) (hdr : dr ∈ L) (kdr : K dr = 13) (sv : Nat) (hsv : sv ∈ L) (ksv : K sv = 14) (tr : Nat) (htr : tr ∈ L) (ktr : K tr = 15) (hr0 : q_ir (q_r f x 0) src) (hr1 : q_ir (q_r f x 1) rdr) (hr2 : q_ir (q_r f x 2) scr) (hr3 : q_ir (q_r f x 3) fc) (hr4 : q_ir (q_r f x 4) hist) (hr5 : q_ir (q_r f x 5) rep) (hr6 : q_ir (q_r f x 6) now) (hr7 : q_ir (q_r f x 7) dr) (hr8 : q_ir (q_r f x 8) sv) (hr9 : q_ir (q_r f fc 0) tr) : q_Wt l g ad K L yL_outIn cL_outIn 4 (some .int) [(0, 9, 12, 35)] 8 169 1 6 [.ref x, .int (q_i a0), .ref out] f [(15, 3, 15), (19, 0, 9), (23, 0, 4), (27, 0, 7), (168, 0, 0)] (q_Pi (fun (z : Int) (f1 : Nat → va_E) => 0 ≤ z ∧ z ≤ 3)) := by
  refine q_wofb (by decide +kernel) hN hT (Nat.le_of_ble_eq_true rfl) ?_
  intro p e s m below meth c ls cx hr hlk htab hX hB hl
  have hl : lv_has ls 4 [(0, .ref x), (1, .int (q_i a0)), (2, .ref out)] := hl
  obtain ⟨H, hH⟩ : ∃ H : Heap, H = s.heap := ⟨_, rfl⟩
  obtain ⟨locs, hlocs⟩ : ∃ z : List Loc, z = [] := ⟨_, rfl⟩
  rw [← hH, ← hlocs] at hB
  rw [← hH, ← hlocs]
  refine q_ald_n cx dL_outIn_0 rfl (lv_at hl 2 rfl) ?_
  refine q_iconst cx dL_outIn_1 ?_
  refine q_ald_n cx dL_outIn_2 rfl (lv_at hl 0 rfl) ?_
  refine q_ild_n cx dL_outIn_3 rfl (lv_at hl 1 rfl) ?_
  refine q_cXV (As := [.int (q_i a0)]) (rest := [.int (q_i 0), .ref out]) cx hX hB (fun _ h => h) (fun _ h _ => h) hN hx kx (by decide) rfl (x_outIn l g ad hN hB.2.1 hfl x hx kx a0 (by omega) (by omega) src hsrc ksrc rdr hrdr krdr scr hscr kscr fc hfc kfc hist hhist khist rep hrep krep now hnow know dr hdr kdr sv hsv ksv tr htr ktr hr0 hr1 hr2 hr3 hr4 hr5 hr6 hr7 hr8 hr9) q_cL_73 q_dX11_outIn (by decide) rfl rfl hl.1 rfl (Nat.le_of_ble_eq_true rfl) dL_outIn_4 (fun E9 ce9 q9 H locs f30 hex hF hB hcell hcv hcl => ?_) (fun v9 H locs f27 h29 hF hB => ?_)
  · rcases hex with ⟨rfl, rfl⟩
    · refine vx_catch (E := "java/lang/IndexOutOfBoundsException") (name := "java/lang/IndexOutOfBoundsException") cx.2.2.2.1 [] ⟨0, 9, 12, 35⟩ [] (htab.trans rfl) (q_pnil) (by decide) (by decide) (cx.2.2.2.2 _ q_h1225) (va_Nw.use rfl (hX.2.2.2.1 (.castable "java/lang/IndexOutOfBoundsException" "java/lang/IndexOutOfBoundsException") (by decide +kernel))) hcell hcv hcl ?_
      refine lv_astore_n (lv' := [(3, .ref q9), (0, .ref x), (1, .int (q_i a0)), (2, .ref out)]) cx.1 cx.2.1 dL_outIn_12 rfl hl (by decide) rfl (fun ls hl => ?_)
      refine q_iconst cx dL_outIn_13 ?_
      refine W.widen (k := 1) (n := 6) (by decide) (by decide) ?_
      refine q_iret cx hr hlk hB dL_outIn_14 ⟨by decide, by decide⟩ ?_
      exact ⟨(by decide), (by decide)⟩
  · obtain ⟨y28, rfl, ry28, h29⟩ := h29
    refine W.eq (g2 := F0 m 7 ls [.int (q_i y28), .int (q_i 0), .ref out]) rfl ?_
    have z31 : q_ir (q_r f27 x 0) src := Eq.trans (hF.r hx (by rw [kx]; rfl)) hr0
    have z32 : q_ir (q_r f27 x 1) rdr := Eq.trans (hF.r hx (by rw [kx]; rfl)) hr1
    have z33 : q_ir (q_r f27 x 2) scr := Eq.trans (hF.r hx (by rw [kx]; rfl)) hr2
    have z34 : q_ir (q_r f27 x 3) fc := Eq.trans (hF.r hx (by rw [kx]; rfl)) hr3
    have z35 : q_ir (q_r f27 x 4) hist := Eq.trans (hF.r hx (by rw [kx]; rfl)) hr4
    have z36 : q_ir (q_r f27 x 5) rep := Eq.trans (hF.r hx (by rw [kx]; rfl)) hr5
    have z37 : q_ir (q_r f27 x 6) now := Eq.trans (hF.r hx (by rw [kx]; rfl)) hr6
    have z38 : q_ir (q_r f27 x 7) dr := Eq.trans (hF.r hx (by rw [kx]; rfl)) hr7
    have z39 : q_ir (q_r f27 x 8) sv := Eq.trans (hF.r hx (by rw [kx]; rfl)) hr8
    have z40 : q_ir (q_r f27 fc 0) tr := Eq.trans (hF.r hfc (by rw [kfc]; rfl)) hr9
    refine q_i2l cx ⟨by omega, by omega⟩ dL_outIn_7 ?_
    refine q_last (n := 1) cx hB hout kout (by decide) rfl rfl (by decide) (by decide) (by decide) rfl rfl dL_outIn_8 (fun H locs f41 ef41 z42 hB => ?_)
    have z43 : q_ir (q_r f41 x 0) src := by rw [ef41, q_setr (Or.inl (fun q => by rw [q, kout] at kx; exact absurd kx (by decide)))]; exact z31
    have z44 : q_ir (q_r f41 x 1) rdr := by rw [ef41, q_setr (Or.inr (by decide))]; exact z32
    have z45 : q_ir (q_r f41 x 2) scr := by rw [ef41, q_setr (Or.inr (by decide))]; exact z33
    have z46 : q_ir (q_r f41 x 3) fc := by rw [ef41, q_setr (Or.inr (by decide))]; exact z34
    have z47 : q_ir (q_r f41 x 4) hist := by rw [ef41, q_setr (Or.inr (by decide))]; exact z35
    have z48 : q_ir (q_r f41 x 5) rep := by rw [ef41, q_setr (Or.inr (by decide))]; exact z36
    have z49 : q_ir (q_r f41 x 6) now := by rw [ef41, q_setr (Or.inr (by decide))]; exact z37
    have z50 : q_ir (q_r f41 x 7) dr := by rw [ef41, q_setr (Or.inr (by decide))]; exact z38
    have z51 : q_ir (q_r f41 x 8) sv := by rw [ef41, q_setr (Or.inr (by decide))]; exact z39
    have z52 : q_ir (q_r f41 fc 0) tr := by rw [ef41, q_setr (Or.inl (fun q => by rw [q, kout] at kfc; exact absurd kfc (by decide)))]; exact z40
    refine lv_goto (tgt := 15) cx.1 cx.2.1 dL_outIn_9 (by decide) ?_
    refine q_iconst cx dL_outIn_15 ?_
    refine W.widen (k := 1) (n := 6) (by decide) (by decide) ?_
    refine q_iret cx hr hlk hB dL_outIn_16 ⟨by decide, by decide⟩ ?_
    exact ⟨(by decide), (by decide)⟩
set_option maxHeartbeats 4000000 in
set_option maxRecDepth 100000 in
theorem w_energyIn (l : Launch) (g : q_G) (ad : Nat → Nat) {K : Nat → Nat} {L : List Nat} (hN : L.Nodup) {f : Nat → va_E} (hT : q_Ty g K L f) (hfl : l.stackTraces = false) (x : Nat) (hx : x ∈ L) (kx : K x = 11) (a0 : Int) (la0 : (-2147483648) ≤ a0) (ua0 : a0 ≤ 2147483647) (b0 : Int) (lb0 : (-2147483648) ≤ b0) (ub0 : b0 ≤ 2147483647) (out : Nat) (hout : out ∈ L) (kout : K out = 168) (src : Nat) (hsrc : src ∈ L) (ksrc : K src = 8) (rdr : Nat) (hrdr : rdr ∈ L) (krdr : K rdr = 9) (scr : Nat) (hscr : scr ∈ L) (kscr : K scr = 7) (fc : Nat) (hfc : fc ∈ L) (kfc : K fc = 1) (hist : Nat) (hhist : hist ∈ L) (khist : K hist = 2) (rep : Nat) (hrep : rep ∈ L) (krep : K rep = 6) (now : Nat) (hnow : now ∈ L) (know : K now = 10) (dr : Nat) (hdr : dr ∈ L) (kdr : K dr = 13) (sv : Nat) (hsv : sv ∈ L) (ksv : K sv = 14) (tr : Nat) (htr : tr ∈ L) (ktr : K tr = 15) (hr0 : q_ir (q_r f x 0) src) (hr1 : q_ir (q_r f x 1) rdr) (hr2 : q_ir (q_r f x 2) scr) (hr3 : q_ir (q_r f x 3) fc) (hr4 : q_ir (q_r f x 4) hist) (hr5 : q_ir (q_r f x 5) rep) (hr6 : q_ir (q_r f x 6) now) (hr7 : q_ir (q_r f x 7) dr) (hr8 : q_ir (q_r f x 8) sv) (hr9 : q_ir (q_r f fc 0) tr) : q_Wt l g ad K L yL_energyIn cL_energyIn 5 (some .int) [(0, 10, 13, 35), (0, 10, 17, 19)] 8 170 2 12 [.ref x, .int (q_i a0), .int (q_i b0), .ref out] f [(15, 3, 15), (19, 0, 9), (23, 0, 4), (27, 0, 7), (168, 0, 0)] (q_Pi (fun (z : Int) (f1 : Nat → va_E) => 0 ≤ z ∧ z ≤ 3)) := by
  refine q_wofb (by decide +kernel) hN hT (Nat.le_of_ble_eq_true rfl) ?_
  intro p e s m below meth c ls cx hr hlk htab hX hB hl
  have hl : lv_has ls 5 [(0, .ref x), (1, .int (q_i a0)), (2, .int (q_i b0)), (3, .ref out)] := hl
  obtain ⟨H, hH⟩ : ∃ H : Heap, H = s.heap := ⟨_, rfl⟩
  obtain ⟨locs, hlocs⟩ : ∃ z : List Loc, z = [] := ⟨_, rfl⟩
  rw [← hH, ← hlocs] at hB
  rw [← hH, ← hlocs]
  refine q_ald_n cx dL_energyIn_0 rfl (lv_at hl 3 rfl) ?_
  refine q_iconst cx dL_energyIn_1 ?_
  refine q_ald_n cx dL_energyIn_2 rfl (lv_at hl 0 rfl) ?_
  refine q_ild_n cx dL_energyIn_3 rfl (lv_at hl 1 rfl) ?_
  refine q_ild_n cx dL_energyIn_4 rfl (lv_at hl 2 rfl) ?_
  refine q_cXV (As := [.int (q_i a0), .int (q_i b0)]) (rest := [.int (q_i 0), .ref out]) cx hX hB (fun _ h => h) (fun _ h _ => h) hN hx kx (by decide) rfl (x_energyIn l g ad hN hB.2.1 hfl x hx kx a0 (by omega) (by omega) b0 (by omega) (by omega) src hsrc ksrc rdr hrdr krdr scr hscr kscr fc hfc kfc hist hhist khist rep hrep krep now hnow know dr hdr kdr sv hsv ksv tr htr ktr hr0 hr1 hr2 hr3 hr4 hr5 hr6 hr7 hr8 hr9) q_cL_76 q_dX11_energyIn (by decide) rfl rfl hl.1 rfl (Nat.le_of_ble_eq_true rfl) dL_energyIn_5 (fun E9 ce9 q9 H locs f30 hex hF hB hcell hcv hcl => ?_) (fun v9 H locs f27 h29 hF hB => ?_)
  · rcases hex with ⟨rfl, rfl⟩ | ⟨rfl, rfl⟩
    · refine vx_catch (E := "java/lang/IndexOutOfBoundsException") (name := "java/lang/IndexOutOfBoundsException") cx.2.2.2.1 [] ⟨0, 10, 13, 35⟩ [⟨0, 10, 17, 19⟩] (htab.trans rfl) (q_pnil) (by decide) (by decide) (cx.2.2.2.2 _ q_h1225) (va_Nw.use rfl (hX.2.2.2.1 (.castable "java/lang/IndexOutOfBoundsException" "java/lang/IndexOutOfBoundsException") (by decide +kernel))) hcell hcv hcl ?_
      refine lv_astore (lv' := [(4, .ref q9), (0, .ref x), (1, .int (q_i a0)), (2, .int (q_i b0)), (3, .ref out)]) cx.1 cx.2.1 dL_energyIn_13 hl (by decide) rfl (fun ls hl => ?_)
      refine q_iconst cx dL_energyIn_15 ?_
      refine W.widen (k := 2) (n := 12) (by decide) (by decide) ?_
      refine q_iret cx hr hlk hB dL_energyIn_16 ⟨by decide, by decide⟩ ?_
      exact ⟨(by decide), (by decide)⟩
    · refine vx_catch (E := "java/lang/IllegalArgumentException") (name := "java/lang/IllegalArgumentException") cx.2.2.2.1 [⟨0, 10, 13, 35⟩] ⟨0, 10, 17, 19⟩ [] (htab.trans rfl) (q_pcons (Or.inr ⟨by decide, "java/lang/IndexOutOfBoundsException", cx.2.2.2.2 _ q_h1225, hX.2.2.2.2.1 ("java/lang/IllegalArgumentException", "java/lang/IndexOutOfBoundsException") (by decide)⟩) (q_pnil)) (by decide) (by decide) (cx.2.2.2.2 _ q_h875) (va_Nw.use rfl (hX.2.2.2.1 (.castable "java/lang/IllegalArgumentException" "java/lang/IllegalArgumentException") (by decide +kernel))) hcell hcv hcl ?_
      refine lv_astore (lv' := [(4, .ref q9), (0, .ref x), (1, .int (q_i a0)), (2, .int (q_i b0)), (3, .ref out)]) cx.1 cx.2.1 dL_energyIn_17 hl (by decide) rfl (fun ls hl => ?_)
      refine q_iconst cx dL_energyIn_19 ?_
      refine W.widen (k := 2) (n := 12) (by decide) (by decide) ?_
      refine q_iret cx hr hlk hB dL_energyIn_20 ⟨by decide, by decide⟩ ?_
      exact ⟨(by decide), (by decide)⟩
  · obtain ⟨y28, rfl, ry28, h29⟩ := h29
    refine W.eq (g2 := F0 m 8 ls [.int (q_i y28), .int (q_i 0), .ref out]) rfl ?_
    have z31 : q_ir (q_r f27 x 0) src := Eq.trans (hF.r hx (by rw [kx]; rfl)) hr0
    have z32 : q_ir (q_r f27 x 1) rdr := Eq.trans (hF.r hx (by rw [kx]; rfl)) hr1
    have z33 : q_ir (q_r f27 x 2) scr := Eq.trans (hF.r hx (by rw [kx]; rfl)) hr2
    have z34 : q_ir (q_r f27 x 3) fc := Eq.trans (hF.r hx (by rw [kx]; rfl)) hr3
    have z35 : q_ir (q_r f27 x 4) hist := Eq.trans (hF.r hx (by rw [kx]; rfl)) hr4
    have z36 : q_ir (q_r f27 x 5) rep := Eq.trans (hF.r hx (by rw [kx]; rfl)) hr5
    have z37 : q_ir (q_r f27 x 6) now := Eq.trans (hF.r hx (by rw [kx]; rfl)) hr6
    have z38 : q_ir (q_r f27 x 7) dr := Eq.trans (hF.r hx (by rw [kx]; rfl)) hr7
    have z39 : q_ir (q_r f27 x 8) sv := Eq.trans (hF.r hx (by rw [kx]; rfl)) hr8
    have z40 : q_ir (q_r f27 fc 0) tr := Eq.trans (hF.r hfc (by rw [kfc]; rfl)) hr9
    refine q_i2l cx ⟨by omega, by omega⟩ dL_energyIn_8 ?_
    refine q_last (n := 1) cx hB hout kout (by decide) rfl rfl (by decide) (by decide) (by decide) rfl rfl dL_energyIn_9 (fun H locs f41 ef41 z42 hB => ?_)
    have z43 : q_ir (q_r f41 x 0) src := by rw [ef41, q_setr (Or.inl (fun q => by rw [q, kout] at kx; exact absurd kx (by decide)))]; exact z31
    have z44 : q_ir (q_r f41 x 1) rdr := by rw [ef41, q_setr (Or.inr (by decide))]; exact z32
    have z45 : q_ir (q_r f41 x 2) scr := by rw [ef41, q_setr (Or.inr (by decide))]; exact z33
    have z46 : q_ir (q_r f41 x 3) fc := by rw [ef41, q_setr (Or.inr (by decide))]; exact z34
    have z47 : q_ir (q_r f41 x 4) hist := by rw [ef41, q_setr (Or.inr (by decide))]; exact z35
    have z48 : q_ir (q_r f41 x 5) rep := by rw [ef41, q_setr (Or.inr (by decide))]; exact z36
    have z49 : q_ir (q_r f41 x 6) now := by rw [ef41, q_setr (Or.inr (by decide))]; exact z37
    have z50 : q_ir (q_r f41 x 7) dr := by rw [ef41, q_setr (Or.inr (by decide))]; exact z38
    have z51 : q_ir (q_r f41 x 8) sv := by rw [ef41, q_setr (Or.inr (by decide))]; exact z39
    have z52 : q_ir (q_r f41 fc 0) tr := by rw [ef41, q_setr (Or.inl (fun q => by rw [q, kout] at kfc; exact absurd kfc (by decide)))]; exact z40
    refine lv_goto (tgt := 21) cx.1 cx.2.1 dL_energyIn_10 (by decide) ?_
    refine q_iconst cx dL_energyIn_21 ?_
    refine W.widen (k := 2) (n := 12) (by decide) (by decide) ?_
    refine q_iret cx hr hlk hB dL_energyIn_22 ⟨by decide, by decide⟩ ?_
    exact ⟨(by decide), (by decide)⟩
set_option maxHeartbeats 4000000 in
set_option maxRecDepth 100000 in
theorem w_bestShift (l : Launch) (g : q_G) (ad : Nat → Nat) {K : Nat → Nat} {L : List Nat} (hN : L.Nodup) {f : Nat → va_E} (hT : q_Ty g K L f) (hfl : l.stackTraces = false) (x : Nat) (hx : x ∈ L) (kx : K x = 11) (a0 : Int) (la0 : (-2147483648) ≤ a0) (ua0 : a0 ≤ 2147483647) (out : Nat) (hout : out ∈ L) (kout : K out = 168) (src : Nat) (hsrc : src ∈ L) (ksrc : K src = 8) (rdr : Nat) (hrdr : rdr ∈ L) (krdr : K rdr = 9) (scr : Nat) (hscr : scr ∈ L) (kscr : K scr = 7) (fc : Nat) (hfc : fc ∈ L) (kfc : K fc = 1) (hist : Nat) (hhist : hist ∈ L) (khist : K hist = 2) (rep : Nat) (hrep : rep ∈ L) (krep : K rep = 6) (now : Nat) (hnow : now ∈ L) (know : K now = 10) (dr : Nat) (hdr : dr ∈ L) (kdr : K dr = 13) (sv : Nat) (hsv : sv ∈ L) (ksv : K sv = 14) (tr : Nat) (htr : tr ∈ L) (ktr : K tr = 15) (hr0 : q_ir (q_r f x 0) src) (hr1 : q_ir (q_r f x 1) rdr) (hr2 : q_ir (q_r f x 2) scr) (hr3 : q_ir (q_r f x 3) fc) (hr4 : q_ir (q_r f x 4) hist) (hr5 : q_ir (q_r f x 5) rep) (hr6 : q_ir (q_r f x 6) now) (hr7 : q_ir (q_r f x 7) dr) (hr8 : q_ir (q_r f x 8) sv) (hr9 : q_ir (q_r f fc 0) tr) : q_Wt l g ad K L yL_bestShift cL_bestShift 4 (some .int) [(0, 9, 12, 35)] 8 187 1 6 [.ref x, .int (q_i a0), .ref out] f [(168, 0, 0)] (q_Pi (fun (z : Int) (f1 : Nat → va_E) => 0 ≤ z ∧ z ≤ 3)) := by
  refine q_wofb (by decide +kernel) hN hT (Nat.le_of_ble_eq_true rfl) ?_
  intro p e s m below meth c ls cx hr hlk htab hX hB hl
  have hl : lv_has ls 4 [(0, .ref x), (1, .int (q_i a0)), (2, .ref out)] := hl
  obtain ⟨H, hH⟩ : ∃ H : Heap, H = s.heap := ⟨_, rfl⟩
  obtain ⟨locs, hlocs⟩ : ∃ z : List Loc, z = [] := ⟨_, rfl⟩
  rw [← hH, ← hlocs] at hB
  rw [← hH, ← hlocs]
  refine q_ald_n cx dL_bestShift_0 rfl (lv_at hl 2 rfl) ?_
  refine q_iconst cx dL_bestShift_1 ?_
  refine q_ald_n cx dL_bestShift_2 rfl (lv_at hl 0 rfl) ?_
  refine q_ild_n cx dL_bestShift_3 rfl (lv_at hl 1 rfl) ?_
  refine q_cXV (As := [.int (q_i a0)]) (rest := [.int (q_i 0), .ref out]) cx hX hB (fun _ h => h) (fun _ h _ => h) hN hx kx (by decide) rfl (x_bestShift l g ad hN hB.2.1 hfl x hx kx a0 (by omega) (by omega) src hsrc ksrc rdr hrdr krdr scr hscr kscr fc hfc kfc hist hhist khist rep hrep krep now hnow know dr hdr kdr sv hsv ksv tr htr ktr hr0 hr1 hr2 hr3 hr4 hr5 hr6 hr7 hr8 hr9) q_cL_79 q_dX11_bestShift (by decide) rfl rfl hl.1 rfl (Nat.le_of_ble_eq_true rfl) dL_bestShift_4 (fun E9 ce9 q9 H locs f20 hex hF hB hcell hcv hcl => ?_) (fun v9 H locs f17 h19 hF hB => ?_)
  · rcases hex with ⟨rfl, rfl⟩
    · refine vx_catch (E := "java/lang/IndexOutOfBoundsException") (name := "java/lang/IndexOutOfBoundsException") cx.2.2.2.1 [] ⟨0, 9, 12, 35⟩ [] (htab.trans rfl) (q_pnil) (by decide) (by decide) (cx.2.2.2.2 _ q_h1225) (va_Nw.use rfl (hX.2.2.2.1 (.castable "java/lang/IndexOutOfBoundsException" "java/lang/IndexOutOfBoundsException") (by decide +kernel))) hcell hcv hcl ?_
      refine lv_astore_n (lv' := [(3, .ref q9), (0, .ref x), (1, .int (q_i a0)), (2, .ref out)]) cx.1 cx.2.1 dL_bestShift_12 rfl hl (by decide) rfl (fun ls hl => ?_)
      refine q_iconst cx dL_bestShift_13 ?_
      refine W.widen (k := 1) (n := 6) (by decide) (by decide) ?_
      refine q_iret cx hr hlk hB dL_bestShift_14 ⟨by decide, by decide⟩ ?_
      exact ⟨(by decide), (by decide)⟩
  · obtain ⟨y18, rfl, ry18, h19⟩ := h19
    refine W.eq (g2 := F0 m 7 ls [.int (q_i y18), .int (q_i 0), .ref out]) rfl ?_
    obtain rfl := h19
    refine q_i2l cx ⟨by omega, by omega⟩ dL_bestShift_7 ?_
    refine q_last (n := 1) cx hB hout kout (by decide) rfl rfl (by decide) (by decide) (by decide) rfl rfl dL_bestShift_8 (fun H locs f21 ef21 z22 hB => ?_)
    have z23 : q_ir (q_r f21 x 0) src := by rw [ef21, q_setr (Or.inl (fun q => by rw [q, kout] at kx; exact absurd kx (by decide)))]; exact hr0
    have z24 : q_ir (q_r f21 x 1) rdr := by rw [ef21, q_setr (Or.inr (by decide))]; exact hr1
    have z25 : q_ir (q_r f21 x 2) scr := by rw [ef21, q_setr (Or.inr (by decide))]; exact hr2
    have z26 : q_ir (q_r f21 x 3) fc := by rw [ef21, q_setr (Or.inr (by decide))]; exact hr3
    have z27 : q_ir (q_r f21 x 4) hist := by rw [ef21, q_setr (Or.inr (by decide))]; exact hr4
    have z28 : q_ir (q_r f21 x 5) rep := by rw [ef21, q_setr (Or.inr (by decide))]; exact hr5
    have z29 : q_ir (q_r f21 x 6) now := by rw [ef21, q_setr (Or.inr (by decide))]; exact hr6
    have z30 : q_ir (q_r f21 x 7) dr := by rw [ef21, q_setr (Or.inr (by decide))]; exact hr7
    have z31 : q_ir (q_r f21 x 8) sv := by rw [ef21, q_setr (Or.inr (by decide))]; exact hr8
    have z32 : q_ir (q_r f21 fc 0) tr := by rw [ef21, q_setr (Or.inl (fun q => by rw [q, kout] at kfc; exact absurd kfc (by decide)))]; exact hr9
    refine lv_goto (tgt := 15) cx.1 cx.2.1 dL_bestShift_9 (by decide) ?_
    refine q_iconst cx dL_bestShift_15 ?_
    refine W.widen (k := 1) (n := 6) (by decide) (by decide) ?_
    refine q_iret cx hr hlk hB dL_bestShift_16 ⟨by decide, by decide⟩ ?_
    exact ⟨(by decide), (by decide)⟩
set_option maxHeartbeats 4000000 in
set_option maxRecDepth 100000 in
theorem w_bestWatch (l : Launch) (g : q_G) (ad : Nat → Nat) {K : Nat → Nat} {L : List Nat} (hN : L.Nodup) {f : Nat → va_E} (hT : q_Ty g K L f) (hfl : l.stackTraces = false) (x : Nat) (hx : x ∈ L) (kx : K x = 11) (a0 : Int) (la0 : (-2147483648) ≤ a0) (ua0 : a0 ≤ 2147483647) (b0 : Int) (lb0 : (-2147483648) ≤ b0) (ub0 : b0 ≤ 2147483647) (out : Nat) (hout : out ∈ L) (kout : K out = 168) (src : Nat) (hsrc : src ∈ L) (ksrc : K src = 8) (rdr : Nat) (hrdr : rdr ∈ L) (krdr : K rdr = 9) (scr : Nat) (hscr : scr ∈ L) (kscr : K scr = 7) (fc : Nat) (hfc : fc ∈ L) (kfc : K fc = 1) (hist : Nat) (hhist : hist ∈ L) (khist : K hist = 2) (rep : Nat) (hrep : rep ∈ L) (krep : K rep = 6) (now : Nat) (hnow : now ∈ L) (know : K now = 10) (dr : Nat) (hdr : dr ∈ L) (kdr : K dr = 13) (sv : Nat) (hsv : sv ∈ L) (ksv : K sv = 14) (tr : Nat) (htr : tr ∈ L) (ktr : K tr = 15) (hr0 : q_ir (q_r f x 0) src) (hr1 : q_ir (q_r f x 1) rdr) (hr2 : q_ir (q_r f x 2) scr) (hr3 : q_ir (q_r f x 3) fc) (hr4 : q_ir (q_r f x 4) hist) (hr5 : q_ir (q_r f x 5) rep) (hr6 : q_ir (q_r f x 6) now) (hr7 : q_ir (q_r f x 7) dr) (hr8 : q_ir (q_r f x 8) sv) (hr9 : q_ir (q_r f fc 0) tr) : q_Wt l g ad K L yL_bestWatch cL_bestWatch 5 (some .int) [(0, 10, 13, 35), (0, 10, 17, 19)] 8 199 3 18 [.ref x, .int (q_i a0), .int (q_i b0), .ref out] f [(15, 3, 15), (19, 0, 9), (23, 0, 4), (27, 0, 7), (168, 0, 0)] (q_Pi (fun (z : Int) (f1 : Nat → va_E) => 0 ≤ z ∧ z ≤ 3)) := by
  refine q_wofb (by decide +kernel) hN hT (Nat.le_of_ble_eq_true rfl) ?_
  intro p e s m below meth c ls cx hr hlk htab hX hB hl
  have hl : lv_has ls 5 [(0, .ref x), (1, .int (q_i a0)), (2, .int (q_i b0)), (3, .ref out)] := hl
  obtain ⟨H, hH⟩ : ∃ H : Heap, H = s.heap := ⟨_, rfl⟩
  obtain ⟨locs, hlocs⟩ : ∃ z : List Loc, z = [] := ⟨_, rfl⟩
  rw [← hH, ← hlocs] at hB
  rw [← hH, ← hlocs]
  refine q_ald_n cx dL_bestWatch_0 rfl (lv_at hl 3 rfl) ?_
  refine q_iconst cx dL_bestWatch_1 ?_
  refine q_ald_n cx dL_bestWatch_2 rfl (lv_at hl 0 rfl) ?_
  refine q_ild_n cx dL_bestWatch_3 rfl (lv_at hl 1 rfl) ?_
  refine q_ild_n cx dL_bestWatch_4 rfl (lv_at hl 2 rfl) ?_
  refine q_cXV (As := [.int (q_i a0), .int (q_i b0)]) (rest := [.int (q_i 0), .ref out]) cx hX hB (fun _ h => h) (fun _ h _ => h) hN hx kx (by decide) rfl (x_bestWatch l g ad hN hB.2.1 hfl x hx kx a0 (by omega) (by omega) b0 (by omega) (by omega) src hsrc ksrc rdr hrdr krdr scr hscr kscr fc hfc kfc hist hhist khist rep hrep krep now hnow know dr hdr kdr sv hsv ksv tr htr ktr hr0 hr1 hr2 hr3 hr4 hr5 hr6 hr7 hr8 hr9) q_cL_82 q_dX11_bestWatch (by decide) rfl rfl hl.1 rfl (Nat.le_of_ble_eq_true rfl) dL_bestWatch_5 (fun E9 ce9 q9 H locs f30 hex hF hB hcell hcv hcl => ?_) (fun v9 H locs f27 h29 hF hB => ?_)
  · rcases hex with ⟨rfl, rfl⟩ | ⟨rfl, rfl⟩
    · refine vx_catch (E := "java/lang/IndexOutOfBoundsException") (name := "java/lang/IndexOutOfBoundsException") cx.2.2.2.1 [] ⟨0, 10, 13, 35⟩ [⟨0, 10, 17, 19⟩] (htab.trans rfl) (q_pnil) (by decide) (by decide) (cx.2.2.2.2 _ q_h1225) (va_Nw.use rfl (hX.2.2.2.1 (.castable "java/lang/IndexOutOfBoundsException" "java/lang/IndexOutOfBoundsException") (by decide +kernel))) hcell hcv hcl ?_
      refine lv_astore (lv' := [(4, .ref q9), (0, .ref x), (1, .int (q_i a0)), (2, .int (q_i b0)), (3, .ref out)]) cx.1 cx.2.1 dL_bestWatch_13 hl (by decide) rfl (fun ls hl => ?_)
      refine q_iconst cx dL_bestWatch_15 ?_
      refine W.widen (k := 3) (n := 18) (by decide) (by decide) ?_
      refine q_iret cx hr hlk hB dL_bestWatch_16 ⟨by decide, by decide⟩ ?_
      exact ⟨(by decide), (by decide)⟩
    · refine vx_catch (E := "java/lang/IllegalArgumentException") (name := "java/lang/IllegalArgumentException") cx.2.2.2.1 [⟨0, 10, 13, 35⟩] ⟨0, 10, 17, 19⟩ [] (htab.trans rfl) (q_pcons (Or.inr ⟨by decide, "java/lang/IndexOutOfBoundsException", cx.2.2.2.2 _ q_h1225, hX.2.2.2.2.1 ("java/lang/IllegalArgumentException", "java/lang/IndexOutOfBoundsException") (by decide)⟩) (q_pnil)) (by decide) (by decide) (cx.2.2.2.2 _ q_h875) (va_Nw.use rfl (hX.2.2.2.1 (.castable "java/lang/IllegalArgumentException" "java/lang/IllegalArgumentException") (by decide +kernel))) hcell hcv hcl ?_
      refine lv_astore (lv' := [(4, .ref q9), (0, .ref x), (1, .int (q_i a0)), (2, .int (q_i b0)), (3, .ref out)]) cx.1 cx.2.1 dL_bestWatch_17 hl (by decide) rfl (fun ls hl => ?_)
      refine q_iconst cx dL_bestWatch_19 ?_
      refine W.widen (k := 3) (n := 18) (by decide) (by decide) ?_
      refine q_iret cx hr hlk hB dL_bestWatch_20 ⟨by decide, by decide⟩ ?_
      exact ⟨(by decide), (by decide)⟩
  · obtain ⟨y28, rfl, ry28, h29⟩ := h29
    refine W.eq (g2 := F0 m 8 ls [.int (q_i y28), .int (q_i 0), .ref out]) rfl ?_
    have z31 : q_ir (q_r f27 x 0) src := Eq.trans (hF.r hx (by rw [kx]; rfl)) hr0
    have z32 : q_ir (q_r f27 x 1) rdr := Eq.trans (hF.r hx (by rw [kx]; rfl)) hr1
    have z33 : q_ir (q_r f27 x 2) scr := Eq.trans (hF.r hx (by rw [kx]; rfl)) hr2
    have z34 : q_ir (q_r f27 x 3) fc := Eq.trans (hF.r hx (by rw [kx]; rfl)) hr3
    have z35 : q_ir (q_r f27 x 4) hist := Eq.trans (hF.r hx (by rw [kx]; rfl)) hr4
    have z36 : q_ir (q_r f27 x 5) rep := Eq.trans (hF.r hx (by rw [kx]; rfl)) hr5
    have z37 : q_ir (q_r f27 x 6) now := Eq.trans (hF.r hx (by rw [kx]; rfl)) hr6
    have z38 : q_ir (q_r f27 x 7) dr := Eq.trans (hF.r hx (by rw [kx]; rfl)) hr7
    have z39 : q_ir (q_r f27 x 8) sv := Eq.trans (hF.r hx (by rw [kx]; rfl)) hr8
    have z40 : q_ir (q_r f27 fc 0) tr := Eq.trans (hF.r hfc (by rw [kfc]; rfl)) hr9
    refine q_i2l cx ⟨by omega, by omega⟩ dL_bestWatch_8 ?_
    refine q_last (n := 1) cx hB hout kout (by decide) rfl rfl (by decide) (by decide) (by decide) rfl rfl dL_bestWatch_9 (fun H locs f41 ef41 z42 hB => ?_)
    have z43 : q_ir (q_r f41 x 0) src := by rw [ef41, q_setr (Or.inl (fun q => by rw [q, kout] at kx; exact absurd kx (by decide)))]; exact z31
    have z44 : q_ir (q_r f41 x 1) rdr := by rw [ef41, q_setr (Or.inr (by decide))]; exact z32
    have z45 : q_ir (q_r f41 x 2) scr := by rw [ef41, q_setr (Or.inr (by decide))]; exact z33
    have z46 : q_ir (q_r f41 x 3) fc := by rw [ef41, q_setr (Or.inr (by decide))]; exact z34
    have z47 : q_ir (q_r f41 x 4) hist := by rw [ef41, q_setr (Or.inr (by decide))]; exact z35
    have z48 : q_ir (q_r f41 x 5) rep := by rw [ef41, q_setr (Or.inr (by decide))]; exact z36
    have z49 : q_ir (q_r f41 x 6) now := by rw [ef41, q_setr (Or.inr (by decide))]; exact z37
    have z50 : q_ir (q_r f41 x 7) dr := by rw [ef41, q_setr (Or.inr (by decide))]; exact z38
    have z51 : q_ir (q_r f41 x 8) sv := by rw [ef41, q_setr (Or.inr (by decide))]; exact z39
    have z52 : q_ir (q_r f41 fc 0) tr := by rw [ef41, q_setr (Or.inl (fun q => by rw [q, kout] at kfc; exact absurd kfc (by decide)))]; exact z40
    refine lv_goto (tgt := 21) cx.1 cx.2.1 dL_bestWatch_10 (by decide) ?_
    refine q_iconst cx dL_bestWatch_21 ?_
    refine W.widen (k := 3) (n := 18) (by decide) (by decide) ?_
    refine q_iret cx hr hlk hB dL_bestWatch_22 ⟨by decide, by decide⟩ ?_
    exact ⟨(by decide), (by decide)⟩
set_option maxHeartbeats 4000000 in
set_option maxRecDepth 100000 in
theorem w_tick (l : Launch) (g : q_G) (ad : Nat → Nat) {K : Nat → Nat} {L : List Nat} (hN : L.Nodup) {f : Nat → va_E} (hT : q_Ty g K L f) (hfl : l.stackTraces = false) (x : Nat) (hx : x ∈ L) (kx : K x = 11) (a0 : Int) (la0 : (-2147483648) ≤ a0) (ua0 : a0 ≤ 2147483647) (out : Nat) (hout : out ∈ L) (kout : K out = 168) (src : Nat) (hsrc : src ∈ L) (ksrc : K src = 8) (rdr : Nat) (hrdr : rdr ∈ L) (krdr : K rdr = 9) (scr : Nat) (hscr : scr ∈ L) (kscr : K scr = 7) (fc : Nat) (hfc : fc ∈ L) (kfc : K fc = 1) (hist : Nat) (hhist : hist ∈ L) (khist : K hist = 2) (rep : Nat) (hrep : rep ∈ L) (krep : K rep = 6) (now : Nat) (hnow : now ∈ L) (know : K now = 10) (dr : Nat) (hdr : dr ∈ L) (kdr : K dr = 13) (sv : Nat) (hsv : sv ∈ L) (ksv : K sv = 14) (tr : Nat) (htr : tr ∈ L) (ktr : K tr = 15) (hr0 : q_ir (q_r f x 0) src) (hr1 : q_ir (q_r f x 1) rdr) (hr2 : q_ir (q_r f x 2) scr) (hr3 : q_ir (q_r f x 3) fc) (hr4 : q_ir (q_r f x 4) hist) (hr5 : q_ir (q_r f x 5) rep) (hr6 : q_ir (q_r f x 6) now) (hr7 : q_ir (q_r f x 7) dr) (hr8 : q_ir (q_r f x 8) sv) (hr9 : q_ir (q_r f fc 0) tr) : q_Wt l g ad K L yL_tick cL_tick 4 (some .int) [(0, 9, 12, 19), (0, 9, 15, 13)] 7 146 1 6 [.ref x, .int (q_i a0), .ref out] f [(2, 1, 2), (3, 2, 4), (4, 2, 3), (4, 5, 6), (5, 3, 4), (5, 6, 9), (10, 11, 15), (16, 3, 12), (20, 0, 8), (24, 0, 4), (28, 0, 7), (168, 0, 0)] (q_Pi (fun (z : Int) (f1 : Nat → va_E) => 0 ≤ z ∧ z ≤ 3)) := by
  refine q_wofb (by decide +kernel) hN hT (Nat.le_of_ble_eq_true rfl) ?_
  intro p e s m below meth c ls cx hr hlk htab hX hB hl
  have hl : lv_has ls 4 [(0, .ref x), (1, .int (q_i a0)), (2, .ref out)] := hl
  obtain ⟨H, hH⟩ : ∃ H : Heap, H = s.heap := ⟨_, rfl⟩
  obtain ⟨locs, hlocs⟩ : ∃ z : List Loc, z = [] := ⟨_, rfl⟩
  rw [← hH, ← hlocs] at hB
  rw [← hH, ← hlocs]
  refine q_ald_n cx dL_tick_0 rfl (lv_at hl 2 rfl) ?_
  refine q_iconst cx dL_tick_1 ?_
  refine q_ald_n cx dL_tick_2 rfl (lv_at hl 0 rfl) ?_
  refine q_ild_n cx dL_tick_3 rfl (lv_at hl 1 rfl) ?_
  refine q_cXV (As := [.int (q_i a0)]) (rest := [.int (q_i 0), .ref out]) cx hX hB (fun _ h => h) (fun _ h _ => h) hN hx kx (by decide) rfl (x_tick l g ad hN hB.2.1 hfl x hx kx a0 (by omega) (by omega) src hsrc ksrc rdr hrdr krdr scr hscr kscr fc hfc kfc hist hhist khist rep hrep krep now hnow know dr hdr kdr sv hsv ksv tr htr ktr hr0 hr1 hr2 hr3 hr4 hr5 hr6 hr7 hr8 hr9) q_cL_85 q_dX11_tick (by decide) rfl rfl hl.1 rfl (Nat.le_of_ble_eq_true rfl) dL_tick_4 (fun E9 ce9 q9 H locs f30 hex hF hB hcell hcv hcl => ?_) (fun v9 H locs f27 h29 hF hB => ?_)
  · rcases hex with ⟨rfl, rfl⟩ | ⟨rfl, rfl⟩
    · refine vx_catch (E := "java/lang/IllegalArgumentException") (name := "java/lang/IllegalArgumentException") cx.2.2.2.1 [] ⟨0, 9, 12, 19⟩ [⟨0, 9, 15, 13⟩] (htab.trans rfl) (q_pnil) (by decide) (by decide) (cx.2.2.2.2 _ q_h875) (va_Nw.use rfl (hX.2.2.2.1 (.castable "java/lang/IllegalArgumentException" "java/lang/IllegalArgumentException") (by decide +kernel))) hcell hcv hcl ?_
      refine lv_astore_n (lv' := [(3, .ref q9), (0, .ref x), (1, .int (q_i a0)), (2, .ref out)]) cx.1 cx.2.1 dL_tick_12 rfl hl (by decide) rfl (fun ls hl => ?_)
      refine q_iconst cx dL_tick_13 ?_
      refine W.widen (k := 1) (n := 6) (by decide) (by decide) ?_
      refine q_iret cx hr hlk hB dL_tick_14 ⟨by decide, by decide⟩ ?_
      exact ⟨(by decide), (by decide)⟩
    · refine vx_catch (E := "java/lang/IllegalStateException") (name := "java/lang/IllegalStateException") cx.2.2.2.1 [⟨0, 9, 12, 19⟩] ⟨0, 9, 15, 13⟩ [] (htab.trans rfl) (q_pcons (Or.inr ⟨by decide, "java/lang/IllegalArgumentException", cx.2.2.2.2 _ q_h875, hX.2.2.2.2.1 ("java/lang/IllegalStateException", "java/lang/IllegalArgumentException") (by decide)⟩) (q_pnil)) (by decide) (by decide) (cx.2.2.2.2 _ q_h792) (va_Nw.use rfl (hX.2.2.2.1 (.castable "java/lang/IllegalStateException" "java/lang/IllegalStateException") (by decide +kernel))) hcell hcv hcl ?_
      refine lv_astore_n (lv' := [(3, .ref q9), (0, .ref x), (1, .int (q_i a0)), (2, .ref out)]) cx.1 cx.2.1 dL_tick_15 rfl hl (by decide) rfl (fun ls hl => ?_)
      refine q_iconst cx dL_tick_16 ?_
      refine W.widen (k := 1) (n := 6) (by decide) (by decide) ?_
      refine q_iret cx hr hlk hB dL_tick_17 ⟨by decide, by decide⟩ ?_
      exact ⟨(by decide), (by decide)⟩
  · obtain ⟨y28, rfl, ry28, h29⟩ := h29
    refine W.eq (g2 := F0 m 7 ls [.int (q_i y28), .int (q_i 0), .ref out]) rfl ?_
    have z31 : q_ir (q_r f27 x 0) src := Eq.trans (hF.r hx (by rw [kx]; rfl)) hr0
    have z32 : q_ir (q_r f27 x 1) rdr := Eq.trans (hF.r hx (by rw [kx]; rfl)) hr1
    have z33 : q_ir (q_r f27 x 2) scr := Eq.trans (hF.r hx (by rw [kx]; rfl)) hr2
    have z34 : q_ir (q_r f27 x 3) fc := Eq.trans (hF.r hx (by rw [kx]; rfl)) hr3
    have z35 : q_ir (q_r f27 x 4) hist := Eq.trans (hF.r hx (by rw [kx]; rfl)) hr4
    have z36 : q_ir (q_r f27 x 5) rep := Eq.trans (hF.r hx (by rw [kx]; rfl)) hr5
    have z37 : q_ir (q_r f27 x 6) now := Eq.trans (hF.r hx (by rw [kx]; rfl)) hr6
    have z38 : q_ir (q_r f27 x 7) dr := Eq.trans (hF.r hx (by rw [kx]; rfl)) hr7
    have z39 : q_ir (q_r f27 x 8) sv := Eq.trans (hF.r hx (by rw [kx]; rfl)) hr8
    have z40 : q_ir (q_r f27 fc 0) tr := Eq.trans (hF.r hfc (by rw [kfc]; rfl)) hr9
    refine q_i2l cx ⟨by omega, by omega⟩ dL_tick_7 ?_
    refine q_last (n := 1) cx hB hout kout (by decide) rfl rfl (by decide) (by decide) (by decide) rfl rfl dL_tick_8 (fun H locs f41 ef41 z42 hB => ?_)
    have z43 : q_ir (q_r f41 x 0) src := by rw [ef41, q_setr (Or.inl (fun q => by rw [q, kout] at kx; exact absurd kx (by decide)))]; exact z31
    have z44 : q_ir (q_r f41 x 1) rdr := by rw [ef41, q_setr (Or.inr (by decide))]; exact z32
    have z45 : q_ir (q_r f41 x 2) scr := by rw [ef41, q_setr (Or.inr (by decide))]; exact z33
    have z46 : q_ir (q_r f41 x 3) fc := by rw [ef41, q_setr (Or.inr (by decide))]; exact z34
    have z47 : q_ir (q_r f41 x 4) hist := by rw [ef41, q_setr (Or.inr (by decide))]; exact z35
    have z48 : q_ir (q_r f41 x 5) rep := by rw [ef41, q_setr (Or.inr (by decide))]; exact z36
    have z49 : q_ir (q_r f41 x 6) now := by rw [ef41, q_setr (Or.inr (by decide))]; exact z37
    have z50 : q_ir (q_r f41 x 7) dr := by rw [ef41, q_setr (Or.inr (by decide))]; exact z38
    have z51 : q_ir (q_r f41 x 8) sv := by rw [ef41, q_setr (Or.inr (by decide))]; exact z39
    have z52 : q_ir (q_r f41 fc 0) tr := by rw [ef41, q_setr (Or.inl (fun q => by rw [q, kout] at kfc; exact absurd kfc (by decide)))]; exact z40
    refine lv_goto (tgt := 18) cx.1 cx.2.1 dL_tick_9 (by decide) ?_
    refine q_iconst cx dL_tick_18 ?_
    refine W.widen (k := 1) (n := 6) (by decide) (by decide) ?_
    refine q_iret cx hr hlk hB dL_tick_19 ⟨by decide, by decide⟩ ?_
    exact ⟨(by decide), (by decide)⟩
set_option maxHeartbeats 4000000 in
set_option maxRecDepth 100000 in
theorem w_send (l : Launch) (g : q_G) (ad : Nat → Nat) {K : Nat → Nat} {L : List Nat} (hN : L.Nodup) {f : Nat → va_E} (hT : q_Ty g K L f) (hfl : l.stackTraces = false) (x : Nat) (hx : x ∈ L) (kx : K x = 11) (a0 : Int) (la0 : (-2147483648) ≤ a0) (ua0 : a0 ≤ 2147483647) (b0 : Int) (lb0 : (-2147483648) ≤ b0) (ub0 : b0 ≤ 2147483647) (c0 : Int) (lc0 : (-2147483648) ≤ c0) (uc0 : c0 ≤ 2147483647) (z0 : Int) (lz0 : 0 ≤ z0) (uz0 : z0 ≤ 1) (out : Nat) (hout : out ∈ L) (kout : K out = 168) (src : Nat) (hsrc : src ∈ L) (ksrc : K src = 8) (rdr : Nat) (hrdr : rdr ∈ L) (krdr : K rdr = 9) (scr : Nat) (hscr : scr ∈ L) (kscr : K scr = 7) (fc : Nat) (hfc : fc ∈ L) (kfc : K fc = 1) (hist : Nat) (hhist : hist ∈ L) (khist : K hist = 2) (rep : Nat) (hrep : rep ∈ L) (krep : K rep = 6) (now : Nat) (hnow : now ∈ L) (know : K now = 10) (dr : Nat) (hdr : dr ∈ L) (kdr : K dr = 13) (sv : Nat) (hsv : sv ∈ L) (ksv : K sv = 14) (tr : Nat) (htr : tr ∈ L) (ktr : K tr = 15) (hr0 : q_ir (q_r f x 0) src) (hr1 : q_ir (q_r f x 1) rdr) (hr2 : q_ir (q_r f x 2) scr) (hr3 : q_ir (q_r f x 3) fc) (hr4 : q_ir (q_r f x 4) hist) (hr5 : q_ir (q_r f x 5) rep) (hr6 : q_ir (q_r f x 6) now) (hr7 : q_ir (q_r f x 7) dr) (hr8 : q_ir (q_r f x 8) sv) (hr9 : q_ir (q_r f fc 0) tr) : q_Wt l g ad K L yL_send cL_send 7 (some .int) [(0, 14, 17, 35), (0, 14, 21, 19), (0, 14, 25, 13)] 8 127 3 18 [.ref x, .int (q_i a0), .int (q_i b0), .int (q_i c0), .int (q_i z0), .ref out] f [(2, 1, 2), (4, 0, 7), (10, 5, 5), (16, 3, 12), (20, 0, 8), (24, 0, 4), (28, 0, 7), (168, 0, 0)] (q_Pi (fun (z : Int) (f1 : Nat → va_E) => 0 ≤ z ∧ z ≤ 3)) := by
  refine q_wofb (by decide +kernel) hN hT (Nat.le_of_ble_eq_true rfl) ?_
  intro p e s m below meth c ls cx hr hlk htab hX hB hl
  have hl : lv_has ls 7 [(0, .ref x), (1, .int (q_i a0)), (2, .int (q_i b0)), (3, .int (q_i c0)), (4, .int (q_i z0)), (5, .ref out)] := hl
  obtain ⟨H, hH⟩ : ∃ H : Heap, H = s.heap := ⟨_, rfl⟩
  obtain ⟨locs, hlocs⟩ : ∃ z : List Loc, z = [] := ⟨_, rfl⟩
  rw [← hH, ← hlocs] at hB
  rw [← hH, ← hlocs]
  refine lv_aload cx.1 cx.2.1 dL_send_0 (lv_at hl 5 rfl) ?_
  refine q_iconst cx dL_send_2 ?_
  refine q_ald_n cx dL_send_3 rfl (lv_at hl 0 rfl) ?_
  refine q_ild_n cx dL_send_4 rfl (lv_at hl 1 rfl) ?_
  refine q_ild_n cx dL_send_5 rfl (lv_at hl 2 rfl) ?_
  refine q_ild_n cx dL_send_6 rfl (lv_at hl 3 rfl) ?_
  refine lv_iload cx.1 cx.2.1 dL_send_7 (lv_at hl 4 rfl) ?_
  refine q_cXV (As := [.int (q_i a0), .int (q_i b0), .int (q_i c0), .int (q_i z0)]) (rest := [.int (q_i 0), .ref out]) cx hX hB (fun _ h => h) (fun _ h _ => h) hN hx kx (by decide) rfl (x_send l g ad hN hB.2.1 hfl x hx kx a0 (by omega) (by omega) b0 (by omega) (by omega) c0 (by omega) (by omega) z0 (by omega) (by omega) src hsrc ksrc rdr hrdr krdr scr hscr kscr fc hfc kfc hist hhist khist rep hrep krep now hnow know dr hdr kdr sv hsv ksv tr htr ktr hr0 hr1 hr2 hr3 hr4 hr5 hr6 hr7 hr8 hr9) q_cL_88 q_dX11_send (by decide) rfl rfl hl.1 rfl (Nat.le_of_ble_eq_true rfl) dL_send_9 (fun E9 ce9 q9 H locs f30 hex hF hB hcell hcv hcl => ?_) (fun v9 H locs f27 h29 hF hB => ?_)
  · rcases hex with ⟨rfl, rfl⟩ | ⟨rfl, rfl⟩ | ⟨rfl, rfl⟩
    · refine vx_catch (E := "java/lang/IndexOutOfBoundsException") (name := "java/lang/IndexOutOfBoundsException") cx.2.2.2.1 [] ⟨0, 14, 17, 35⟩ [⟨0, 14, 21, 19⟩, ⟨0, 14, 25, 13⟩] (htab.trans rfl) (q_pnil) (by decide) (by decide) (cx.2.2.2.2 _ q_h1225) (va_Nw.use rfl (hX.2.2.2.1 (.castable "java/lang/IndexOutOfBoundsException" "java/lang/IndexOutOfBoundsException") (by decide +kernel))) hcell hcv hcl ?_
      refine lv_astore (lv' := [(6, .ref q9), (0, .ref x), (1, .int (q_i a0)), (2, .int (q_i b0)), (3, .int (q_i c0)), (4, .int (q_i z0)), (5, .ref out)]) cx.1 cx.2.1 dL_send_17 hl (by decide) rfl (fun ls hl => ?_)
      refine q_iconst cx dL_send_19 ?_
      refine W.widen (k := 3) (n := 18) (by decide) (by decide) ?_
      refine q_iret cx hr hlk hB dL_send_20 ⟨by decide, by decide⟩ ?_
      exact ⟨(by decide), (by decide)⟩
    · refine vx_catch (E := "java/lang/IllegalArgumentException") (name := "java/lang/IllegalArgumentException") cx.2.2.2.1 [⟨0, 14, 17, 35⟩] ⟨0, 14, 21, 19⟩ [⟨0, 14, 25, 13⟩] (htab.trans rfl) (q_pcons (Or.inr ⟨by decide, "java/lang/IndexOutOfBoundsException", cx.2.2.2.2 _ q_h1225, hX.2.2.2.2.1 ("java/lang/IllegalArgumentException", "java/lang/IndexOutOfBoundsException") (by decide)⟩) (q_pnil)) (by decide) (by decide) (cx.2.2.2.2 _ q_h875) (va_Nw.use rfl (hX.2.2.2.1 (.castable "java/lang/IllegalArgumentException" "java/lang/IllegalArgumentException") (by decide +kernel))) hcell hcv hcl ?_
      refine lv_astore (lv' := [(6, .ref q9), (0, .ref x), (1, .int (q_i a0)), (2, .int (q_i b0)), (3, .int (q_i c0)), (4, .int (q_i z0)), (5, .ref out)]) cx.1 cx.2.1 dL_send_21 hl (by decide) rfl (fun ls hl => ?_)
      refine q_iconst cx dL_send_23 ?_
      refine W.widen (k := 3) (n := 18) (by decide) (by decide) ?_
      refine q_iret cx hr hlk hB dL_send_24 ⟨by decide, by decide⟩ ?_
      exact ⟨(by decide), (by decide)⟩
    · refine vx_catch (E := "java/lang/IllegalStateException") (name := "java/lang/IllegalStateException") cx.2.2.2.1 [⟨0, 14, 17, 35⟩, ⟨0, 14, 21, 19⟩] ⟨0, 14, 25, 13⟩ [] (htab.trans rfl) (q_pcons (Or.inr ⟨by decide, "java/lang/IndexOutOfBoundsException", cx.2.2.2.2 _ q_h1225, hX.2.2.2.2.1 ("java/lang/IllegalStateException", "java/lang/IndexOutOfBoundsException") (by decide)⟩) (q_pcons (Or.inr ⟨by decide, "java/lang/IllegalArgumentException", cx.2.2.2.2 _ q_h875, hX.2.2.2.2.1 ("java/lang/IllegalStateException", "java/lang/IllegalArgumentException") (by decide)⟩) (q_pnil))) (by decide) (by decide) (cx.2.2.2.2 _ q_h792) (va_Nw.use rfl (hX.2.2.2.1 (.castable "java/lang/IllegalStateException" "java/lang/IllegalStateException") (by decide +kernel))) hcell hcv hcl ?_
      refine lv_astore (lv' := [(6, .ref q9), (0, .ref x), (1, .int (q_i a0)), (2, .int (q_i b0)), (3, .int (q_i c0)), (4, .int (q_i z0)), (5, .ref out)]) cx.1 cx.2.1 dL_send_25 hl (by decide) rfl (fun ls hl => ?_)
      refine q_iconst cx dL_send_27 ?_
      refine W.widen (k := 3) (n := 18) (by decide) (by decide) ?_
      refine q_iret cx hr hlk hB dL_send_28 ⟨by decide, by decide⟩ ?_
      exact ⟨(by decide), (by decide)⟩
  · obtain ⟨y28, rfl, ry28, h29⟩ := h29
    refine W.eq (g2 := F0 m 12 ls [.int (q_i y28), .int (q_i 0), .ref out]) rfl ?_
    have z31 : q_ir (q_r f27 x 0) src := Eq.trans (hF.r hx (by rw [kx]; rfl)) hr0
    have z32 : q_ir (q_r f27 x 1) rdr := Eq.trans (hF.r hx (by rw [kx]; rfl)) hr1
    have z33 : q_ir (q_r f27 x 2) scr := Eq.trans (hF.r hx (by rw [kx]; rfl)) hr2
    have z34 : q_ir (q_r f27 x 3) fc := Eq.trans (hF.r hx (by rw [kx]; rfl)) hr3
    have z35 : q_ir (q_r f27 x 4) hist := Eq.trans (hF.r hx (by rw [kx]; rfl)) hr4
    have z36 : q_ir (q_r f27 x 5) rep := Eq.trans (hF.r hx (by rw [kx]; rfl)) hr5
    have z37 : q_ir (q_r f27 x 6) now := Eq.trans (hF.r hx (by rw [kx]; rfl)) hr6
    have z38 : q_ir (q_r f27 x 7) dr := Eq.trans (hF.r hx (by rw [kx]; rfl)) hr7
    have z39 : q_ir (q_r f27 x 8) sv := Eq.trans (hF.r hx (by rw [kx]; rfl)) hr8
    have z40 : q_ir (q_r f27 fc 0) tr := Eq.trans (hF.r hfc (by rw [kfc]; rfl)) hr9
    refine q_i2l cx ⟨by omega, by omega⟩ dL_send_12 ?_
    refine q_last (n := 1) cx hB hout kout (by decide) rfl rfl (by decide) (by decide) (by decide) rfl rfl dL_send_13 (fun H locs f41 ef41 z42 hB => ?_)
    have z43 : q_ir (q_r f41 x 0) src := by rw [ef41, q_setr (Or.inl (fun q => by rw [q, kout] at kx; exact absurd kx (by decide)))]; exact z31
    have z44 : q_ir (q_r f41 x 1) rdr := by rw [ef41, q_setr (Or.inr (by decide))]; exact z32
    have z45 : q_ir (q_r f41 x 2) scr := by rw [ef41, q_setr (Or.inr (by decide))]; exact z33
    have z46 : q_ir (q_r f41 x 3) fc := by rw [ef41, q_setr (Or.inr (by decide))]; exact z34
    have z47 : q_ir (q_r f41 x 4) hist := by rw [ef41, q_setr (Or.inr (by decide))]; exact z35
    have z48 : q_ir (q_r f41 x 5) rep := by rw [ef41, q_setr (Or.inr (by decide))]; exact z36
    have z49 : q_ir (q_r f41 x 6) now := by rw [ef41, q_setr (Or.inr (by decide))]; exact z37
    have z50 : q_ir (q_r f41 x 7) dr := by rw [ef41, q_setr (Or.inr (by decide))]; exact z38
    have z51 : q_ir (q_r f41 x 8) sv := by rw [ef41, q_setr (Or.inr (by decide))]; exact z39
    have z52 : q_ir (q_r f41 fc 0) tr := by rw [ef41, q_setr (Or.inl (fun q => by rw [q, kout] at kfc; exact absurd kfc (by decide)))]; exact z40
    refine lv_goto (tgt := 29) cx.1 cx.2.1 dL_send_14 (by decide) ?_
    refine q_iconst cx dL_send_29 ?_
    refine W.widen (k := 3) (n := 18) (by decide) (by decide) ?_
    refine q_iret cx hr hlk hB dL_send_30 ⟨by decide, by decide⟩ ?_
    exact ⟨(by decide), (by decide)⟩
set_option maxHeartbeats 4000000 in
set_option maxRecDepth 100000 in
theorem w_setShift (l : Launch) (g : q_G) (ad : Nat → Nat) {K : Nat → Nat} {L : List Nat} (hN : L.Nodup) {f : Nat → va_E} (hT : q_Ty g K L f) (hfl : l.stackTraces = false) (x : Nat) (hx : x ∈ L) (kx : K x = 11) (a0 : Int) (la0 : (-2147483648) ≤ a0) (ua0 : a0 ≤ 2147483647) (b0 : Int) (lb0 : (-2147483648) ≤ b0) (ub0 : b0 ≤ 2147483647) (out : Nat) (hout : out ∈ L) (kout : K out = 168) (src : Nat) (hsrc : src ∈ L) (ksrc : K src = 8) (rdr : Nat) (hrdr : rdr ∈ L) (krdr : K rdr = 9) (scr : Nat) (hscr : scr ∈ L) (kscr : K scr = 7) (fc : Nat) (hfc : fc ∈ L) (kfc : K fc = 1) (hist : Nat) (hhist : hist ∈ L) (khist : K hist = 2) (rep : Nat) (hrep : rep ∈ L) (krep : K rep = 6) (now : Nat) (hnow : now ∈ L) (know : K now = 10) (dr : Nat) (hdr : dr ∈ L) (kdr : K dr = 13) (sv : Nat) (hsv : sv ∈ L) (ksv : K sv = 14) (tr : Nat) (htr : tr ∈ L) (ktr : K tr = 15) (hr0 : q_ir (q_r f x 0) src) (hr1 : q_ir (q_r f x 1) rdr) (hr2 : q_ir (q_r f x 2) scr) (hr3 : q_ir (q_r f x 3) fc) (hr4 : q_ir (q_r f x 4) hist) (hr5 : q_ir (q_r f x 5) rep) (hr6 : q_ir (q_r f x 6) now) (hr7 : q_ir (q_r f x 7) dr) (hr8 : q_ir (q_r f x 8) sv) (hr9 : q_ir (q_r f fc 0) tr) : q_Wt l g ad K L yL_setShift cL_setShift 5 (some .int) [(0, 10, 13, 35), (0, 10, 17, 19)] 8 126 2 12 [.ref x, .int (q_i a0), .int (q_i b0), .ref out] f [(2, 1, 2), (5, 3, 3), (16, 3, 12), (20, 0, 8), (24, 0, 4), (28, 0, 7), (168, 0, 0)] (q_Pi (fun (z : Int) (f1 : Nat → va_E) => 0 ≤ z ∧ z ≤ 3)) := by
  refine q_wofb (by decide +kernel) hN hT (Nat.le_of_ble_eq_true rfl) ?_
  intro p e s m below meth c ls cx hr hlk htab hX hB hl
  have hl : lv_has ls 5 [(0, .ref x), (1, .int (q_i a0)), (2, .int (q_i b0)), (3, .ref out)] := hl
  obtain ⟨H, hH⟩ : ∃ H : Heap, H = s.heap := ⟨_, rfl⟩
  obtain ⟨locs, hlocs⟩ : ∃ z : List Loc, z = [] := ⟨_, rfl⟩
  rw [← hH, ← hlocs] at hB
  rw [← hH, ← hlocs]
  refine q_ald_n cx dL_setShift_0 rfl (lv_at hl 3 rfl) ?_
  refine q_iconst cx dL_setShift_1 ?_
  refine q_ald_n cx dL_setShift_2 rfl (lv_at hl 0 rfl) ?_
  refine q_ild_n cx dL_setShift_3 rfl (lv_at hl 1 rfl) ?_
  refine q_ild_n cx dL_setShift_4 rfl (lv_at hl 2 rfl) ?_
  refine q_cXV (As := [.int (q_i a0), .int (q_i b0)]) (rest := [.int (q_i 0), .ref out]) cx hX hB (fun _ h => h) (fun _ h _ => h) hN hx kx (by decide) rfl (x_setShift l g ad hN hB.2.1 hfl x hx kx a0 (by omega) (by omega) b0 (by omega) (by omega) src hsrc ksrc rdr hrdr krdr scr hscr kscr fc hfc kfc hist hhist khist rep hrep krep now hnow know dr hdr kdr sv hsv ksv tr htr ktr hr0 hr1 hr2 hr3 hr4 hr5 hr6 hr7 hr8 hr9) q_cL_92 q_dX11_setShift (by decide) rfl rfl hl.1 rfl (Nat.le_of_ble_eq_true rfl) dL_setShift_5 (fun E9 ce9 q9 H locs f30 hex hF hB hcell hcv hcl => ?_) (fun v9 H locs f27 h29 hF hB => ?_)
  · rcases hex with ⟨rfl, rfl⟩ | ⟨rfl, rfl⟩
    · refine vx_catch (E := "java/lang/IndexOutOfBoundsException") (name := "java/lang/IndexOutOfBoundsException") cx.2.2.2.1 [] ⟨0, 10, 13, 35⟩ [⟨0, 10, 17, 19⟩] (htab.trans rfl) (q_pnil) (by decide) (by decide) (cx.2.2.2.2 _ q_h1225) (va_Nw.use rfl (hX.2.2.2.1 (.castable "java/lang/IndexOutOfBoundsException" "java/lang/IndexOutOfBoundsException") (by decide +kernel))) hcell hcv hcl ?_
      refine lv_astore (lv' := [(4, .ref q9), (0, .ref x), (1, .int (q_i a0)), (2, .int (q_i b0)), (3, .ref out)]) cx.1 cx.2.1 dL_setShift_13 hl (by decide) rfl (fun ls hl => ?_)
      refine q_iconst cx dL_setShift_15 ?_
      refine W.widen (k := 2) (n := 12) (by decide) (by decide) ?_
      refine q_iret cx hr hlk hB dL_setShift_16 ⟨by decide, by decide⟩ ?_
      exact ⟨(by decide), (by decide)⟩
    · refine vx_catch (E := "java/lang/IllegalArgumentException") (name := "java/lang/IllegalArgumentException") cx.2.2.2.1 [⟨0, 10, 13, 35⟩] ⟨0, 10, 17, 19⟩ [] (htab.trans rfl) (q_pcons (Or.inr ⟨by decide, "java/lang/IndexOutOfBoundsException", cx.2.2.2.2 _ q_h1225, hX.2.2.2.2.1 ("java/lang/IllegalArgumentException", "java/lang/IndexOutOfBoundsException") (by decide)⟩) (q_pnil)) (by decide) (by decide) (cx.2.2.2.2 _ q_h875) (va_Nw.use rfl (hX.2.2.2.1 (.castable "java/lang/IllegalArgumentException" "java/lang/IllegalArgumentException") (by decide +kernel))) hcell hcv hcl ?_
      refine lv_astore (lv' := [(4, .ref q9), (0, .ref x), (1, .int (q_i a0)), (2, .int (q_i b0)), (3, .ref out)]) cx.1 cx.2.1 dL_setShift_17 hl (by decide) rfl (fun ls hl => ?_)
      refine q_iconst cx dL_setShift_19 ?_
      refine W.widen (k := 2) (n := 12) (by decide) (by decide) ?_
      refine q_iret cx hr hlk hB dL_setShift_20 ⟨by decide, by decide⟩ ?_
      exact ⟨(by decide), (by decide)⟩
  · obtain ⟨y28, rfl, ry28, h29⟩ := h29
    refine W.eq (g2 := F0 m 8 ls [.int (q_i y28), .int (q_i 0), .ref out]) rfl ?_
    have z31 : q_ir (q_r f27 x 0) src := Eq.trans (hF.r hx (by rw [kx]; rfl)) hr0
    have z32 : q_ir (q_r f27 x 1) rdr := Eq.trans (hF.r hx (by rw [kx]; rfl)) hr1
    have z33 : q_ir (q_r f27 x 2) scr := Eq.trans (hF.r hx (by rw [kx]; rfl)) hr2
    have z34 : q_ir (q_r f27 x 3) fc := Eq.trans (hF.r hx (by rw [kx]; rfl)) hr3
    have z35 : q_ir (q_r f27 x 4) hist := Eq.trans (hF.r hx (by rw [kx]; rfl)) hr4
    have z36 : q_ir (q_r f27 x 5) rep := Eq.trans (hF.r hx (by rw [kx]; rfl)) hr5
    have z37 : q_ir (q_r f27 x 6) now := Eq.trans (hF.r hx (by rw [kx]; rfl)) hr6
    have z38 : q_ir (q_r f27 x 7) dr := Eq.trans (hF.r hx (by rw [kx]; rfl)) hr7
    have z39 : q_ir (q_r f27 x 8) sv := Eq.trans (hF.r hx (by rw [kx]; rfl)) hr8
    have z40 : q_ir (q_r f27 fc 0) tr := Eq.trans (hF.r hfc (by rw [kfc]; rfl)) hr9
    refine q_i2l cx ⟨by omega, by omega⟩ dL_setShift_8 ?_
    refine q_last (n := 1) cx hB hout kout (by decide) rfl rfl (by decide) (by decide) (by decide) rfl rfl dL_setShift_9 (fun H locs f41 ef41 z42 hB => ?_)
    have z43 : q_ir (q_r f41 x 0) src := by rw [ef41, q_setr (Or.inl (fun q => by rw [q, kout] at kx; exact absurd kx (by decide)))]; exact z31
    have z44 : q_ir (q_r f41 x 1) rdr := by rw [ef41, q_setr (Or.inr (by decide))]; exact z32
    have z45 : q_ir (q_r f41 x 2) scr := by rw [ef41, q_setr (Or.inr (by decide))]; exact z33
    have z46 : q_ir (q_r f41 x 3) fc := by rw [ef41, q_setr (Or.inr (by decide))]; exact z34
    have z47 : q_ir (q_r f41 x 4) hist := by rw [ef41, q_setr (Or.inr (by decide))]; exact z35
    have z48 : q_ir (q_r f41 x 5) rep := by rw [ef41, q_setr (Or.inr (by decide))]; exact z36
    have z49 : q_ir (q_r f41 x 6) now := by rw [ef41, q_setr (Or.inr (by decide))]; exact z37
    have z50 : q_ir (q_r f41 x 7) dr := by rw [ef41, q_setr (Or.inr (by decide))]; exact z38
    have z51 : q_ir (q_r f41 x 8) sv := by rw [ef41, q_setr (Or.inr (by decide))]; exact z39
    have z52 : q_ir (q_r f41 fc 0) tr := by rw [ef41, q_setr (Or.inl (fun q => by rw [q, kout] at kfc; exact absurd kfc (by decide)))]; exact z40
    refine lv_goto (tgt := 21) cx.1 cx.2.1 dL_setShift_10 (by decide) ?_
    refine q_iconst cx dL_setShift_21 ?_
    refine W.widen (k := 2) (n := 12) (by decide) (by decide) ?_
    refine q_iret cx hr hlk hB dL_setShift_22 ⟨by decide, by decide⟩ ?_
    exact ⟨(by decide), (by decide)⟩
set_option maxHeartbeats 4000000 in
set_option maxRecDepth 100000 in
theorem w_watch (l : Launch) (g : q_G) (ad : Nat → Nat) {K : Nat → Nat} {L : List Nat} (hN : L.Nodup) {f : Nat → va_E} (hT : q_Ty g K L f) (hfl : l.stackTraces = false) (x : Nat) (hx : x ∈ L) (kx : K x = 11) (a0 : Int) (la0 : (-2147483648) ≤ a0) (ua0 : a0 ≤ 2147483647) (b0 : Int) (lb0 : (-2147483648) ≤ b0) (ub0 : b0 ≤ 2147483647) (z0 : Int) (lz0 : 0 ≤ z0) (uz0 : z0 ≤ 1) (out : Nat) (hout : out ∈ L) (kout : K out = 168) (src : Nat) (hsrc : src ∈ L) (ksrc : K src = 8) (rdr : Nat) (hrdr : rdr ∈ L) (krdr : K rdr = 9) (scr : Nat) (hscr : scr ∈ L) (kscr : K scr = 7) (fc : Nat) (hfc : fc ∈ L) (kfc : K fc = 1) (hist : Nat) (hhist : hist ∈ L) (khist : K hist = 2) (rep : Nat) (hrep : rep ∈ L) (krep : K rep = 6) (now : Nat) (hnow : now ∈ L) (know : K now = 10) (dr : Nat) (hdr : dr ∈ L) (kdr : K dr = 13) (sv : Nat) (hsv : sv ∈ L) (ksv : K sv = 14) (tr : Nat) (htr : tr ∈ L) (ktr : K tr = 15) (hr0 : q_ir (q_r f x 0) src) (hr1 : q_ir (q_r f x 1) rdr) (hr2 : q_ir (q_r f x 2) scr) (hr3 : q_ir (q_r f x 3) fc) (hr4 : q_ir (q_r f x 4) hist) (hr5 : q_ir (q_r f x 5) rep) (hr6 : q_ir (q_r f x 6) now) (hr7 : q_ir (q_r f x 7) dr) (hr8 : q_ir (q_r f x 8) sv) (hr9 : q_ir (q_r f fc 0) tr) : q_Wt l g ad K L yL_watch cL_watch 6 (some .int) [(0, 19, 22, 35), (0, 19, 26, 19)] 8 126 2 12 [.ref x, .int (q_i a0), .int (q_i b0), .int (q_i z0), .ref out] f [(2, 1, 2), (5, 1, 1), (16, 3, 12), (20, 0, 8), (24, 0, 4), (28, 0, 7), (168, 0, 0)] (q_Pi (fun (z : Int) (f1 : Nat → va_E) => 0 ≤ z ∧ z ≤ 3)) := by
  refine q_wofb (by decide +kernel) hN hT (Nat.le_of_ble_eq_true rfl) ?_
  intro p e s m below meth c ls cx hr hlk htab hX hB hl
  have hl : lv_has ls 6 [(0, .ref x), (1, .int (q_i a0)), (2, .int (q_i b0)), (3, .int (q_i z0)), (4, .ref out)] := hl
  obtain ⟨H, hH⟩ : ∃ H : Heap, H = s.heap := ⟨_, rfl⟩
  obtain ⟨locs, hlocs⟩ : ∃ z : List Loc, z = [] := ⟨_, rfl⟩
  rw [← hH, ← hlocs] at hB
  rw [← hH, ← hlocs]
  refine lv_aload cx.1 cx.2.1 dL_watch_0 (lv_at hl 4 rfl) ?_
  refine q_iconst cx dL_watch_2 ?_
  refine q_ald_n cx dL_watch_3 rfl (lv_at hl 0 rfl) ?_
  refine q_ild_n cx dL_watch_4 rfl (lv_at hl 1 rfl) ?_
  refine q_ild_n cx dL_watch_5 rfl (lv_at hl 2 rfl) ?_
  refine q_ild_n cx dL_watch_6 rfl (lv_at hl 3 rfl) ?_
  refine q_cXV (As := [.int (q_i a0), .int (q_i b0), .int (q_i z0)]) (rest := [.int (q_i 0), .ref out]) cx hX hB (fun _ h => h) (fun _ h _ => h) hN hx kx (by decide) rfl (x_watch l g ad hN hB.2.1 hfl x hx kx a0 (by omega) (by omega) b0 (by omega) (by omega) z0 (by omega) (by omega) src hsrc ksrc rdr hrdr krdr scr hscr kscr fc hfc kfc hist hhist khist rep hrep krep now hnow know dr hdr kdr sv hsv ksv tr htr ktr hr0 hr1 hr2 hr3 hr4 hr5 hr6 hr7 hr8 hr9) q_cL_95 q_dX11_watch (by decide) rfl rfl hl.1 rfl (Nat.le_of_ble_eq_true rfl) dL_watch_7 (fun E9 ce9 q9 H locs f43 hex hF hB hcell hcv hcl => ?_) (fun v9 H locs f40 h42 hF hB => ?_)
  · rcases hex with ⟨rfl, rfl⟩ | ⟨rfl, rfl⟩
    · refine vx_catch (E := "java/lang/IndexOutOfBoundsException") (name := "java/lang/IndexOutOfBoundsException") cx.2.2.2.1 [] ⟨0, 19, 22, 35⟩ [⟨0, 19, 26, 19⟩] (htab.trans rfl) (q_pnil) (by decide) (by decide) (cx.2.2.2.2 _ q_h1225) (va_Nw.use rfl (hX.2.2.2.1 (.castable "java/lang/IndexOutOfBoundsException" "java/lang/IndexOutOfBoundsException") (by decide +kernel))) hcell hcv hcl ?_
      refine lv_astore (lv' := [(5, .ref q9), (0, .ref x), (1, .int (q_i a0)), (2, .int (q_i b0)), (3, .int (q_i z0)), (4, .ref out)]) cx.1 cx.2.1 dL_watch_22 hl (by decide) rfl (fun ls hl => ?_)
      refine q_iconst cx dL_watch_24 ?_
      refine W.widen (k := 2) (n := 12) (by decide) (by decide) ?_
      refine q_iret cx hr hlk hB dL_watch_25 ⟨by decide, by decide⟩ ?_
      exact ⟨(by decide), (by decide)⟩
    · refine vx_catch (E := "java/lang/IllegalArgumentException") (name := "java/lang/IllegalArgumentException") cx.2.2.2.1 [⟨0, 19, 22, 35⟩] ⟨0, 19, 26, 19⟩ [] (htab.trans rfl) (q_pcons (Or.inr ⟨by decide, "java/lang/IndexOutOfBoundsException", cx.2.2.2.2 _ q_h1225, hX.2.2.2.2.1 ("java/lang/IllegalArgumentException", "java/lang/IndexOutOfBoundsException") (by decide)⟩) (q_pnil)) (by decide) (by decide) (cx.2.2.2.2 _ q_h875) (va_Nw.use rfl (hX.2.2.2.1 (.castable "java/lang/IllegalArgumentException" "java/lang/IllegalArgumentException") (by decide +kernel))) hcell hcv hcl ?_
      refine lv_astore (lv' := [(5, .ref q9), (0, .ref x), (1, .int (q_i a0)), (2, .int (q_i b0)), (3, .int (q_i z0)), (4, .ref out)]) cx.1 cx.2.1 dL_watch_26 hl (by decide) rfl (fun ls hl => ?_)
      refine q_iconst cx dL_watch_28 ?_
      refine W.widen (k := 2) (n := 12) (by decide) (by decide) ?_
      refine q_iret cx hr hlk hB dL_watch_29 ⟨by decide, by decide⟩ ?_
      exact ⟨(by decide), (by decide)⟩
  · obtain ⟨y41, rfl, ry41, h42⟩ := h42
    refine W.eq (g2 := F0 m 10 ls [.int (q_i y41), .int (q_i 0), .ref out]) rfl ?_
    obtain ⟨ly41, uy41⟩ := h42
    have z44 : q_ir (q_r f40 x 0) src := Eq.trans (hF.r hx (by rw [kx]; rfl)) hr0
    have z45 : q_ir (q_r f40 x 1) rdr := Eq.trans (hF.r hx (by rw [kx]; rfl)) hr1
    have z46 : q_ir (q_r f40 x 2) scr := Eq.trans (hF.r hx (by rw [kx]; rfl)) hr2
    have z47 : q_ir (q_r f40 x 3) fc := Eq.trans (hF.r hx (by rw [kx]; rfl)) hr3
    have z48 : q_ir (q_r f40 x 4) hist := Eq.trans (hF.r hx (by rw [kx]; rfl)) hr4
    have z49 : q_ir (q_r f40 x 5) rep := Eq.trans (hF.r hx (by rw [kx]; rfl)) hr5
    have z50 : q_ir (q_r f40 x 6) now := Eq.trans (hF.r hx (by rw [kx]; rfl)) hr6
    have z51 : q_ir (q_r f40 x 7) dr := Eq.trans (hF.r hx (by rw [kx]; rfl)) hr7
    have z52 : q_ir (q_r f40 x 8) sv := Eq.trans (hF.r hx (by rw [kx]; rfl)) hr8
    have z53 : q_ir (q_r f40 fc 0) tr := Eq.trans (hF.r hfc (by rw [kfc]; rfl)) hr9
    refine q_ifeq (tgt := 17) cx ⟨by omega, by omega⟩ dL_watch_10 (by decide) (fun c54 => ?_) (fun c54 => ?_)
    · refine q_lconst (z := 0) cx (by decide) dL_watch_17 ?_
      refine q_last (n := 1) cx hB hout kout (by decide) rfl rfl (by decide) (by decide) (by decide) rfl rfl dL_watch_18 (fun H locs f55 ef55 z56 hB => ?_)
      have z57 : q_ir (q_r f55 x 0) src := by rw [ef55, q_setr (Or.inl (fun q => by rw [q, kout] at kx; exact absurd kx (by decide)))]; exact z44
      have z58 : q_ir (q_r f55 x 1) rdr := by rw [ef55, q_setr (Or.inr (by decide))]; exact z45
      have z59 : q_ir (q_r f55 x 2) scr := by rw [ef55, q_setr (Or.inr (by decide))]; exact z46
      have z60 : q_ir (q_r f55 x 3) fc := by rw [ef55, q_setr (Or.inr (by decide))]; exact z47
      have z61 : q_ir (q_r f55 x 4) hist := by rw [ef55, q_setr (Or.inr (by decide))]; exact z48
      have z62 : q_ir (q_r f55 x 5) rep := by rw [ef55, q_setr (Or.inr (by decide))]; exact z49
      have z63 : q_ir (q_r f55 x 6) now := by rw [ef55, q_setr (Or.inr (by decide))]; exact z50
      have z64 : q_ir (q_r f55 x 7) dr := by rw [ef55, q_setr (Or.inr (by decide))]; exact z51
      have z65 : q_ir (q_r f55 x 8) sv := by rw [ef55, q_setr (Or.inr (by decide))]; exact z52
      have z66 : q_ir (q_r f55 fc 0) tr := by rw [ef55, q_setr (Or.inl (fun q => by rw [q, kout] at kfc; exact absurd kfc (by decide)))]; exact z53
      refine lv_goto (tgt := 30) cx.1 cx.2.1 dL_watch_19 (by decide) ?_
      refine q_iconst cx dL_watch_30 ?_
      refine W.widen (k := 2) (n := 12) (by decide) (by decide) ?_
      refine q_iret cx hr hlk hB dL_watch_31 ⟨by decide, by decide⟩ ?_
      exact ⟨(by decide), (by decide)⟩
    · refine q_lconst (z := 1) cx (by decide) dL_watch_13 ?_
      refine lv_goto (tgt := 18) cx.1 cx.2.1 dL_watch_14 (by decide) ?_
      refine q_last (n := 1) cx hB hout kout (by decide) rfl rfl (by decide) (by decide) (by decide) rfl rfl dL_watch_18 (fun H locs f67 ef67 z68 hB => ?_)
      have z69 : q_ir (q_r f67 x 0) src := by rw [ef67, q_setr (Or.inl (fun q => by rw [q, kout] at kx; exact absurd kx (by decide)))]; exact z44
      have z70 : q_ir (q_r f67 x 1) rdr := by rw [ef67, q_setr (Or.inr (by decide))]; exact z45
      have z71 : q_ir (q_r f67 x 2) scr := by rw [ef67, q_setr (Or.inr (by decide))]; exact z46
      have z72 : q_ir (q_r f67 x 3) fc := by rw [ef67, q_setr (Or.inr (by decide))]; exact z47
      have z73 : q_ir (q_r f67 x 4) hist := by rw [ef67, q_setr (Or.inr (by decide))]; exact z48
      have z74 : q_ir (q_r f67 x 5) rep := by rw [ef67, q_setr (Or.inr (by decide))]; exact z49
      have z75 : q_ir (q_r f67 x 6) now := by rw [ef67, q_setr (Or.inr (by decide))]; exact z50
      have z76 : q_ir (q_r f67 x 7) dr := by rw [ef67, q_setr (Or.inr (by decide))]; exact z51
      have z77 : q_ir (q_r f67 x 8) sv := by rw [ef67, q_setr (Or.inr (by decide))]; exact z52
      have z78 : q_ir (q_r f67 fc 0) tr := by rw [ef67, q_setr (Or.inl (fun q => by rw [q, kout] at kfc; exact absurd kfc (by decide)))]; exact z53
      refine lv_goto (tgt := 30) cx.1 cx.2.1 dL_watch_19 (by decide) ?_
      refine q_iconst cx dL_watch_30 ?_
      refine W.widen (k := 2) (n := 12) (by decide) (by decide) ?_
      refine q_iret cx hr hlk hB dL_watch_31 ⟨by decide, by decide⟩ ?_
      exact ⟨(by decide), (by decide)⟩
