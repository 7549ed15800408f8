set_option maxHeartbeats 4000000 in
set_option maxRecDepth 100000 in
theorem w_setBorn (l : Launch) (g : q_G) (ad : Nat → Nat) {K : Nat → Nat} {L : List Nat} (hN : L.Nodup) {f : Nat → va_E} (hT : q_Ty g K L f) (hfl : l.stackTraces = false) (x : Nat) (hx : x ∈ L) (kx : K x = 11) (a0 : Int) (la0 : (-2147483648) ≤ a0) (ua0 : a0 ≤ 2147483647) (b0 : Int) (lb0 : (-2147483648) ≤ b0) (ub0 : b0 ≤ 2147483647) (out : Nat) (hout : out ∈ L) (kout : K out = 168) (src : Nat) (hsrc : src ∈ L) (ksrc : K src = 8) (rdr : Nat) (hrdr : rdr ∈ L) (krdr : K rdr = 9) (scr : Nat) (hscr : scr ∈ L) (kscr : K scr = 7) (fc : Nat) (hfc : fc ∈ L) (kfc : K fc = 1) (hist : Nat) (hhist : hist ∈ L) (khist : K hist = 2) (rep : Nat) (hrep : rep ∈ L) (krep : K rep = 6) (now : Nat) (hnow : now ∈ L) (know : K now = 10) (dr : Nat) (hdr : dr ∈ L) (kdr : K dr = 13) (sv : Nat) (hsv : sv ∈ L) (ksv : K sv = 14) (tr : Nat) (htr : tr ∈ L) (ktr : K tr = 15) (hr0 : q_ir (q_r f x 0) src) (hr1 : q_ir (q_r f x 1) rdr) (hr2 : q_ir (q_r f x 2) scr) (hr3 : q_ir (q_r f x 3) fc) (hr4 : q_ir (q_r f x 4) hist) (hr5 : q_ir (q_r f x 5) rep) (hr6 : q_ir (q_r f x 6) now) (hr7 : q_ir (q_r f x 7) dr) (hr8 : q_ir (q_r f x 8) sv) (hr9 : q_ir (q_r f fc 0) tr) : q_Wt l g ad K L yL_setBorn cL_setBorn 5 (some .int) [(0, 10, 13, 35), (0, 10, 17, 19)] 8 126 2 12 [.ref x, .int (q_i a0), .int (q_i b0), .ref out] f [(2, 1, 2), (5, 2, 2), (16, 3, 12), (20, 0, 8), (24, 0, 4), (28, 0, 7), (168, 0, 0)] (q_Pi (fun (z : Int) (f1 : Nat → va_E) => 0 ≤ z ∧ z ≤ 3)) := by
  refine q_wofb (by decide +kernel) hN hT (Nat.le_of_ble_eq_true rfl) ?_
  intro p e s m below meth c ls cx hr hlk htab hX hB hl
  have hl : lv_has ls 5 [(0, .ref x), (1, .int (q_i a0)), (2, .int (q_i b0)), (3, .ref out)] := hl
  obtain ⟨H, hH⟩ : ∃ H : Heap, H = s.heap := ⟨_, rfl⟩
  obtain ⟨locs, hlocs⟩ : ∃ z : List Loc, z = [] := ⟨_, rfl⟩
  rw [← hH, ← hlocs] at hB
  rw [← hH, ← hlocs]
  refine q_ald_n cx dL_setBorn_0 rfl (lv_at hl 3 rfl) ?_
  refine q_iconst cx dL_setBorn_1 ?_
  refine q_ald_n cx dL_setBorn_2 rfl (lv_at hl 0 rfl) ?_
  refine q_ild_n cx dL_setBorn_3 rfl (lv_at hl 1 rfl) ?_
  refine q_ild_n cx dL_setBorn_4 rfl (lv_at hl 2 rfl) ?_
  refine q_cXV (As := [.int (q_i a0), .int (q_i b0)]) (rest := [.int (q_i 0), .ref out]) cx hX hB (fun _ h => h) (fun _ h _ => h) hN hx kx (by decide) rfl (x_setBorn l g ad hN hB.2.1 hfl x hx kx a0 (by omega) (by omega) b0 (by omega) (by omega) src hsrc ksrc rdr hrdr krdr scr hscr kscr fc hfc kfc hist hhist khist rep hrep krep now hnow know dr hdr kdr sv hsv ksv tr htr ktr hr0 hr1 hr2 hr3 hr4 hr5 hr6 hr7 hr8 hr9) q_cL_99 q_dX11_setBorn (by decide) rfl rfl hl.1 rfl (Nat.le_of_ble_eq_true rfl) dL_setBorn_5 (fun E9 ce9 q9 H locs f30 hex hF hB hcell hcv hcl => ?_) (fun v9 H locs f27 h29 hF hB => ?_)
  · rcases hex with ⟨rfl, rfl⟩ | ⟨rfl, rfl⟩
    · refine vx_catch (E := "java/lang/IndexOutOfBoundsException") (name := "java/lang/IndexOutOfBoundsException") cx.2.2.2.1 [] ⟨0, 10, 13, 35⟩ [⟨0, 10, 17, 19⟩] (htab.trans rfl) (q_pnil) (by decide) (by decide) (cx.2.2.2.2 _ q_h1225) (va_Nw.use rfl (hX.2.2.2.1 (.castable "java/lang/IndexOutOfBoundsException" "java/lang/IndexOutOfBoundsException") (by decide +kernel))) hcell hcv hcl ?_
      refine lv_astore (lv' := [(4, .ref q9), (0, .ref x), (1, .int (q_i a0)), (2, .int (q_i b0)), (3, .ref out)]) cx.1 cx.2.1 dL_setBorn_13 hl (by decide) rfl (fun ls hl => ?_)
      refine q_iconst cx dL_setBorn_15 ?_
      refine W.widen (k := 2) (n := 12) (by decide) (by decide) ?_
      refine q_iret cx hr hlk hB dL_setBorn_16 ⟨by decide, by decide⟩ ?_
      exact ⟨(by decide), (by decide)⟩
    · refine vx_catch (E := "java/lang/IllegalArgumentException") (name := "java/lang/IllegalArgumentException") cx.2.2.2.1 [⟨0, 10, 13, 35⟩] ⟨0, 10, 17, 19⟩ [] (htab.trans rfl) (q_pcons (Or.inr ⟨by decide, "java/lang/IndexOutOfBoundsException", cx.2.2.2.2 _ q_h1225, hX.2.2.2.2.1 ("java/lang/IllegalArgumentException", "java/lang/IndexOutOfBoundsException") (by decide)⟩) (q_pnil)) (by decide) (by decide) (cx.2.2.2.2 _ q_h875) (va_Nw.use rfl (hX.2.2.2.1 (.castable "java/lang/IllegalArgumentException" "java/lang/IllegalArgumentException") (by decide +kernel))) hcell hcv hcl ?_
      refine lv_astore (lv' := [(4, .ref q9), (0, .ref x), (1, .int (q_i a0)), (2, .int (q_i b0)), (3, .ref out)]) cx.1 cx.2.1 dL_setBorn_17 hl (by decide) rfl (fun ls hl => ?_)
      refine q_iconst cx dL_setBorn_19 ?_
      refine W.widen (k := 2) (n := 12) (by decide) (by decide) ?_
      refine q_iret cx hr hlk hB dL_setBorn_20 ⟨by decide, by decide⟩ ?_
      exact ⟨(by decide), (by decide)⟩
  · obtain ⟨y28, rfl, ry28, h29⟩ := h29
    refine W.eq (g2 := F0 m 8 ls [.int (q_i y28), .int (q_i 0), .ref out]) rfl ?_
    have z31 : q_ir (q_r f27 x 0) src := Eq.trans (hF.r hx (by rw [kx]; rfl)) hr0
    have z32 : q_ir (q_r f27 x 1) rdr := Eq.trans (hF.r hx (by rw [kx]; rfl)) hr1
    have z33 : q_ir (q_r f27 x 2) scr := Eq.trans (hF.r hx (by rw [kx]; rfl)) hr2
    have z34 : q_ir (q_r f27 x 3) fc := Eq.trans (hF.r hx (by rw [kx]; rfl)) hr3
    have z35 : q_ir (q_r f27 x 4) hist := Eq.trans (hF.r hx (by rw [kx]; rfl)) hr4
    have z36 : q_ir (q_r f27 x 5) rep := Eq.trans (hF.r hx (by rw [kx]; rfl)) hr5
    have z37 : q_ir (q_r f27 x 6) now := Eq.trans (hF.r hx (by rw [kx]; rfl)) hr6
    have z38 : q_ir (q_r f27 x 7) dr := Eq.trans (hF.r hx (by rw [kx]; rfl)) hr7
    have z39 : q_ir (q_r f27 x 8) sv := Eq.trans (hF.r hx (by rw [kx]; rfl)) hr8
    have z40 : q_ir (q_r f27 fc 0) tr := Eq.trans (hF.r hfc (by rw [kfc]; rfl)) hr9
    refine q_i2l cx ⟨by omega, by omega⟩ dL_setBorn_8 ?_
    refine q_last (n := 1) cx hB hout kout (by decide) rfl rfl (by decide) (by decide) (by decide) rfl rfl dL_setBorn_9 (fun H locs f41 ef41 z42 hB => ?_)
    have z43 : q_ir (q_r f41 x 0) src := by rw [ef41, q_setr (Or.inl (fun q => by rw [q, kout] at kx; exact absurd kx (by decide)))]; exact z31
    have z44 : q_ir (q_r f41 x 1) rdr := by rw [ef41, q_setr (Or.inr (by decide))]; exact z32
    have z45 : q_ir (q_r f41 x 2) scr := by rw [ef41, q_setr (Or.inr (by decide))]; exact z33
    have z46 : q_ir (q_r f41 x 3) fc := by rw [ef41, q_setr (Or.inr (by decide))]; exact z34
    have z47 : q_ir (q_r f41 x 4) hist := by rw [ef41, q_setr (Or.inr (by decide))]; exact z35
    have z48 : q_ir (q_r f41 x 5) rep := by rw [ef41, q_setr (Or.inr (by decide))]; exact z36
    have z49 : q_ir (q_r f41 x 6) now := by rw [ef41, q_setr (Or.inr (by decide))]; exact z37
    have z50 : q_ir (q_r f41 x 7) dr := by rw [ef41, q_setr (Or.inr (by decide))]; exact z38
    have z51 : q_ir (q_r f41 x 8) sv := by rw [ef41, q_setr (Or.inr (by decide))]; exact z39
    have z52 : q_ir (q_r f41 fc 0) tr := by rw [ef41, q_setr (Or.inl (fun q => by rw [q, kout] at kfc; exact absurd kfc (by decide)))]; exact z40
    refine lv_goto (tgt := 21) cx.1 cx.2.1 dL_setBorn_10 (by decide) ?_
    refine q_iconst cx dL_setBorn_21 ?_
    refine W.widen (k := 2) (n := 12) (by decide) (by decide) ?_
    refine q_iret cx hr hlk hB dL_setBorn_22 ⟨by decide, by decide⟩ ?_
    exact ⟨(by decide), (by decide)⟩
set_option maxHeartbeats 4000000 in
set_option maxRecDepth 100000 in
theorem w_charge (l : Launch) (g : q_G) (ad : Nat → Nat) {K : Nat → Nat} {L : List Nat} (hN : L.Nodup) {f : Nat → va_E} (hT : q_Ty g K L f) (hfl : l.stackTraces = false) (x : Nat) (hx : x ∈ L) (kx : K x = 11) (a0 : Int) (la0 : (-2147483648) ≤ a0) (ua0 : a0 ≤ 2147483647) (b0 : Int) (lb0 : (-2147483648) ≤ b0) (ub0 : b0 ≤ 2147483647) (out : Nat) (hout : out ∈ L) (kout : K out = 168) (src : Nat) (hsrc : src ∈ L) (ksrc : K src = 8) (rdr : Nat) (hrdr : rdr ∈ L) (krdr : K rdr = 9) (scr : Nat) (hscr : scr ∈ L) (kscr : K scr = 7) (fc : Nat) (hfc : fc ∈ L) (kfc : K fc = 1) (hist : Nat) (hhist : hist ∈ L) (khist : K hist = 2) (rep : Nat) (hrep : rep ∈ L) (krep : K rep = 6) (now : Nat) (hnow : now ∈ L) (know : K now = 10) (dr : Nat) (hdr : dr ∈ L) (kdr : K dr = 13) (sv : Nat) (hsv : sv ∈ L) (ksv : K sv = 14) (tr : Nat) (htr : tr ∈ L) (ktr : K tr = 15) (hr0 : q_ir (q_r f x 0) src) (hr1 : q_ir (q_r f x 1) rdr) (hr2 : q_ir (q_r f x 2) scr) (hr3 : q_ir (q_r f x 3) fc) (hr4 : q_ir (q_r f x 4) hist) (hr5 : q_ir (q_r f x 5) rep) (hr6 : q_ir (q_r f x 6) now) (hr7 : q_ir (q_r f x 7) dr) (hr8 : q_ir (q_r f x 8) sv) (hr9 : q_ir (q_r f fc 0) tr) : q_Wt l g ad K L yL_charge cL_charge 5 (some .int) [(0, 10, 13, 35), (0, 10, 17, 19)] 8 125 2 12 [.ref x, .int (q_i a0), .int (q_i b0), .ref out] f [(2, 1, 2), (5, 4, 4), (16, 3, 12), (20, 0, 8), (24, 0, 4), (28, 0, 7), (168, 0, 0)] (q_Pi (fun (z : Int) (f1 : Nat → va_E) => 0 ≤ z ∧ z ≤ 3)) := by
  refine q_wofb (by decide +kernel) hN hT (Nat.le_of_ble_eq_true rfl) ?_
  intro p e s m below meth c ls cx hr hlk htab hX hB hl
  have hl : lv_has ls 5 [(0, .ref x), (1, .int (q_i a0)), (2, .int (q_i b0)), (3, .ref out)] := hl
  obtain ⟨H, hH⟩ : ∃ H : Heap, H = s.heap := ⟨_, rfl⟩
  obtain ⟨locs, hlocs⟩ : ∃ z : List Loc, z = [] := ⟨_, rfl⟩
  rw [← hH, ← hlocs] at hB
  rw [← hH, ← hlocs]
  refine q_ald_n cx dL_charge_0 rfl (lv_at hl 3 rfl) ?_
  refine q_iconst cx dL_charge_1 ?_
  refine q_ald_n cx dL_charge_2 rfl (lv_at hl 0 rfl) ?_
  refine q_ild_n cx dL_charge_3 rfl (lv_at hl 1 rfl) ?_
  refine q_ild_n cx dL_charge_4 rfl (lv_at hl 2 rfl) ?_
  refine q_cXV (As := [.int (q_i a0), .int (q_i b0)]) (rest := [.int (q_i 0), .ref out]) cx hX hB (fun _ h => h) (fun _ h _ => h) hN hx kx (by decide) rfl (x_charge l g ad hN hB.2.1 hfl x hx kx a0 (by omega) (by omega) b0 (by omega) (by omega) src hsrc ksrc rdr hrdr krdr scr hscr kscr fc hfc kfc hist hhist khist rep hrep krep now hnow know dr hdr kdr sv hsv ksv tr htr ktr hr0 hr1 hr2 hr3 hr4 hr5 hr6 hr7 hr8 hr9) q_cL_102 q_dX11_charge (by decide) rfl rfl hl.1 rfl (Nat.le_of_ble_eq_true rfl) dL_charge_5 (fun E9 ce9 q9 H locs f30 hex hF hB hcell hcv hcl => ?_) (fun v9 H locs f27 h29 hF hB => ?_)
  · rcases hex with ⟨rfl, rfl⟩ | ⟨rfl, rfl⟩
    · refine vx_catch (E := "java/lang/IndexOutOfBoundsException") (name := "java/lang/IndexOutOfBoundsException") cx.2.2.2.1 [] ⟨0, 10, 13, 35⟩ [⟨0, 10, 17, 19⟩] (htab.trans rfl) (q_pnil) (by decide) (by decide) (cx.2.2.2.2 _ q_h1225) (va_Nw.use rfl (hX.2.2.2.1 (.castable "java/lang/IndexOutOfBoundsException" "java/lang/IndexOutOfBoundsException") (by decide +kernel))) hcell hcv hcl ?_
      refine lv_astore (lv' := [(4, .ref q9), (0, .ref x), (1, .int (q_i a0)), (2, .int (q_i b0)), (3, .ref out)]) cx.1 cx.2.1 dL_charge_13 hl (by decide) rfl (fun ls hl => ?_)
      refine q_iconst cx dL_charge_15 ?_
      refine W.widen (k := 2) (n := 12) (by decide) (by decide) ?_
      refine q_iret cx hr hlk hB dL_charge_16 ⟨by decide, by decide⟩ ?_
      exact ⟨(by decide), (by decide)⟩
    · refine vx_catch (E := "java/lang/IllegalArgumentException") (name := "java/lang/IllegalArgumentException") cx.2.2.2.1 [⟨0, 10, 13, 35⟩] ⟨0, 10, 17, 19⟩ [] (htab.trans rfl) (q_pcons (Or.inr ⟨by decide, "java/lang/IndexOutOfBoundsException", cx.2.2.2.2 _ q_h1225, hX.2.2.2.2.1 ("java/lang/IllegalArgumentException", "java/lang/IndexOutOfBoundsException") (by decide)⟩) (q_pnil)) (by decide) (by decide) (cx.2.2.2.2 _ q_h875) (va_Nw.use rfl (hX.2.2.2.1 (.castable "java/lang/IllegalArgumentException" "java/lang/IllegalArgumentException") (by decide +kernel))) hcell hcv hcl ?_
      refine lv_astore (lv' := [(4, .ref q9), (0, .ref x), (1, .int (q_i a0)), (2, .int (q_i b0)), (3, .ref out)]) cx.1 cx.2.1 dL_charge_17 hl (by decide) rfl (fun ls hl => ?_)
      refine q_iconst cx dL_charge_19 ?_
      refine W.widen (k := 2) (n := 12) (by decide) (by decide) ?_
      refine q_iret cx hr hlk hB dL_charge_20 ⟨by decide, by decide⟩ ?_
      exact ⟨(by decide), (by decide)⟩
  · obtain ⟨y28, rfl, ry28, h29⟩ := h29
    refine W.eq (g2 := F0 m 8 ls [.int (q_i y28), .int (q_i 0), .ref out]) rfl ?_
    have z31 : q_ir (q_r f27 x 0) src := Eq.trans (hF.r hx (by rw [kx]; rfl)) hr0
    have z32 : q_ir (q_r f27 x 1) rdr := Eq.trans (hF.r hx (by rw [kx]; rfl)) hr1
    have z33 : q_ir (q_r f27 x 2) scr := Eq.trans (hF.r hx (by rw [kx]; rfl)) hr2
    have z34 : q_ir (q_r f27 x 3) fc := Eq.trans (hF.r hx (by rw [kx]; rfl)) hr3
    have z35 : q_ir (q_r f27 x 4) hist := Eq.trans (hF.r hx (by rw [kx]; rfl)) hr4
    have z36 : q_ir (q_r f27 x 5) rep := Eq.trans (hF.r hx (by rw [kx]; rfl)) hr5
    have z37 : q_ir (q_r f27 x 6) now := Eq.trans (hF.r hx (by rw [kx]; rfl)) hr6
    have z38 : q_ir (q_r f27 x 7) dr := Eq.trans (hF.r hx (by rw [kx]; rfl)) hr7
    have z39 : q_ir (q_r f27 x 8) sv := Eq.trans (hF.r hx (by rw [kx]; rfl)) hr8
    have z40 : q_ir (q_r f27 fc 0) tr := Eq.trans (hF.r hfc (by rw [kfc]; rfl)) hr9
    refine q_i2l cx ⟨by omega, by omega⟩ dL_charge_8 ?_
    refine q_last (n := 1) cx hB hout kout (by decide) rfl rfl (by decide) (by decide) (by decide) rfl rfl dL_charge_9 (fun H locs f41 ef41 z42 hB => ?_)
    have z43 : q_ir (q_r f41 x 0) src := by rw [ef41, q_setr (Or.inl (fun q => by rw [q, kout] at kx; exact absurd kx (by decide)))]; exact z31
    have z44 : q_ir (q_r f41 x 1) rdr := by rw [ef41, q_setr (Or.inr (by decide))]; exact z32
    have z45 : q_ir (q_r f41 x 2) scr := by rw [ef41, q_setr (Or.inr (by decide))]; exact z33
    have z46 : q_ir (q_r f41 x 3) fc := by rw [ef41, q_setr (Or.inr (by decide))]; exact z34
    have z47 : q_ir (q_r f41 x 4) hist := by rw [ef41, q_setr (Or.inr (by decide))]; exact z35
    have z48 : q_ir (q_r f41 x 5) rep := by rw [ef41, q_setr (Or.inr (by decide))]; exact z36
    have z49 : q_ir (q_r f41 x 6) now := by rw [ef41, q_setr (Or.inr (by decide))]; exact z37
    have z50 : q_ir (q_r f41 x 7) dr := by rw [ef41, q_setr (Or.inr (by decide))]; exact z38
    have z51 : q_ir (q_r f41 x 8) sv := by rw [ef41, q_setr (Or.inr (by decide))]; exact z39
    have z52 : q_ir (q_r f41 fc 0) tr := by rw [ef41, q_setr (Or.inl (fun q => by rw [q, kout] at kfc; exact absurd kfc (by decide)))]; exact z40
    refine lv_goto (tgt := 21) cx.1 cx.2.1 dL_charge_10 (by decide) ?_
    refine q_iconst cx dL_charge_21 ?_
    refine W.widen (k := 2) (n := 12) (by decide) (by decide) ?_
    refine q_iret cx hr hlk hB dL_charge_22 ⟨by decide, by decide⟩ ?_
    exact ⟨(by decide), (by decide)⟩
set_option maxHeartbeats 4000000 in
set_option maxRecDepth 100000 in
theorem w_setMiss (l : Launch) (g : q_G) (ad : Nat → Nat) {K : Nat → Nat} {L : List Nat} (hN : L.Nodup) {f : Nat → va_E} (hT : q_Ty g K L f) (hfl : l.stackTraces = false) (x : Nat) (hx : x ∈ L) (kx : K x = 11) (a0 : Int) (la0 : (-2147483648) ≤ a0) (ua0 : a0 ≤ 2147483647) (out : Nat) (hout : out ∈ L) (kout : K out = 168) (src : Nat) (hsrc : src ∈ L) (ksrc : K src = 8) (rdr : Nat) (hrdr : rdr ∈ L) (krdr : K rdr = 9) (scr : Nat) (hscr : scr ∈ L) (kscr : K scr = 7) (fc : Nat) (hfc : fc ∈ L) (kfc : K fc = 1) (hist : Nat) (hhist : hist ∈ L) (khist : K hist = 2) (rep : Nat) (hrep : rep ∈ L) (krep : K rep = 6) (now : Nat) (hnow : now ∈ L) (know : K now = 10) (dr : Nat) (hdr : dr ∈ L) (kdr : K dr = 13) (sv : Nat) (hsv : sv ∈ L) (ksv : K sv = 14) (tr : Nat) (htr : tr ∈ L) (ktr : K tr = 15) (hr0 : q_ir (q_r f x 0) src) (hr1 : q_ir (q_r f x 1) rdr) (hr2 : q_ir (q_r f x 2) scr) (hr3 : q_ir (q_r f x 3) fc) (hr4 : q_ir (q_r f x 4) hist) (hr5 : q_ir (q_r f x 5) rep) (hr6 : q_ir (q_r f x 6) now) (hr7 : q_ir (q_r f x 7) dr) (hr8 : q_ir (q_r f x 8) sv) (hr9 : q_ir (q_r f fc 0) tr) : q_Wt l g ad K L yL_setMiss cL_setMiss 4 (some .int) [(0, 9, 12, 19)] 7 104 1 6 [.ref x, .int (q_i a0), .ref out] f [(2, 1, 2), (10, 10, 10), (16, 3, 12), (20, 0, 8), (24, 0, 4), (28, 0, 7), (168, 0, 0)] (q_Pi (fun (z : Int) (f1 : Nat → va_E) => 0 ≤ z ∧ z ≤ 3)) := by
  refine q_wofb (by decide +kernel) hN hT (Nat.le_of_ble_eq_true rfl) ?_
  intro p e s m below meth c ls cx hr hlk htab hX hB hl
  have hl : lv_has ls 4 [(0, .ref x), (1, .int (q_i a0)), (2, .ref out)] := hl
  obtain ⟨H, hH⟩ : ∃ H : Heap, H = s.heap := ⟨_, rfl⟩
  obtain ⟨locs, hlocs⟩ : ∃ z : List Loc, z = [] := ⟨_, rfl⟩
  rw [← hH, ← hlocs] at hB
  rw [← hH, ← hlocs]
  refine q_ald_n cx dL_setMiss_0 rfl (lv_at hl 2 rfl) ?_
  refine q_iconst cx dL_setMiss_1 ?_
  refine q_ald_n cx dL_setMiss_2 rfl (lv_at hl 0 rfl) ?_
  refine q_ild_n cx dL_setMiss_3 rfl (lv_at hl 1 rfl) ?_
  refine q_cXV (As := [.int (q_i a0)]) (rest := [.int (q_i 0), .ref out]) cx hX hB (fun _ h => h) (fun _ h _ => h) hN hx kx (by decide) rfl (x_setMiss l g ad hN hB.2.1 hfl x hx kx a0 (by omega) (by omega) src hsrc ksrc rdr hrdr krdr scr hscr kscr fc hfc kfc hist hhist khist rep hrep krep now hnow know dr hdr kdr sv hsv ksv tr htr ktr hr0 hr1 hr2 hr3 hr4 hr5 hr6 hr7 hr8 hr9) q_cL_105 q_dX11_setMiss (by decide) rfl rfl hl.1 rfl (Nat.le_of_ble_eq_true rfl) dL_setMiss_4 (fun E9 ce9 q9 H locs f30 hex hF hB hcell hcv hcl => ?_) (fun v9 H locs f27 h29 hF hB => ?_)
  · rcases hex with ⟨rfl, rfl⟩
    · refine vx_catch (E := "java/lang/IllegalArgumentException") (name := "java/lang/IllegalArgumentException") cx.2.2.2.1 [] ⟨0, 9, 12, 19⟩ [] (htab.trans rfl) (q_pnil) (by decide) (by decide) (cx.2.2.2.2 _ q_h875) (va_Nw.use rfl (hX.2.2.2.1 (.castable "java/lang/IllegalArgumentException" "java/lang/IllegalArgumentException") (by decide +kernel))) hcell hcv hcl ?_
      refine lv_astore_n (lv' := [(3, .ref q9), (0, .ref x), (1, .int (q_i a0)), (2, .ref out)]) cx.1 cx.2.1 dL_setMiss_12 rfl hl (by decide) rfl (fun ls hl => ?_)
      refine q_iconst cx dL_setMiss_13 ?_
      refine W.widen (k := 1) (n := 6) (by decide) (by decide) ?_
      refine q_iret cx hr hlk hB dL_setMiss_14 ⟨by decide, by decide⟩ ?_
      exact ⟨(by decide), (by decide)⟩
  · obtain ⟨y28, rfl, ry28, h29⟩ := h29
    refine W.eq (g2 := F0 m 7 ls [.int (q_i y28), .int (q_i 0), .ref out]) rfl ?_
    have z31 : q_ir (q_r f27 x 0) src := Eq.trans (hF.r hx (by rw [kx]; rfl)) hr0
    have z32 : q_ir (q_r f27 x 1) rdr := Eq.trans (hF.r hx (by rw [kx]; rfl)) hr1
    have z33 : q_ir (q_r f27 x 2) scr := Eq.trans (hF.r hx (by rw [kx]; rfl)) hr2
    have z34 : q_ir (q_r f27 x 3) fc := Eq.trans (hF.r hx (by rw [kx]; rfl)) hr3
    have z35 : q_ir (q_r f27 x 4) hist := Eq.trans (hF.r hx (by rw [kx]; rfl)) hr4
    have z36 : q_ir (q_r f27 x 5) rep := Eq.trans (hF.r hx (by rw [kx]; rfl)) hr5
    have z37 : q_ir (q_r f27 x 6) now := Eq.trans (hF.r hx (by rw [kx]; rfl)) hr6
    have z38 : q_ir (q_r f27 x 7) dr := Eq.trans (hF.r hx (by rw [kx]; rfl)) hr7
    have z39 : q_ir (q_r f27 x 8) sv := Eq.trans (hF.r hx (by rw [kx]; rfl)) hr8
    have z40 : q_ir (q_r f27 fc 0) tr := Eq.trans (hF.r hfc (by rw [kfc]; rfl)) hr9
    refine q_i2l cx ⟨by omega, by omega⟩ dL_setMiss_7 ?_
    refine q_last (n := 1) cx hB hout kout (by decide) rfl rfl (by decide) (by decide) (by decide) rfl rfl dL_setMiss_8 (fun H locs f41 ef41 z42 hB => ?_)
    have z43 : q_ir (q_r f41 x 0) src := by rw [ef41, q_setr (Or.inl (fun q => by rw [q, kout] at kx; exact absurd kx (by decide)))]; exact z31
    have z44 : q_ir (q_r f41 x 1) rdr := by rw [ef41, q_setr (Or.inr (by decide))]; exact z32
    have z45 : q_ir (q_r f41 x 2) scr := by rw [ef41, q_setr (Or.inr (by decide))]; exact z33
    have z46 : q_ir (q_r f41 x 3) fc := by rw [ef41, q_setr (Or.inr (by decide))]; exact z34
    have z47 : q_ir (q_r f41 x 4) hist := by rw [ef41, q_setr (Or.inr (by decide))]; exact z35
    have z48 : q_ir (q_r f41 x 5) rep := by rw [ef41, q_setr (Or.inr (by decide))]; exact z36
    have z49 : q_ir (q_r f41 x 6) now := by rw [ef41, q_setr (Or.inr (by decide))]; exact z37
    have z50 : q_ir (q_r f41 x 7) dr := by rw [ef41, q_setr (Or.inr (by decide))]; exact z38
    have z51 : q_ir (q_r f41 x 8) sv := by rw [ef41, q_setr (Or.inr (by decide))]; exact z39
    have z52 : q_ir (q_r f41 fc 0) tr := by rw [ef41, q_setr (Or.inl (fun q => by rw [q, kout] at kfc; exact absurd kfc (by decide)))]; exact z40
    refine lv_goto (tgt := 15) cx.1 cx.2.1 dL_setMiss_9 (by decide) ?_
    refine q_iconst cx dL_setMiss_15 ?_
    refine W.widen (k := 1) (n := 6) (by decide) (by decide) ?_
    refine q_iret cx hr hlk hB dL_setMiss_16 ⟨by decide, by decide⟩ ?_
    exact ⟨(by decide), (by decide)⟩
set_option maxHeartbeats 4000000 in
set_option maxRecDepth 100000 in
theorem w_reportByte (l : Launch) (g : q_G) (ad : Nat → Nat) {K : Nat → Nat} {L : List Nat} (hN : L.Nodup) {f : Nat → va_E} (hT : q_Ty g K L f) (hfl : l.stackTraces = false) (x : Nat) (hx : x ∈ L) (kx : K x = 11) (a0 : Int) (la0 : (-2147483648) ≤ a0) (ua0 : a0 ≤ 2147483647) (out : Nat) (hout : out ∈ L) (kout : K out = 168) (src : Nat) (hsrc : src ∈ L) (ksrc : K src = 8) (rdr : Nat) (hrdr : rdr ∈ L) (krdr : K rdr = 9) (scr : Nat) (hscr : scr ∈ L) (kscr : K scr = 7) (fc : Nat) (hfc : fc ∈ L) (kfc : K fc = 1) (hist : Nat) (hhist : hist ∈ L) (khist : K hist = 2) (rep : Nat) (hrep : rep ∈ L) (krep : K rep = 6) (now : Nat) (hnow : now ∈ L) (know : K now = 10) (dr : Nat) (hdr : dr ∈ L) (kdr : K dr = 13) (sv : Nat) (hsv : sv ∈ L) (ksv : K sv = 14) (tr : Nat) (htr : tr ∈ L) (ktr : K tr = 15) (hr0 : q_ir (q_r f x 0) src) (hr1 : q_ir (q_r f x 1) rdr) (hr2 : q_ir (q_r f x 2) scr) (hr3 : q_ir (q_r f x 3) fc) (hr4 : q_ir (q_r f x 4) hist) (hr5 : q_ir (q_r f x 5) rep) (hr6 : q_ir (q_r f x 6) now) (hr7 : q_ir (q_r f x 7) dr) (hr8 : q_ir (q_r f x 8) sv) (hr9 : q_ir (q_r f fc 0) tr) : q_Wt l g ad K L yL_reportByte cL_reportByte 4 (some .int) [(0, 9, 12, 35)] 7 103 1 6 [.ref x, .int (q_i a0), .ref out] f [(168, 0, 0)] (q_Pi (fun (z : Int) (f1 : Nat → va_E) => 0 ≤ z ∧ z ≤ 3)) := by
  refine q_wofb (by decide +kernel) hN hT (Nat.le_of_ble_eq_true rfl) ?_
  intro p e s m below meth c ls cx hr hlk htab hX hB hl
  have hl : lv_has ls 4 [(0, .ref x), (1, .int (q_i a0)), (2, .ref out)] := hl
  obtain ⟨H, hH⟩ : ∃ H : Heap, H = s.heap := ⟨_, rfl⟩
  obtain ⟨locs, hlocs⟩ : ∃ z : List Loc, z = [] := ⟨_, rfl⟩
  rw [← hH, ← hlocs] at hB
  rw [← hH, ← hlocs]
  refine q_ald_n cx dL_reportByte_0 rfl (lv_at hl 2 rfl) ?_
  refine q_iconst cx dL_reportByte_1 ?_
  refine q_ald_n cx dL_reportByte_2 rfl (lv_at hl 0 rfl) ?_
  refine q_ild_n cx dL_reportByte_3 rfl (lv_at hl 1 rfl) ?_
  refine q_cXV (As := [.int (q_i a0)]) (rest := [.int (q_i 0), .ref out]) cx hX hB (fun _ h => h) (fun _ h _ => h) hN hx kx (by decide) rfl (x_reportByte l g ad hN hB.2.1 hfl x hx kx a0 (by omega) (by omega) src hsrc ksrc rdr hrdr krdr scr hscr kscr fc hfc kfc hist hhist khist rep hrep krep now hnow know dr hdr kdr sv hsv ksv tr htr ktr hr0 hr1 hr2 hr3 hr4 hr5 hr6 hr7 hr8 hr9) q_cL_108 q_dX11_reportByte (by decide) rfl rfl hl.1 rfl (Nat.le_of_ble_eq_true rfl) dL_reportByte_4 (fun E9 ce9 q9 H locs f20 hex hF hB hcell hcv hcl => ?_) (fun v9 H locs f17 h19 hF hB => ?_)
  · rcases hex with ⟨rfl, rfl⟩
    · refine vx_catch (E := "java/lang/IndexOutOfBoundsException") (name := "java/lang/IndexOutOfBoundsException") cx.2.2.2.1 [] ⟨0, 9, 12, 35⟩ [] (htab.trans rfl) (q_pnil) (by decide) (by decide) (cx.2.2.2.2 _ q_h1225) (va_Nw.use rfl (hX.2.2.2.1 (.castable "java/lang/IndexOutOfBoundsException" "java/lang/IndexOutOfBoundsException") (by decide +kernel))) hcell hcv hcl ?_
      refine lv_astore_n (lv' := [(3, .ref q9), (0, .ref x), (1, .int (q_i a0)), (2, .ref out)]) cx.1 cx.2.1 dL_reportByte_12 rfl hl (by decide) rfl (fun ls hl => ?_)
      refine q_iconst cx dL_reportByte_13 ?_
      refine W.widen (k := 1) (n := 6) (by decide) (by decide) ?_
      refine q_iret cx hr hlk hB dL_reportByte_14 ⟨by decide, by decide⟩ ?_
      exact ⟨(by decide), (by decide)⟩
  · obtain ⟨y18, rfl, ry18, h19⟩ := h19
    refine W.eq (g2 := F0 m 7 ls [.int (q_i y18), .int (q_i 0), .ref out]) rfl ?_
    obtain rfl := h19
    refine q_i2l cx ⟨by omega, by omega⟩ dL_reportByte_7 ?_
    refine q_last (n := 1) cx hB hout kout (by decide) rfl rfl (by decide) (by decide) (by decide) rfl rfl dL_reportByte_8 (fun H locs f21 ef21 z22 hB => ?_)
    have z23 : q_ir (q_r f21 x 0) src := by rw [ef21, q_setr (Or.inl (fun q => by rw [q, kout] at kx; exact absurd kx (by decide)))]; exact hr0
    have z24 : q_ir (q_r f21 x 1) rdr := by rw [ef21, q_setr (Or.inr (by decide))]; exact hr1
    have z25 : q_ir (q_r f21 x 2) scr := by rw [ef21, q_setr (Or.inr (by decide))]; exact hr2
    have z26 : q_ir (q_r f21 x 3) fc := by rw [ef21, q_setr (Or.inr (by decide))]; exact hr3
    have z27 : q_ir (q_r f21 x 4) hist := by rw [ef21, q_setr (Or.inr (by decide))]; exact hr4
    have z28 : q_ir (q_r f21 x 5) rep := by rw [ef21, q_setr (Or.inr (by decide))]; exact hr5
    have z29 : q_ir (q_r f21 x 6) now := by rw [ef21, q_setr (Or.inr (by decide))]; exact hr6
    have z30 : q_ir (q_r f21 x 7) dr := by rw [ef21, q_setr (Or.inr (by decide))]; exact hr7
    have z31 : q_ir (q_r f21 x 8) sv := by rw [ef21, q_setr (Or.inr (by decide))]; exact hr8
    have z32 : q_ir (q_r f21 fc 0) tr := by rw [ef21, q_setr (Or.inl (fun q => by rw [q, kout] at kfc; exact absurd kfc (by decide)))]; exact hr9
    refine lv_goto (tgt := 15) cx.1 cx.2.1 dL_reportByte_9 (by decide) ?_
    refine q_iconst cx dL_reportByte_15 ?_
    refine W.widen (k := 1) (n := 6) (by decide) (by decide) ?_
    refine q_iret cx hr hlk hB dL_reportByte_16 ⟨by decide, by decide⟩ ?_
    exact ⟨(by decide), (by decide)⟩
set_option maxHeartbeats 4000000 in
set_option maxRecDepth 100000 in
theorem w_restore (l : Launch) (g : q_G) (ad : Nat → Nat) {K : Nat → Nat} {L : List Nat} (hN : L.Nodup) {f : Nat → va_E} (hT : q_Ty g K L f) (hfl : l.stackTraces = false) (x : Nat) (hx : x ∈ L) (kx : K x = 11) (out : Nat) (hout : out ∈ L) (kout : K out = 168) (src : Nat) (hsrc : src ∈ L) (ksrc : K src = 8) (rdr : Nat) (hrdr : rdr ∈ L) (krdr : K rdr = 9) (scr : Nat) (hscr : scr ∈ L) (kscr : K scr = 7) (fc : Nat) (hfc : fc ∈ L) (kfc : K fc = 1) (hist : Nat) (hhist : hist ∈ L) (khist : K hist = 2) (rep : Nat) (hrep : rep ∈ L) (krep : K rep = 6) (now : Nat) (hnow : now ∈ L) (know : K now = 10) (dr : Nat) (hdr : dr ∈ L) (kdr : K dr = 13) (sv : Nat) (hsv : sv ∈ L) (ksv : K sv = 14) (tr : Nat) (htr : tr ∈ L) (ktr : K tr = 15) (hr0 : q_ir (q_r f x 0) src) (hr1 : q_ir (q_r f x 1) rdr) (hr2 : q_ir (q_r f x 2) scr) (hr3 : q_ir (q_r f x 3) fc) (hr4 : q_ir (q_r f x 4) hist) (hr5 : q_ir (q_r f x 5) rep) (hr6 : q_ir (q_r f x 6) now) (hr7 : q_ir (q_r f x 7) dr) (hr8 : q_ir (q_r f x 8) sv) (hr9 : q_ir (q_r f fc 0) tr) : q_Wt l g ad K L yL_restore cL_restore 3 (some .int) [(0, 8, 11, 13)] 7 102 1 6 [.ref x, .ref out] f [(2, 2, 2), (3, 0, 4), (4, 0, 7), (5, 0, 8), (10, 3, 12), (168, 0, 0)] (q_Pi (fun (z : Int) (f1 : Nat → va_E) => 0 ≤ z ∧ z ≤ 3)) := by
  refine q_wofb (by decide +kernel) hN hT (Nat.le_of_ble_eq_true rfl) ?_
  intro p e s m below meth c ls cx hr hlk htab hX hB hl
  have hl : lv_has ls 3 [(0, .ref x), (1, .ref out)] := hl
  obtain ⟨H, hH⟩ : ∃ H : Heap, H = s.heap := ⟨_, rfl⟩
  obtain ⟨locs, hlocs⟩ : ∃ z : List Loc, z = [] := ⟨_, rfl⟩
  rw [← hH, ← hlocs] at hB
  rw [← hH, ← hlocs]
  refine q_ald_n cx dL_restore_0 rfl (lv_at hl 1 rfl) ?_
  refine q_iconst cx dL_restore_1 ?_
  refine q_ald_n cx dL_restore_2 rfl (lv_at hl 0 rfl) ?_
  refine q_cXV (As := []) (rest := [.int (q_i 0), .ref out]) cx hX hB (fun _ h => h) (fun _ h _ => h) hN hx kx (by decide) rfl (x_restore l g ad hN hB.2.1 hfl x hx kx src hsrc ksrc rdr hrdr krdr scr hscr kscr fc hfc kfc hist hhist khist rep hrep krep now hnow know dr hdr kdr sv hsv ksv tr htr ktr hr0 hr1 hr2 hr3 hr4 hr5 hr6 hr7 hr8 hr9) q_cL_111 q_dX11_restore (by decide) rfl rfl hl.1 rfl (Nat.le_of_ble_eq_true rfl) dL_restore_3 (fun E9 ce9 q9 H locs f30 hex hF hB hcell hcv hcl => ?_) (fun v9 H locs f27 h29 hF hB => ?_)
  · rcases hex with ⟨rfl, rfl⟩
    · refine vx_catch (E := "java/lang/IllegalStateException") (name := "java/lang/IllegalStateException") cx.2.2.2.1 [] ⟨0, 8, 11, 13⟩ [] (htab.trans rfl) (q_pnil) (by decide) (by decide) (cx.2.2.2.2 _ q_h792) (va_Nw.use rfl (hX.2.2.2.1 (.castable "java/lang/IllegalStateException" "java/lang/IllegalStateException") (by decide +kernel))) hcell hcv hcl ?_
      refine lv_astore_n (lv' := [(2, .ref q9), (0, .ref x), (1, .ref out)]) cx.1 cx.2.1 dL_restore_11 rfl hl (by decide) rfl (fun ls hl => ?_)
      refine q_iconst cx dL_restore_12 ?_
      refine W.widen (k := 1) (n := 6) (by decide) (by decide) ?_
      refine q_iret cx hr hlk hB dL_restore_13 ⟨by decide, by decide⟩ ?_
      exact ⟨(by decide), (by decide)⟩
  · obtain ⟨y28, rfl, ry28, h29⟩ := h29
    refine W.eq (g2 := F0 m 6 ls [.int (q_i y28), .int (q_i 0), .ref out]) rfl ?_
    have z31 : q_ir (q_r f27 x 0) src := Eq.trans (hF.r hx (by rw [kx]; rfl)) hr0
    have z32 : q_ir (q_r f27 x 1) rdr := Eq.trans (hF.r hx (by rw [kx]; rfl)) hr1
    have z33 : q_ir (q_r f27 x 2) scr := Eq.trans (hF.r hx (by rw [kx]; rfl)) hr2
    have z34 : q_ir (q_r f27 x 3) fc := Eq.trans (hF.r hx (by rw [kx]; rfl)) hr3
    have z35 : q_ir (q_r f27 x 4) hist := Eq.trans (hF.r hx (by rw [kx]; rfl)) hr4
    have z36 : q_ir (q_r f27 x 5) rep := Eq.trans (hF.r hx (by rw [kx]; rfl)) hr5
    have z37 : q_ir (q_r f27 x 6) now := Eq.trans (hF.r hx (by rw [kx]; rfl)) hr6
    have z38 : q_ir (q_r f27 x 7) dr := Eq.trans (hF.r hx (by rw [kx]; rfl)) hr7
    have z39 : q_ir (q_r f27 x 8) sv := Eq.trans (hF.r hx (by rw [kx]; rfl)) hr8
    have z40 : q_ir (q_r f27 fc 0) tr := Eq.trans (hF.r hfc (by rw [kfc]; rfl)) hr9
    refine q_i2l cx ⟨by omega, by omega⟩ dL_restore_6 ?_
    refine q_last (n := 1) cx hB hout kout (by decide) rfl rfl (by decide) (by decide) (by decide) rfl rfl dL_restore_7 (fun H locs f41 ef41 z42 hB => ?_)
    have z43 : q_ir (q_r f41 x 0) src := by rw [ef41, q_setr (Or.inl (fun q => by rw [q, kout] at kx; exact absurd kx (by decide)))]; exact z31
    have z44 : q_ir (q_r f41 x 1) rdr := by rw [ef41, q_setr (Or.inr (by decide))]; exact z32
    have z45 : q_ir (q_r f41 x 2) scr := by rw [ef41, q_setr (Or.inr (by decide))]; exact z33
    have z46 : q_ir (q_r f41 x 3) fc := by rw [ef41, q_setr (Or.inr (by decide))]; exact z34
    have z47 : q_ir (q_r f41 x 4) hist := by rw [ef41, q_setr (Or.inr (by decide))]; exact z35
    have z48 : q_ir (q_r f41 x 5) rep := by rw [ef41, q_setr (Or.inr (by decide))]; exact z36
    have z49 : q_ir (q_r f41 x 6) now := by rw [ef41, q_setr (Or.inr (by decide))]; exact z37
    have z50 : q_ir (q_r f41 x 7) dr := by rw [ef41, q_setr (Or.inr (by decide))]; exact z38
    have z51 : q_ir (q_r f41 x 8) sv := by rw [ef41, q_setr (Or.inr (by decide))]; exact z39
    have z52 : q_ir (q_r f41 fc 0) tr := by rw [ef41, q_setr (Or.inl (fun q => by rw [q, kout] at kfc; exact absurd kfc (by decide)))]; exact z40
    refine lv_goto (tgt := 14) cx.1 cx.2.1 dL_restore_8 (by decide) ?_
    refine q_iconst cx dL_restore_14 ?_
    refine W.widen (k := 1) (n := 6) (by decide) (by decide) ?_
    refine q_iret cx hr hlk hB dL_restore_15 ⟨by decide, by decide⟩ ?_
    exact ⟨(by decide), (by decide)⟩
set_option maxHeartbeats 4000000 in
set_option maxRecDepth 100000 in
theorem w_duty (l : Launch) (g : q_G) (ad : Nat → Nat) {K : Nat → Nat} {L : List Nat} (hN : L.Nodup) {f : Nat → va_E} (hT : q_Ty g K L f) (hfl : l.stackTraces = false) (x : Nat) (hx : x ∈ L) (kx : K x = 11) (a0 : Int) (la0 : (-2147483648) ≤ a0) (ua0 : a0 ≤ 2147483647) (out : Nat) (hout : out ∈ L) (kout : K out = 169) (src : Nat) (hsrc : src ∈ L) (ksrc : K src = 8) (rdr : Nat) (hrdr : rdr ∈ L) (krdr : K rdr = 9) (scr : Nat) (hscr : scr ∈ L) (kscr : K scr = 7) (fc : Nat) (hfc : fc ∈ L) (kfc : K fc = 1) (hist : Nat) (hhist : hist ∈ L) (khist : K hist = 2) (rep : Nat) (hrep : rep ∈ L) (krep : K rep = 6) (now : Nat) (hnow : now ∈ L) (know : K now = 10) (dr : Nat) (hdr : dr ∈ L) (kdr : K dr = 13) (sv : Nat) (hsv : sv ∈ L) (ksv : K sv = 14) (tr : Nat) (htr : tr ∈ L) (ktr : K tr = 15) (hr0 : q_ir (q_r f x 0) src) (hr1 : q_ir (q_r f x 1) rdr) (hr2 : q_ir (q_r f x 2) scr) (hr3 : q_ir (q_r f x 3) fc) (hr4 : q_ir (q_r f x 4) hist) (hr5 : q_ir (q_r f x 5) rep) (hr6 : q_ir (q_r f x 6) now) (hr7 : q_ir (q_r f x 7) dr) (hr8 : q_ir (q_r f x 8) sv) (hr9 : q_ir (q_r f fc 0) tr) : q_Wt l g ad K L yL_duty cL_duty 4 (some .int) [(0, 9, 12, 35)] 8 124 1 6 [.ref x, .int (q_i a0), .ref out] f [(169, 0, 0)] (q_Pi (fun (z : Int) (f1 : Nat → va_E) => 0 ≤ z ∧ z ≤ 3)) := by
  refine q_wofb (by decide +kernel) hN hT (Nat.le_of_ble_eq_true rfl) ?_
  intro p e s m below meth c ls cx hr hlk htab hX hB hl
  have hl : lv_has ls 4 [(0, .ref x), (1, .int (q_i a0)), (2, .ref out)] := hl
  obtain ⟨H, hH⟩ : ∃ H : Heap, H = s.heap := ⟨_, rfl⟩
  obtain ⟨locs, hlocs⟩ : ∃ z : List Loc, z = [] := ⟨_, rfl⟩
  rw [← hH, ← hlocs] at hB
  rw [← hH, ← hlocs]
  refine q_ald_n cx dL_duty_0 rfl (lv_at hl 2 rfl) ?_
  refine q_iconst cx dL_duty_1 ?_
  refine q_ald_n cx dL_duty_2 rfl (lv_at hl 0 rfl) ?_
  refine q_ild_n cx dL_duty_3 rfl (lv_at hl 1 rfl) ?_
  refine q_cXV (As := [.int (q_i a0)]) (rest := [.int (q_i 0), .ref out]) cx hX hB (fun _ h => h) (fun _ h _ => h) hN hx kx (by decide) rfl (x_duty l g ad hN hB.2.1 hfl x hx kx a0 (by omega) (by omega) src hsrc ksrc rdr hrdr krdr scr hscr kscr fc hfc kfc hist hhist khist rep hrep krep now hnow know dr hdr kdr sv hsv ksv tr htr ktr hr0 hr1 hr2 hr3 hr4 hr5 hr6 hr7 hr8 hr9) q_cL_50 q_dX11_duty (by decide) rfl rfl hl.1 rfl (Nat.le_of_ble_eq_true rfl) dL_duty_4 (fun E9 ce9 q9 H locs f22 hex hF hB hcell hcv hcl => ?_) (fun v9 H locs f19 h21 hF hB => ?_)
  · rcases hex with ⟨rfl, rfl⟩
    · refine vx_catch (E := "java/lang/IndexOutOfBoundsException") (name := "java/lang/IndexOutOfBoundsException") cx.2.2.2.1 [] ⟨0, 9, 12, 35⟩ [] (htab.trans rfl) (q_pnil) (by decide) (by decide) (cx.2.2.2.2 _ q_h1225) (va_Nw.use rfl (hX.2.2.2.1 (.castable "java/lang/IndexOutOfBoundsException" "java/lang/IndexOutOfBoundsException") (by decide +kernel))) hcell hcv hcl ?_
      refine lv_astore_n (lv' := [(3, .ref q9), (0, .ref x), (1, .int (q_i a0)), (2, .ref out)]) cx.1 cx.2.1 dL_duty_12 rfl hl (by decide) rfl (fun ls hl => ?_)
      refine q_iconst cx dL_duty_13 ?_
      refine W.widen (k := 1) (n := 6) (by decide) (by decide) ?_
      refine q_iret cx hr hlk hB dL_duty_14 ⟨by decide, by decide⟩ ?_
      exact ⟨(by decide), (by decide)⟩
  · obtain ⟨y20, rfl, h21⟩ := h21
    refine W.eq (g2 := F0 m 7 ls [.float y20, .int (q_i 0), .ref out]) rfl ?_
    obtain ⟨rfl, t23⟩ := h21
    refine lv_f2d cx.1 cx.2.1 dL_duty_7 (k_f2d t23) ?_
    refine lv_topd (fun d24 ed24 => ?_)
    refine q_dast (n := 1) cx hB hout kout (by decide) rfl rfl (by decide) (by decide) (by decide) rfl rfl dL_duty_8 (fun H locs f25 ef25 z26 hB => ?_)
    have z27 : q_ir (q_r f25 x 0) src := by rw [ef25, q_setr (Or.inl (fun q => by rw [q, kout] at kx; exact absurd kx (by decide)))]; exact hr0
    have z28 : q_ir (q_r f25 x 1) rdr := by rw [ef25, q_setr (Or.inr (by decide))]; exact hr1
    have z29 : q_ir (q_r f25 x 2) scr := by rw [ef25, q_setr (Or.inr (by decide))]; exact hr2
    have z30 : q_ir (q_r f25 x 3) fc := by rw [ef25, q_setr (Or.inr (by decide))]; exact hr3
    have z31 : q_ir (q_r f25 x 4) hist := by rw [ef25, q_setr (Or.inr (by decide))]; exact hr4
    have z32 : q_ir (q_r f25 x 5) rep := by rw [ef25, q_setr (Or.inr (by decide))]; exact hr5
    have z33 : q_ir (q_r f25 x 6) now := by rw [ef25, q_setr (Or.inr (by decide))]; exact hr6
    have z34 : q_ir (q_r f25 x 7) dr := by rw [ef25, q_setr (Or.inr (by decide))]; exact hr7
    have z35 : q_ir (q_r f25 x 8) sv := by rw [ef25, q_setr (Or.inr (by decide))]; exact hr8
    have z36 : q_ir (q_r f25 fc 0) tr := by rw [ef25, q_setr (Or.inl (fun q => by rw [q, kout] at kfc; exact absurd kfc (by decide)))]; exact hr9
    refine lv_goto (tgt := 15) cx.1 cx.2.1 dL_duty_9 (by decide) ?_
    refine q_iconst cx dL_duty_15 ?_
    refine W.widen (k := 1) (n := 6) (by decide) (by decide) ?_
    refine q_iret cx hr hlk hB dL_duty_16 ⟨by decide, by decide⟩ ?_
    exact ⟨(by decide), (by decide)⟩
