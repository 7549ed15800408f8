set_option maxHeartbeats 4000000 in
set_option maxRecDepth 100000 in
theorem w_feed_a (l : Launch) (g : q_G) (ad : Nat → Nat) {K : Nat → Nat} {L : List Nat} (hN : L.Nodup) {f : Nat → va_E} (hT : q_Ty g K L f) (hfl : l.stackTraces = false) (x : Nat) (hx : x ∈ L) (kx : K x = 11) (a0 : Int) (la0 : (-2147483648) ≤ a0) (ua0 : a0 ≤ 2147483647) (b0 : Int) (lb0 : (-2147483648) ≤ b0) (ub0 : b0 ≤ 2147483647) (c0 : Int) (lc0 : (-2147483648) ≤ c0) (uc0 : c0 ≤ 2147483647) (d0 : Int) (ld0 : (-2147483648) ≤ d0) (ud0 : d0 ≤ 2147483647) (e0 : Int) (le0 : (-2147483648) ≤ e0) (ue0 : e0 ≤ 2147483647) (out : Nat) (hout : out ∈ L) (kout : K out = 168) (src : Nat) (hsrc : src ∈ L) (ksrc : K src = 8) (rdr : Nat) (hrdr : rdr ∈ L) (krdr : K rdr = 9) (scr : Nat) (hscr : scr ∈ L) (kscr : K scr = 7) (fc : Nat) (hfc : fc ∈ L) (kfc : K fc = 1) (hist : Nat) (hhist : hist ∈ L) (khist : K hist = 2) (rep : Nat) (hrep : rep ∈ L) (krep : K rep = 6) (now : Nat) (hnow : now ∈ L) (know : K now = 10) (dr : Nat) (hdr : dr ∈ L) (kdr : K dr = 13) (sv : Nat) (hsv : sv ∈ L) (ksv : K sv = 14) (tr : Nat) (htr : tr ∈ L) (ktr : K tr = 15) (xn : Int) (lxn : 0 ≤ xn) (uxn : xn ≤ 580) (hf0 : q_is (q_z f src 1) xn) (hr0 : q_ir (q_r f x 0) src) (hr1 : q_ir (q_r f x 1) rdr) (hr2 : q_ir (q_r f x 2) scr) (hr3 : q_ir (q_r f x 3) fc) (hr4 : q_ir (q_r f x 4) hist) (hr5 : q_ir (q_r f x 5) rep) (hr6 : q_ir (q_r f x 6) now) (hr7 : q_ir (q_r f x 7) dr) (hr8 : q_ir (q_r f x 8) sv) (hr9 : q_ir (q_r f fc 0) tr) : q_Wt l g ad K L yL_feed cL_feed 8 (some .int) [(0, 16, 19, 13)] 2 47 0 0 [.ref x, .int (q_i a0), .int (q_i b0), .int (q_i c0), .int (q_i d0), .int (q_i e0), .ref out] f [(8, 1, 1), (142, 0, 599), (168, 0, 0)] (q_Pi (fun (z : Int) (f1 : Nat → va_E) => z = 0 ∧ q_j f1 out 0 = (q_l (xn + 20)) ∧ q_is (q_z f1 src 1) (xn + 20))) := by
  refine q_wofb (by decide +kernel) hN hT (Nat.le_of_ble_eq_true rfl) ?_
  intro p e s m below meth c ls cx hr hlk htab hX hB hl
  have hl : lv_has ls 8 [(0, .ref x), (1, .int (q_i a0)), (2, .int (q_i b0)), (3, .int (q_i c0)), (4, .int (q_i d0)), (5, .int (q_i e0)), (6, .ref out)] := hl
  obtain ⟨H, hH⟩ : ∃ H : Heap, H = s.heap := ⟨_, rfl⟩
  obtain ⟨locs, hlocs⟩ : ∃ z : List Loc, z = [] := ⟨_, rfl⟩
  rw [← hH, ← hlocs] at hB
  rw [← hH, ← hlocs]
  refine lv_aload cx.1 cx.2.1 dL_feed_0 (lv_at hl 6 rfl) ?_
  refine q_iconst cx dL_feed_2 ?_
  refine q_ald_n cx dL_feed_3 rfl (lv_at hl 0 rfl) ?_
  refine q_ild_n cx dL_feed_4 rfl (lv_at hl 1 rfl) ?_
  refine q_ild_n cx dL_feed_5 rfl (lv_at hl 2 rfl) ?_
  refine q_ild_n cx dL_feed_6 rfl (lv_at hl 3 rfl) ?_
  refine lv_iload cx.1 cx.2.1 dL_feed_7 (lv_at hl 4 rfl) ?_
  refine lv_iload cx.1 cx.2.1 dL_feed_9 (lv_at hl 5 rfl) ?_
  refine q_cVi (As := [.int (q_i a0), .int (q_i b0), .int (q_i c0), .int (q_i d0), .int (q_i e0)]) (rest := [.int (q_i 0), .ref out]) cx hB (fun _ h => h) hN hx kx (by decide) rfl (x_feed_a l g hN hB.2.1 x hx kx a0 (by omega) (by omega) b0 (by omega) (by omega) c0 (by omega) (by omega) d0 (by omega) (by omega) e0 (by omega) (by omega) src hsrc ksrc rdr hrdr krdr scr hscr kscr fc hfc kfc hist hhist khist rep hrep krep now hnow know dr hdr kdr sv hsv ksv tr htr ktr xn (by omega) (by omega) hf0 hr0 hr1 hr2 hr3 hr4 hr5 hr6 hr7 hr8 hr9) q_cL_7 q_dX11_feed (by decide) rfl rfl hl.1 rfl (Nat.le_of_ble_eq_true rfl) dL_feed_11 (fun y29 H locs f28 ry29 h30 hF hB => ?_)
  obtain ⟨qy29, z31⟩ := h30
  have z32 : q_ir (q_r f28 x 0) src := Eq.trans (hF.r hx (by rw [kx]; rfl)) hr0
  have z33 : q_ir (q_r f28 x 1) rdr := Eq.trans (hF.r hx (by rw [kx]; rfl)) hr1
  have z34 : q_ir (q_r f28 x 2) scr := Eq.trans (hF.r hx (by rw [kx]; rfl)) hr2
  have z35 : q_ir (q_r f28 x 3) fc := Eq.trans (hF.r hx (by rw [kx]; rfl)) hr3
  have z36 : q_ir (q_r f28 x 4) hist := Eq.trans (hF.r hx (by rw [kx]; rfl)) hr4
  have z37 : q_ir (q_r f28 x 5) rep := Eq.trans (hF.r hx (by rw [kx]; rfl)) hr5
  have z38 : q_ir (q_r f28 x 6) now := Eq.trans (hF.r hx (by rw [kx]; rfl)) hr6
  have z39 : q_ir (q_r f28 x 7) dr := Eq.trans (hF.r hx (by rw [kx]; rfl)) hr7
  have z40 : q_ir (q_r f28 x 8) sv := Eq.trans (hF.r hx (by rw [kx]; rfl)) hr8
  have z41 : q_ir (q_r f28 fc 0) tr := Eq.trans (hF.r hfc (by rw [kfc]; rfl)) hr9
  refine q_i2l cx ⟨by omega, by omega⟩ dL_feed_14 ?_
  refine q_last (n := 1) cx hB hout kout (by decide) rfl rfl (by decide) (by decide) (by decide) rfl rfl dL_feed_15 (fun H locs f42 ef42 z43 hB => ?_)
  have z44 : q_is (q_z f42 src 1) (xn + 20) := by rw [ef42, q_setz (Or.inr (by decide))]; exact z31
  have z45 : q_ir (q_r f42 x 0) src := by rw [ef42, q_setr (Or.inl (fun q => by rw [q, kout] at kx; exact absurd kx (by decide)))]; exact z32
  have z46 : q_ir (q_r f42 x 1) rdr := by rw [ef42, q_setr (Or.inr (by decide))]; exact z33
  have z47 : q_ir (q_r f42 x 2) scr := by rw [ef42, q_setr (Or.inr (by decide))]; exact z34
  have z48 : q_ir (q_r f42 x 3) fc := by rw [ef42, q_setr (Or.inr (by decide))]; exact z35
  have z49 : q_ir (q_r f42 x 4) hist := by rw [ef42, q_setr (Or.inr (by decide))]; exact z36
  have z50 : q_ir (q_r f42 x 5) rep := by rw [ef42, q_setr (Or.inr (by decide))]; exact z37
  have z51 : q_ir (q_r f42 x 6) now := by rw [ef42, q_setr (Or.inr (by decide))]; exact z38
  have z52 : q_ir (q_r f42 x 7) dr := by rw [ef42, q_setr (Or.inr (by decide))]; exact z39
  have z53 : q_ir (q_r f42 x 8) sv := by rw [ef42, q_setr (Or.inr (by decide))]; exact z40
  have z54 : q_ir (q_r f42 fc 0) tr := by rw [ef42, q_setr (Or.inl (fun q => by rw [q, kout] at kfc; exact absurd kfc (by decide)))]; exact z41
  refine lv_goto (tgt := 23) cx.1 cx.2.1 dL_feed_16 (by decide) ?_
  refine q_iconst cx dL_feed_23 ?_
  refine W.widen (k := 0) (n := 0) (by decide) (by decide) ?_
  refine q_iret cx hr hlk hB dL_feed_24 ⟨by decide, by decide⟩ ?_
  exact ⟨rfl, (z43.trans (congrArg q_l (by omega))), z44⟩
set_option maxHeartbeats 4000000 in
set_option maxRecDepth 100000 in
theorem w_feed_b (l : Launch) (g : q_G) (ad : Nat → Nat) {K : Nat → Nat} {L : List Nat} (hN : L.Nodup) {f : Nat → va_E} (hT : q_Ty g K L f) (hfl : l.stackTraces = false) (x : Nat) (hx : x ∈ L) (kx : K x = 11) (a0 : Int) (la0 : (-2147483648) ≤ a0) (ua0 : a0 ≤ 2147483647) (b0 : Int) (lb0 : (-2147483648) ≤ b0) (ub0 : b0 ≤ 2147483647) (c0 : Int) (lc0 : (-2147483648) ≤ c0) (uc0 : c0 ≤ 2147483647) (d0 : Int) (ld0 : (-2147483648) ≤ d0) (ud0 : d0 ≤ 2147483647) (e0 : Int) (le0 : (-2147483648) ≤ e0) (ue0 : e0 ≤ 2147483647) (out : Nat) (hout : out ∈ L) (kout : K out = 168) (src : Nat) (hsrc : src ∈ L) (ksrc : K src = 8) (rdr : Nat) (hrdr : rdr ∈ L) (krdr : K rdr = 9) (scr : Nat) (hscr : scr ∈ L) (kscr : K scr = 7) (fc : Nat) (hfc : fc ∈ L) (kfc : K fc = 1) (hist : Nat) (hhist : hist ∈ L) (khist : K hist = 2) (rep : Nat) (hrep : rep ∈ L) (krep : K rep = 6) (now : Nat) (hnow : now ∈ L) (know : K now = 10) (dr : Nat) (hdr : dr ∈ L) (kdr : K dr = 13) (sv : Nat) (hsv : sv ∈ L) (ksv : K sv = 14) (tr : Nat) (htr : tr ∈ L) (ktr : K tr = 15) (xn : Int) (lxn : 581 ≤ xn) (uxn : xn ≤ 600) (hf0 : q_is (q_z f src 1) xn) (hr0 : q_ir (q_r f x 0) src) (hr1 : q_ir (q_r f x 1) rdr) (hr2 : q_ir (q_r f x 2) scr) (hr3 : q_ir (q_r f x 3) fc) (hr4 : q_ir (q_r f x 4) hist) (hr5 : q_ir (q_r f x 5) rep) (hr6 : q_ir (q_r f x 6) now) (hr7 : q_ir (q_r f x 7) dr) (hr8 : q_ir (q_r f x 8) sv) (hr9 : q_ir (q_r f fc 0) tr) : q_Wt l g ad K L yL_feed cL_feed 8 (some .int) [(0, 16, 19, 13)] 7 107 1 6 [.ref x, .int (q_i a0), .int (q_i b0), .int (q_i c0), .int (q_i d0), .int (q_i e0), .ref out] f [] (q_Pi (fun (z : Int) (f1 : Nat → va_E) => f = f1 ∧ z = 1)) := by
  refine q_wofb (by decide +kernel) hN hT (Nat.le_of_ble_eq_true rfl) ?_
  intro p e s m below meth c ls cx hr hlk htab hX hB hl
  have hl : lv_has ls 8 [(0, .ref x), (1, .int (q_i a0)), (2, .int (q_i b0)), (3, .int (q_i c0)), (4, .int (q_i d0)), (5, .int (q_i e0)), (6, .ref out)] := hl
  obtain ⟨H, hH⟩ : ∃ H : Heap, H = s.heap := ⟨_, rfl⟩
  obtain ⟨locs, hlocs⟩ : ∃ z : List Loc, z = [] := ⟨_, rfl⟩
  rw [← hH, ← hlocs] at hB
  rw [← hH, ← hlocs]
  refine lv_aload cx.1 cx.2.1 dL_feed_0 (lv_at hl 6 rfl) ?_
  refine q_iconst cx dL_feed_2 ?_
  refine q_ald_n cx dL_feed_3 rfl (lv_at hl 0 rfl) ?_
  refine q_ild_n cx dL_feed_4 rfl (lv_at hl 1 rfl) ?_
  refine q_ild_n cx dL_feed_5 rfl (lv_at hl 2 rfl) ?_
  refine q_ild_n cx dL_feed_6 rfl (lv_at hl 3 rfl) ?_
  refine lv_iload cx.1 cx.2.1 dL_feed_7 (lv_at hl 4 rfl) ?_
  refine lv_iload cx.1 cx.2.1 dL_feed_9 (lv_at hl 5 rfl) ?_
  refine q_cXV (As := [.int (q_i a0), .int (q_i b0), .int (q_i c0), .int (q_i d0), .int (q_i e0)]) (rest := [.int (q_i 0), .ref out]) cx hX hB (fun _ h => h) (fun _ h _ => h) hN hx kx (by decide) rfl (x_feed_b l g ad hN hB.2.1 hfl x hx kx a0 (by omega) (by omega) b0 (by omega) (by omega) c0 (by omega) (by omega) d0 (by omega) (by omega) e0 (by omega) (by omega) src hsrc ksrc rdr hrdr krdr scr hscr kscr fc hfc kfc hist hhist khist rep hrep krep now hnow know dr hdr kdr sv hsv ksv tr htr ktr xn (by omega) (by omega) hf0 hr0 hr1 hr2 hr3 hr4 hr5 hr6 hr7 hr8 hr9) q_cL_7 q_dX11_feed (by decide) rfl rfl hl.1 rfl (Nat.le_of_ble_eq_true rfl) dL_feed_11 (fun E9 ce9 q9 H locs f8 hex hF hB hcell hcv hcl => ?_) (fun v9 H locs f5 h7 hF hB => ?_)
  · rcases hex with ⟨rfl, rfl⟩
    · refine vx_catch (E := "java/lang/IllegalStateException") (name := "java/lang/IllegalStateException") cx.2.2.2.1 [] ⟨0, 16, 19, 13⟩ [] (htab.trans rfl) (q_pnil) (by decide) (by decide) (cx.2.2.2.2 _ q_h792) (va_Nw.use rfl (hX.2.2.2.1 (.castable "java/lang/IllegalStateException" "java/lang/IllegalStateException") (by decide +kernel))) hcell hcv hcl ?_
      refine lv_astore (lv' := [(7, .ref q9), (0, .ref x), (1, .int (q_i a0)), (2, .int (q_i b0)), (3, .int (q_i c0)), (4, .int (q_i d0)), (5, .int (q_i e0)), (6, .ref out)]) cx.1 cx.2.1 dL_feed_19 hl (by decide) rfl (fun ls hl => ?_)
      refine q_iconst cx dL_feed_21 ?_
      refine W.widen (k := 1) (n := 6) (by decide) (by decide) ?_
      refine q_iret cx hr hlk hB dL_feed_22 ⟨by decide, by decide⟩ ?_
      exact ⟨rfl, rfl⟩
  · obtain ⟨y6, rfl, ry6, h7⟩ := h7
    exact h7.elim
set_option maxHeartbeats 4000000 in
set_option maxRecDepth 100000 in
theorem w_truncate_a (l : Launch) (g : q_G) (ad : Nat → Nat) {K : Nat → Nat} {L : List Nat} (hN : L.Nodup) {f : Nat → va_E} (hT : q_Ty g K L f) (hfl : l.stackTraces = false) (x : Nat) (hx : x ∈ L) (kx : K x = 11) (a0 : Int) (la0 : (-2147483648) ≤ a0) (ua0 : a0 ≤ (-1)) (out : Nat) (hout : out ∈ L) (kout : K out = 168) (src : Nat) (hsrc : src ∈ L) (ksrc : K src = 8) (rdr : Nat) (hrdr : rdr ∈ L) (krdr : K rdr = 9) (scr : Nat) (hscr : scr ∈ L) (kscr : K scr = 7) (fc : Nat) (hfc : fc ∈ L) (kfc : K fc = 1) (hist : Nat) (hhist : hist ∈ L) (khist : K hist = 2) (rep : Nat) (hrep : rep ∈ L) (krep : K rep = 6) (now : Nat) (hnow : now ∈ L) (know : K now = 10) (dr : Nat) (hdr : dr ∈ L) (kdr : K dr = 13) (sv : Nat) (hsv : sv ∈ L) (ksv : K sv = 14) (tr : Nat) (htr : tr ∈ L) (ktr : K tr = 15) (xn : Int) (lxn : 0 ≤ xn) (uxn : xn ≤ 600) (hf0 : q_is (q_z f src 1) xn) (hr0 : q_ir (q_r f x 0) src) (hr1 : q_ir (q_r f x 1) rdr) (hr2 : q_ir (q_r f x 2) scr) (hr3 : q_ir (q_r f x 3) fc) (hr4 : q_ir (q_r f x 4) hist) (hr5 : q_ir (q_r f x 5) rep) (hr6 : q_ir (q_r f x 6) now) (hr7 : q_ir (q_r f x 7) dr) (hr8 : q_ir (q_r f x 8) sv) (hr9 : q_ir (q_r f fc 0) tr) : q_Wt l g ad K L yL_truncate cL_truncate 4 (some .int) [(0, 9, 12, 19)] 7 103 1 6 [.ref x, .int (q_i a0), .ref out] f [] (q_Pi (fun (z : Int) (f1 : Nat → va_E) => f = f1 ∧ z = 1)) := by
  refine q_wofb (by decide +kernel) hN hT (Nat.le_of_ble_eq_true rfl) ?_
  intro p e s m below meth c ls cx hr hlk htab hX hB hl
  have hl : lv_has ls 4 [(0, .ref x), (1, .int (q_i a0)), (2, .ref out)] := hl
  obtain ⟨H, hH⟩ : ∃ H : Heap, H = s.heap := ⟨_, rfl⟩
  obtain ⟨locs, hlocs⟩ : ∃ z : List Loc, z = [] := ⟨_, rfl⟩
  rw [← hH, ← hlocs] at hB
  rw [← hH, ← hlocs]
  refine q_ald_n cx dL_truncate_0 rfl (lv_at hl 2 rfl) ?_
  refine q_iconst cx dL_truncate_1 ?_
  refine q_ald_n cx dL_truncate_2 rfl (lv_at hl 0 rfl) ?_
  refine q_ild_n cx dL_truncate_3 rfl (lv_at hl 1 rfl) ?_
  refine q_cXV (As := [.int (q_i a0)]) (rest := [.int (q_i 0), .ref out]) cx hX hB (fun _ h => h) (fun _ h _ => h) hN hx kx (by decide) rfl (x_truncate_a l g ad hN hB.2.1 hfl x hx kx a0 (by omega) (by omega) src hsrc ksrc rdr hrdr krdr scr hscr kscr fc hfc kfc hist hhist khist rep hrep krep now hnow know dr hdr kdr sv hsv ksv tr htr ktr xn (by omega) (by omega) hf0 hr0 hr1 hr2 hr3 hr4 hr5 hr6 hr7 hr8 hr9) q_cL_15 q_dX11_truncate (by decide) rfl rfl hl.1 rfl (Nat.le_of_ble_eq_true rfl) dL_truncate_4 (fun E9 ce9 q9 H locs f8 hex hF hB hcell hcv hcl => ?_) (fun v9 H locs f5 h7 hF hB => ?_)
  · rcases hex with ⟨rfl, rfl⟩
    · refine vx_catch (E := "java/lang/IllegalArgumentException") (name := "java/lang/IllegalArgumentException") cx.2.2.2.1 [] ⟨0, 9, 12, 19⟩ [] (htab.trans rfl) (q_pnil) (by decide) (by decide) (cx.2.2.2.2 _ q_h875) (va_Nw.use rfl (hX.2.2.2.1 (.castable "java/lang/IllegalArgumentException" "java/lang/IllegalArgumentException") (by decide +kernel))) hcell hcv hcl ?_
      refine lv_astore_n (lv' := [(3, .ref q9), (0, .ref x), (1, .int (q_i a0)), (2, .ref out)]) cx.1 cx.2.1 dL_truncate_12 rfl hl (by decide) rfl (fun ls hl => ?_)
      refine q_iconst cx dL_truncate_13 ?_
      refine W.widen (k := 1) (n := 6) (by decide) (by decide) ?_
      refine q_iret cx hr hlk hB dL_truncate_14 ⟨by decide, by decide⟩ ?_
      exact ⟨rfl, rfl⟩
  · obtain ⟨y6, rfl, ry6, h7⟩ := h7
    exact h7.elim
set_option maxHeartbeats 4000000 in
set_option maxRecDepth 100000 in
theorem w_truncate_b (l : Launch) (g : q_G) (ad : Nat → Nat) {K : Nat → Nat} {L : List Nat} (hN : L.Nodup) {f : Nat → va_E} (hT : q_Ty g K L f) (hfl : l.stackTraces = false) (x : Nat) (hx : x ∈ L) (kx : K x = 11) (a0 : Int) (la0 : 0 ≤ a0) (ua0 : a0 ≤ 600) (out : Nat) (hout : out ∈ L) (kout : K out = 168) (src : Nat) (hsrc : src ∈ L) (ksrc : K src = 8) (rdr : Nat) (hrdr : rdr ∈ L) (krdr : K rdr = 9) (scr : Nat) (hscr : scr ∈ L) (kscr : K scr = 7) (fc : Nat) (hfc : fc ∈ L) (kfc : K fc = 1) (hist : Nat) (hhist : hist ∈ L) (khist : K hist = 2) (rep : Nat) (hrep : rep ∈ L) (krep : K rep = 6) (now : Nat) (hnow : now ∈ L) (know : K now = 10) (dr : Nat) (hdr : dr ∈ L) (kdr : K dr = 13) (sv : Nat) (hsv : sv ∈ L) (ksv : K sv = 14) (tr : Nat) (htr : tr ∈ L) (ktr : K tr = 15) (xn : Int) (lxn : 0 ≤ xn) (uxn : xn ≤ 600) (hf0 : q_is (q_z f src 1) xn) (hr0 : q_ir (q_r f x 0) src) (hr1 : q_ir (q_r f x 1) rdr) (hr2 : q_ir (q_r f x 2) scr) (hr3 : q_ir (q_r f x 3) fc) (hr4 : q_ir (q_r f x 4) hist) (hr5 : q_ir (q_r f x 5) rep) (hr6 : q_ir (q_r f x 6) now) (hr7 : q_ir (q_r f x 7) dr) (hr8 : q_ir (q_r f x 8) sv) (hr9 : q_ir (q_r f fc 0) tr) (hp0 : a0 ≤ xn) : q_Wt l g ad K L yL_truncate cL_truncate 4 (some .int) [(0, 9, 12, 19)] 1 21 0 0 [.ref x, .int (q_i a0), .ref out] f [(8, 1, 1), (168, 0, 0)] (q_Pi (fun (z : Int) (f1 : Nat → va_E) => z = 0 ∧ q_j f1 out 0 = (q_l a0) ∧ q_is (q_z f1 src 1) a0)) := by
  refine q_wofb (by decide +kernel) hN hT (Nat.le_of_ble_eq_true rfl) ?_
  intro p e s m below meth c ls cx hr hlk htab hX hB hl
  have hl : lv_has ls 4 [(0, .ref x), (1, .int (q_i a0)), (2, .ref out)] := hl
  obtain ⟨H, hH⟩ : ∃ H : Heap, H = s.heap := ⟨_, rfl⟩
  obtain ⟨locs, hlocs⟩ : ∃ z : List Loc, z = [] := ⟨_, rfl⟩
  rw [← hH, ← hlocs] at hB
  rw [← hH, ← hlocs]
  refine q_ald_n cx dL_truncate_0 rfl (lv_at hl 2 rfl) ?_
  refine q_iconst cx dL_truncate_1 ?_
  refine q_ald_n cx dL_truncate_2 rfl (lv_at hl 0 rfl) ?_
  refine q_ild_n cx dL_truncate_3 rfl (lv_at hl 1 rfl) ?_
  refine q_cVi (As := [.int (q_i a0)]) (rest := [.int (q_i 0), .ref out]) cx hB (fun _ h => h) hN hx kx (by decide) rfl (x_truncate_b l g hN hB.2.1 x hx kx a0 (by omega) (by omega) src hsrc ksrc rdr hrdr krdr scr hscr kscr fc hfc kfc hist hhist khist rep hrep krep now hnow know dr hdr kdr sv hsv ksv tr htr ktr xn (by omega) (by omega) hf0 hr0 hr1 hr2 hr3 hr4 hr5 hr6 hr7 hr8 hr9 (by omega)) q_cL_15 q_dX11_truncate (by decide) rfl rfl hl.1 rfl (Nat.le_of_ble_eq_true rfl) dL_truncate_4 (fun y29 H locs f28 ry29 h30 hF hB => ?_)
  obtain ⟨qy29, z31⟩ := h30
  have z32 : q_ir (q_r f28 x 0) src := Eq.trans (hF.r hx (by rw [kx]; rfl)) hr0
  have z33 : q_ir (q_r f28 x 1) rdr := Eq.trans (hF.r hx (by rw [kx]; rfl)) hr1
  have z34 : q_ir (q_r f28 x 2) scr := Eq.trans (hF.r hx (by rw [kx]; rfl)) hr2
  have z35 : q_ir (q_r f28 x 3) fc := Eq.trans (hF.r hx (by rw [kx]; rfl)) hr3
  have z36 : q_ir (q_r f28 x 4) hist := Eq.trans (hF.r hx (by rw [kx]; rfl)) hr4
  have z37 : q_ir (q_r f28 x 5) rep := Eq.trans (hF.r hx (by rw [kx]; rfl)) hr5
  have z38 : q_ir (q_r f28 x 6) now := Eq.trans (hF.r hx (by rw [kx]; rfl)) hr6
  have z39 : q_ir (q_r f28 x 7) dr := Eq.trans (hF.r hx (by rw [kx]; rfl)) hr7
  have z40 : q_ir (q_r f28 x 8) sv := Eq.trans (hF.r hx (by rw [kx]; rfl)) hr8
  have z41 : q_ir (q_r f28 fc 0) tr := Eq.trans (hF.r hfc (by rw [kfc]; rfl)) hr9
  refine q_i2l cx ⟨by omega, by omega⟩ dL_truncate_7 ?_
  refine q_last (n := 1) cx hB hout kout (by decide) rfl rfl (by decide) (by decide) (by decide) rfl rfl dL_truncate_8 (fun H locs f42 ef42 z43 hB => ?_)
  have z44 : q_is (q_z f42 src 1) a0 := by rw [ef42, q_setz (Or.inr (by decide))]; exact z31
  have z45 : q_ir (q_r f42 x 0) src := by rw [ef42, q_setr (Or.inl (fun q => by rw [q, kout] at kx; exact absurd kx (by decide)))]; exact z32
  have z46 : q_ir (q_r f42 x 1) rdr := by rw [ef42, q_setr (Or.inr (by decide))]; exact z33
  have z47 : q_ir (q_r f42 x 2) scr := by rw [ef42, q_setr (Or.inr (by decide))]; exact z34
  have z48 : q_ir (q_r f42 x 3) fc := by rw [ef42, q_setr (Or.inr (by decide))]; exact z35
  have z49 : q_ir (q_r f42 x 4) hist := by rw [ef42, q_setr (Or.inr (by decide))]; exact z36
  have z50 : q_ir (q_r f42 x 5) rep := by rw [ef42, q_setr (Or.inr (by decide))]; exact z37
  have z51 : q_ir (q_r f42 x 6) now := by rw [ef42, q_setr (Or.inr (by decide))]; exact z38
  have z52 : q_ir (q_r f42 x 7) dr := by rw [ef42, q_setr (Or.inr (by decide))]; exact z39
  have z53 : q_ir (q_r f42 x 8) sv := by rw [ef42, q_setr (Or.inr (by decide))]; exact z40
  have z54 : q_ir (q_r f42 fc 0) tr := by rw [ef42, q_setr (Or.inl (fun q => by rw [q, kout] at kfc; exact absurd kfc (by decide)))]; exact z41
  refine lv_goto (tgt := 15) cx.1 cx.2.1 dL_truncate_9 (by decide) ?_
  refine q_iconst cx dL_truncate_15 ?_
  refine W.widen (k := 0) (n := 0) (by decide) (by decide) ?_
  refine q_iret cx hr hlk hB dL_truncate_16 ⟨by decide, by decide⟩ ?_
  exact ⟨rfl, (z43.trans (congrArg q_l (by omega))), z44⟩
set_option maxHeartbeats 4000000 in
set_option maxRecDepth 100000 in
theorem w_truncate_c (l : Launch) (g : q_G) (ad : Nat → Nat) {K : Nat → Nat} {L : List Nat} (hN : L.Nodup) {f : Nat → va_E} (hT : q_Ty g K L f) (hfl : l.stackTraces = false) (x : Nat) (hx : x ∈ L) (kx : K x = 11) (a0 : Int) (la0 : 0 ≤ a0) (ua0 : a0 ≤ 2147483647) (out : Nat) (hout : out ∈ L) (kout : K out = 168) (src : Nat) (hsrc : src ∈ L) (ksrc : K src = 8) (rdr : Nat) (hrdr : rdr ∈ L) (krdr : K rdr = 9) (scr : Nat) (hscr : scr ∈ L) (kscr : K scr = 7) (fc : Nat) (hfc : fc ∈ L) (kfc : K fc = 1) (hist : Nat) (hhist : hist ∈ L) (khist : K hist = 2) (rep : Nat) (hrep : rep ∈ L) (krep : K rep = 6) (now : Nat) (hnow : now ∈ L) (know : K now = 10) (dr : Nat) (hdr : dr ∈ L) (kdr : K dr = 13) (sv : Nat) (hsv : sv ∈ L) (ksv : K sv = 14) (tr : Nat) (htr : tr ∈ L) (ktr : K tr = 15) (xn : Int) (lxn : 0 ≤ xn) (uxn : xn ≤ 600) (hf0 : q_is (q_z f src 1) xn) (hr0 : q_ir (q_r f x 0) src) (hr1 : q_ir (q_r f x 1) rdr) (hr2 : q_ir (q_r f x 2) scr) (hr3 : q_ir (q_r f x 3) fc) (hr4 : q_ir (q_r f x 4) hist) (hr5 : q_ir (q_r f x 5) rep) (hr6 : q_ir (q_r f x 6) now) (hr7 : q_ir (q_r f x 7) dr) (hr8 : q_ir (q_r f x 8) sv) (hr9 : q_ir (q_r f fc 0) tr) (hp0 : xn < a0) : q_Wt l g ad K L yL_truncate cL_truncate 4 (some .int) [(0, 9, 12, 19)] 7 103 1 6 [.ref x, .int (q_i a0), .ref out] f [] (q_Pi (fun (z : Int) (f1 : Nat → va_E) => f = f1 ∧ z = 1)) := by
  refine q_wofb (by decide +kernel) hN hT (Nat.le_of_ble_eq_true rfl) ?_
  intro p e s m below meth c ls cx hr hlk htab hX hB hl
  have hl : lv_has ls 4 [(0, .ref x), (1, .int (q_i a0)), (2, .ref out)] := hl
  obtain ⟨H, hH⟩ : ∃ H : Heap, H = s.heap := ⟨_, rfl⟩
  obtain ⟨locs, hlocs⟩ : ∃ z : List Loc, z = [] := ⟨_, rfl⟩
  rw [← hH, ← hlocs] at hB
  rw [← hH, ← hlocs]
  refine q_ald_n cx dL_truncate_0 rfl (lv_at hl 2 rfl) ?_
  refine q_iconst cx dL_truncate_1 ?_
  refine q_ald_n cx dL_truncate_2 rfl (lv_at hl 0 rfl) ?_
  refine q_ild_n cx dL_truncate_3 rfl (lv_at hl 1 rfl) ?_
  refine q_cXV (As := [.int (q_i a0)]) (rest := [.int (q_i 0), .ref out]) cx hX hB (fun _ h => h) (fun _ h _ => h) hN hx kx (by decide) rfl (x_truncate_c l g ad hN hB.2.1 hfl x hx kx a0 (by omega) (by omega) src hsrc ksrc rdr hrdr krdr scr hscr kscr fc hfc kfc hist hhist khist rep hrep krep now hnow know dr hdr kdr sv hsv ksv tr htr ktr xn (by omega) (by omega) hf0 hr0 hr1 hr2 hr3 hr4 hr5 hr6 hr7 hr8 hr9 (by omega)) q_cL_15 q_dX11_truncate (by decide) rfl rfl hl.1 rfl (Nat.le_of_ble_eq_true rfl) dL_truncate_4 (fun E9 ce9 q9 H locs f8 hex hF hB hcell hcv hcl => ?_) (fun v9 H locs f5 h7 hF hB => ?_)
  · rcases hex with ⟨rfl, rfl⟩
    · refine vx_catch (E := "java/lang/IllegalArgumentException") (name := "java/lang/IllegalArgumentException") cx.2.2.2.1 [] ⟨0, 9, 12, 19⟩ [] (htab.trans rfl) (q_pnil) (by decide) (by decide) (cx.2.2.2.2 _ q_h875) (va_Nw.use rfl (hX.2.2.2.1 (.castable "java/lang/IllegalArgumentException" "java/lang/IllegalArgumentException") (by decide +kernel))) hcell hcv hcl ?_
      refine lv_astore_n (lv' := [(3, .ref q9), (0, .ref x), (1, .int (q_i a0)), (2, .ref out)]) cx.1 cx.2.1 dL_truncate_12 rfl hl (by decide) rfl (fun ls hl => ?_)
      refine q_iconst cx dL_truncate_13 ?_
      refine W.widen (k := 1) (n := 6) (by decide) (by decide) ?_
      refine q_iret cx hr hlk hB dL_truncate_14 ⟨by decide, by decide⟩ ?_
      exact ⟨rfl, rfl⟩
  · obtain ⟨y6, rfl, ry6, h7⟩ := h7
    exact h7.elim
set_option maxHeartbeats 4000000 in
set_option maxRecDepth 100000 in
theorem w_readText (l : Launch) (g : q_G) (ad : Nat → Nat) {K : Nat → Nat} {L : List Nat} (hN : L.Nodup) {f : Nat → va_E} (hT : q_Ty g K L f) (hfl : l.stackTraces = false) (x : Nat) (hx : x ∈ L) (kx : K x = 11) (out : Nat) (hout : out ∈ L) (kout : K out = 168) (src : Nat) (hsrc : src ∈ L) (ksrc : K src = 8) (rdr : Nat) (hrdr : rdr ∈ L) (krdr : K rdr = 9) (scr : Nat) (hscr : scr ∈ L) (kscr : K scr = 7) (fc : Nat) (hfc : fc ∈ L) (kfc : K fc = 1) (hist : Nat) (hhist : hist ∈ L) (khist : K hist = 2) (rep : Nat) (hrep : rep ∈ L) (krep : K rep = 6) (now : Nat) (hnow : now ∈ L) (know : K now = 10) (dr : Nat) (hdr : dr ∈ L) (kdr : K dr = 13) (sv : Nat) (hsv : sv ∈ L) (ksv : K sv = 14) (tr : Nat) (htr : tr ∈ L) (ktr : K tr = 15) (hr0 : q_ir (q_r f x 0) src) (hr1 : q_ir (q_r f x 1) rdr) (hr2 : q_ir (q_r f x 2) scr) (hr3 : q_ir (q_r f x 3) fc) (hr4 : q_ir (q_r f x 4) hist) (hr5 : q_ir (q_r f x 5) rep) (hr6 : q_ir (q_r f x 6) now) (hr7 : q_ir (q_r f x 7) dr) (hr8 : q_ir (q_r f x 8) sv) (hr9 : q_ir (q_r f fc 0) tr) : q_Wt l g ad K L yL_readText cL_readText 3 (some .int) [(0, 8, 11, 19)] 10 220 1 6 [.ref x, .ref out] f [(2, 2, 2), (3, 0, 4), (4, 0, 7), (5, 0, 8), (8, 1, 9), (9, 0, 2), (10, 3, 12), (13, 3, 12), (17, 0, 8), (21, 0, 4), (168, 0, 0)] (q_Pi (fun (z : Int) (f1 : Nat → va_E) => 0 ≤ z ∧ z ≤ 1 ∧ q_is (q_z f1 src 1) 0)) := by
  refine q_wofb (by decide +kernel) hN hT (Nat.le_of_ble_eq_true rfl) ?_
  intro p e s m below meth c ls cx hr hlk htab hX hB hl
  have hl : lv_has ls 3 [(0, .ref x), (1, .ref out)] := hl
  obtain ⟨H, hH⟩ : ∃ H : Heap, H = s.heap := ⟨_, rfl⟩
  obtain ⟨locs, hlocs⟩ : ∃ z : List Loc, z = [] := ⟨_, rfl⟩
  rw [← hH, ← hlocs] at hB
  rw [← hH, ← hlocs]
  refine q_ald_n cx dL_readText_0 rfl (lv_at hl 1 rfl) ?_
  refine q_iconst cx dL_readText_1 ?_
  refine q_ald_n cx dL_readText_2 rfl (lv_at hl 0 rfl) ?_
  refine q_cXV (As := []) (rest := [.int (q_i 0), .ref out]) cx hX hB (fun _ h => h) (fun _ h _ => h) hN hx kx (by decide) rfl (x_readText l g ad hN hB.2.1 hfl x hx kx src hsrc ksrc rdr hrdr krdr scr hscr kscr fc hfc kfc hist hhist khist rep hrep krep now hnow know dr hdr kdr sv hsv ksv tr htr ktr hr0 hr1 hr2 hr3 hr4 hr5 hr6 hr7 hr8 hr9) q_cL_21 q_dX11_readText (by decide) rfl rfl hl.1 rfl (Nat.le_of_ble_eq_true rfl) dL_readText_3 (fun E9 ce9 q9 H locs f43 hex hF hB hcell hcv hcl => ?_) (fun v9 H locs f40 h42 hF hB => ?_)
  · rcases hex with ⟨rfl, z44⟩
    · have z45 : q_ir (q_r f43 x 0) src := Eq.trans (hF.r hx (by rw [kx]; rfl)) hr0
      have z46 : q_ir (q_r f43 x 1) rdr := Eq.trans (hF.r hx (by rw [kx]; rfl)) hr1
      have z47 : q_ir (q_r f43 x 2) scr := Eq.trans (hF.r hx (by rw [kx]; rfl)) hr2
      have z48 : q_ir (q_r f43 x 3) fc := Eq.trans (hF.r hx (by rw [kx]; rfl)) hr3
      have z49 : q_ir (q_r f43 x 4) hist := Eq.trans (hF.r hx (by rw [kx]; rfl)) hr4
      have z50 : q_ir (q_r f43 x 5) rep := Eq.trans (hF.r hx (by rw [kx]; rfl)) hr5
      have z51 : q_ir (q_r f43 x 6) now := Eq.trans (hF.r hx (by rw [kx]; rfl)) hr6
      have z52 : q_ir (q_r f43 x 7) dr := Eq.trans (hF.r hx (by rw [kx]; rfl)) hr7
      have z53 : q_ir (q_r f43 x 8) sv := Eq.trans (hF.r hx (by rw [kx]; rfl)) hr8
      have z54 : q_ir (q_r f43 fc 0) tr := Eq.trans (hF.r hfc (by rw [kfc]; rfl)) hr9
      refine vx_catch (E := "java/lang/IllegalArgumentException") (name := "java/lang/IllegalArgumentException") cx.2.2.2.1 [] ⟨0, 8, 11, 19⟩ [] (htab.trans rfl) (q_pnil) (by decide) (by decide) (cx.2.2.2.2 _ q_h875) (va_Nw.use rfl (hX.2.2.2.1 (.castable "java/lang/IllegalArgumentException" "java/lang/IllegalArgumentException") (by decide +kernel))) hcell hcv hcl ?_
      refine lv_astore_n (lv' := [(2, .ref q9), (0, .ref x), (1, .ref out)]) cx.1 cx.2.1 dL_readText_11 rfl hl (by decide) rfl (fun ls hl => ?_)
      refine q_iconst cx dL_readText_12 ?_
      refine W.widen (k := 1) (n := 6) (by decide) (by decide) ?_
      refine q_iret cx hr hlk hB dL_readText_13 ⟨by decide, by decide⟩ ?_
      exact ⟨(by decide), (by decide), z44⟩
  · obtain ⟨y41, rfl, ry41, h42⟩ := h42
    refine W.eq (g2 := F0 m 6 ls [.int (q_i y41), .int (q_i 0), .ref out]) rfl ?_
    have z55 := h42
    have z56 : q_ir (q_r f40 x 0) src := Eq.trans (hF.r hx (by rw [kx]; rfl)) hr0
    have z57 : q_ir (q_r f40 x 1) rdr := Eq.trans (hF.r hx (by rw [kx]; rfl)) hr1
    have z58 : q_ir (q_r f40 x 2) scr := Eq.trans (hF.r hx (by rw [kx]; rfl)) hr2
    have z59 : q_ir (q_r f40 x 3) fc := Eq.trans (hF.r hx (by rw [kx]; rfl)) hr3
    have z60 : q_ir (q_r f40 x 4) hist := Eq.trans (hF.r hx (by rw [kx]; rfl)) hr4
    have z61 : q_ir (q_r f40 x 5) rep := Eq.trans (hF.r hx (by rw [kx]; rfl)) hr5
    have z62 : q_ir (q_r f40 x 6) now := Eq.trans (hF.r hx (by rw [kx]; rfl)) hr6
    have z63 : q_ir (q_r f40 x 7) dr := Eq.trans (hF.r hx (by rw [kx]; rfl)) hr7
    have z64 : q_ir (q_r f40 x 8) sv := Eq.trans (hF.r hx (by rw [kx]; rfl)) hr8
    have z65 : q_ir (q_r f40 fc 0) tr := Eq.trans (hF.r hfc (by rw [kfc]; rfl)) hr9
    refine q_i2l cx ⟨by omega, by omega⟩ dL_readText_6 ?_
    refine q_last (n := 1) cx hB hout kout (by decide) rfl rfl (by decide) (by decide) (by decide) rfl rfl dL_readText_7 (fun H locs f66 ef66 z67 hB => ?_)
    have z68 : q_is (q_z f66 src 1) 0 := by rw [ef66, q_setz (Or.inr (by decide))]; exact z55
    have z69 : q_ir (q_r f66 x 0) src := by rw [ef66, q_setr (Or.inl (fun q => by rw [q, kout] at kx; exact absurd kx (by decide)))]; exact z56
    have z70 : q_ir (q_r f66 x 1) rdr := by rw [ef66, q_setr (Or.inr (by decide))]; exact z57
    have z71 : q_ir (q_r f66 x 2) scr := by rw [ef66, q_setr (Or.inr (by decide))]; exact z58
    have z72 : q_ir (q_r f66 x 3) fc := by rw [ef66, q_setr (Or.inr (by decide))]; exact z59
    have z73 : q_ir (q_r f66 x 4) hist := by rw [ef66, q_setr (Or.inr (by decide))]; exact z60
    have z74 : q_ir (q_r f66 x 5) rep := by rw [ef66, q_setr (Or.inr (by decide))]; exact z61
    have z75 : q_ir (q_r f66 x 6) now := by rw [ef66, q_setr (Or.inr (by decide))]; exact z62
    have z76 : q_ir (q_r f66 x 7) dr := by rw [ef66, q_setr (Or.inr (by decide))]; exact z63
    have z77 : q_ir (q_r f66 x 8) sv := by rw [ef66, q_setr (Or.inr (by decide))]; exact z64
    have z78 : q_ir (q_r f66 fc 0) tr := by rw [ef66, q_setr (Or.inl (fun q => by rw [q, kout] at kfc; exact absurd kfc (by decide)))]; exact z65
    refine lv_goto (tgt := 14) cx.1 cx.2.1 dL_readText_8 (by decide) ?_
    refine q_iconst cx dL_readText_14 ?_
    refine W.widen (k := 1) (n := 6) (by decide) (by decide) ?_
    refine q_iret cx hr hlk hB dL_readText_15 ⟨by decide, by decide⟩ ?_
    exact ⟨(by decide), (by decide), z68⟩
set_option maxHeartbeats 4000000 in
set_option maxRecDepth 100000 in
theorem w_runScript (l : Launch) (g : q_G) (ad : Nat → Nat) {K : Nat → Nat} {L : List Nat} (hN : L.Nodup) {f : Nat → va_E} (hT : q_Ty g K L f) (hfl : l.stackTraces = false) (x : Nat) (hx : x ∈ L) (kx : K x = 11) (out : Nat) (hout : out ∈ L) (kout : K out = 168) (src : Nat) (hsrc : src ∈ L) (ksrc : K src = 8) (rdr : Nat) (hrdr : rdr ∈ L) (krdr : K rdr = 9) (scr : Nat) (hscr : scr ∈ L) (kscr : K scr = 7) (fc : Nat) (hfc : fc ∈ L) (kfc : K fc = 1) (hist : Nat) (hhist : hist ∈ L) (khist : K hist = 2) (rep : Nat) (hrep : rep ∈ L) (krep : K rep = 6) (now : Nat) (hnow : now ∈ L) (know : K now = 10) (dr : Nat) (hdr : dr ∈ L) (kdr : K dr = 13) (sv : Nat) (hsv : sv ∈ L) (ksv : K sv = 14) (tr : Nat) (htr : tr ∈ L) (ktr : K tr = 15) (hr0 : q_ir (q_r f x 0) src) (hr1 : q_ir (q_r f x 1) rdr) (hr2 : q_ir (q_r f x 2) scr) (hr3 : q_ir (q_r f x 3) fc) (hr4 : q_ir (q_r f x 4) hist) (hr5 : q_ir (q_r f x 5) rep) (hr6 : q_ir (q_r f x 6) now) (hr7 : q_ir (q_r f x 7) dr) (hr8 : q_ir (q_r f x 8) sv) (hr9 : q_ir (q_r f fc 0) tr) : q_Wt l g ad K L yL_runScript cL_runScript 3 (some .int) [(0, 8, 11, 19)] 9 196 1 6 [.ref x, .ref out] f [(0, 0, 6), (2, 1, 2), (3, 2, 4), (4, 0, 7), (5, 1, 1), (5, 3, 4), (5, 6, 9), (7, 1, 4), (8, 1, 9), (10, 5, 5), (10, 11, 15), (16, 3, 12), (20, 0, 8), (24, 0, 4), (28, 0, 7), (168, 0, 0)] (q_Pi (fun (z : Int) (f1 : Nat → va_E) => 0 ≤ z ∧ z ≤ 1 ∧ q_is (q_z f1 src 1) 0)) := by
  refine q_wofb (by decide +kernel) hN hT (Nat.le_of_ble_eq_true rfl) ?_
  intro p e s m below meth c ls cx hr hlk htab hX hB hl
  have hl : lv_has ls 3 [(0, .ref x), (1, .ref out)] := hl
  obtain ⟨H, hH⟩ : ∃ H : Heap, H = s.heap := ⟨_, rfl⟩
  obtain ⟨locs, hlocs⟩ : ∃ z : List Loc, z = [] := ⟨_, rfl⟩
  rw [← hH, ← hlocs] at hB
  rw [← hH, ← hlocs]
  refine q_ald_n cx dL_runScript_0 rfl (lv_at hl 1 rfl) ?_
  refine q_iconst cx dL_runScript_1 ?_
  refine q_ald_n cx dL_runScript_2 rfl (lv_at hl 0 rfl) ?_
  refine q_cXV (As := []) (rest := [.int (q_i 0), .ref out]) cx hX hB (fun _ h => h) (fun _ h _ => h) hN hx kx (by decide) rfl (x_runScript l g ad hN hB.2.1 hfl x hx kx src hsrc ksrc rdr hrdr krdr scr hscr kscr fc hfc kfc hist hhist khist rep hrep krep now hnow know dr hdr kdr sv hsv ksv tr htr ktr hr0 hr1 hr2 hr3 hr4 hr5 hr6 hr7 hr8 hr9) q_cL_25 q_dX11_runScript (by decide) rfl rfl hl.1 rfl (Nat.le_of_ble_eq_true rfl) dL_runScript_3 (fun E9 ce9 q9 H locs f43 hex hF hB hcell hcv hcl => ?_) (fun v9 H locs f40 h42 hF hB => ?_)
  · rcases hex with ⟨rfl, z44⟩
    · have z45 : q_ir (q_r f43 x 0) src := Eq.trans (hF.r hx (by rw [kx]; rfl)) hr0
      have z46 : q_ir (q_r f43 x 1) rdr := Eq.trans (hF.r hx (by rw [kx]; rfl)) hr1
      have z47 : q_ir (q_r f43 x 2) scr := Eq.trans (hF.r hx (by rw [kx]; rfl)) hr2
      have z48 : q_ir (q_r f43 x 3) fc := Eq.trans (hF.r hx (by rw [kx]; rfl)) hr3
      have z49 : q_ir (q_r f43 x 4) hist := Eq.trans (hF.r hx (by rw [kx]; rfl)) hr4
      have z50 : q_ir (q_r f43 x 5) rep := Eq.trans (hF.r hx (by rw [kx]; rfl)) hr5
      have z51 : q_ir (q_r f43 x 6) now := Eq.trans (hF.r hx (by rw [kx]; rfl)) hr6
      have z52 : q_ir (q_r f43 x 7) dr := Eq.trans (hF.r hx (by rw [kx]; rfl)) hr7
      have z53 : q_ir (q_r f43 x 8) sv := Eq.trans (hF.r hx (by rw [kx]; rfl)) hr8
      have z54 : q_ir (q_r f43 fc 0) tr := Eq.trans (hF.r hfc (by rw [kfc]; rfl)) hr9
      refine vx_catch (E := "java/lang/IllegalArgumentException") (name := "java/lang/IllegalArgumentException") cx.2.2.2.1 [] ⟨0, 8, 11, 19⟩ [] (htab.trans rfl) (q_pnil) (by decide) (by decide) (cx.2.2.2.2 _ q_h875) (va_Nw.use rfl (hX.2.2.2.1 (.castable "java/lang/IllegalArgumentException" "java/lang/IllegalArgumentException") (by decide +kernel))) hcell hcv hcl ?_
      refine lv_astore_n (lv' := [(2, .ref q9), (0, .ref x), (1, .ref out)]) cx.1 cx.2.1 dL_runScript_11 rfl hl (by decide) rfl (fun ls hl => ?_)
      refine q_iconst cx dL_runScript_12 ?_
      refine W.widen (k := 1) (n := 6) (by decide) (by decide) ?_
      refine q_iret cx hr hlk hB dL_runScript_13 ⟨by decide, by decide⟩ ?_
      exact ⟨(by decide), (by decide), z44⟩
  · obtain ⟨y41, rfl, ry41, h42⟩ := h42
    refine W.eq (g2 := F0 m 6 ls [.int (q_i y41), .int (q_i 0), .ref out]) rfl ?_
    have z55 := h42
    have z56 : q_ir (q_r f40 x 0) src := Eq.trans (hF.r hx (by rw [kx]; rfl)) hr0
    have z57 : q_ir (q_r f40 x 1) rdr := Eq.trans (hF.r hx (by rw [kx]; rfl)) hr1
    have z58 : q_ir (q_r f40 x 2) scr := Eq.trans (hF.r hx (by rw [kx]; rfl)) hr2
    have z59 : q_ir (q_r f40 x 3) fc := Eq.trans (hF.r hx (by rw [kx]; rfl)) hr3
    have z60 : q_ir (q_r f40 x 4) hist := Eq.trans (hF.r hx (by rw [kx]; rfl)) hr4
    have z61 : q_ir (q_r f40 x 5) rep := Eq.trans (hF.r hx (by rw [kx]; rfl)) hr5
    have z62 : q_ir (q_r f40 x 6) now := Eq.trans (hF.r hx (by rw [kx]; rfl)) hr6
    have z63 : q_ir (q_r f40 x 7) dr := Eq.trans (hF.r hx (by rw [kx]; rfl)) hr7
    have z64 : q_ir (q_r f40 x 8) sv := Eq.trans (hF.r hx (by rw [kx]; rfl)) hr8
    have z65 : q_ir (q_r f40 fc 0) tr := Eq.trans (hF.r hfc (by rw [kfc]; rfl)) hr9
    refine q_i2l cx ⟨by omega, by omega⟩ dL_runScript_6 ?_
    refine q_last (n := 1) cx hB hout kout (by decide) rfl rfl (by decide) (by decide) (by decide) rfl rfl dL_runScript_7 (fun H locs f66 ef66 z67 hB => ?_)
    have z68 : q_is (q_z f66 src 1) 0 := by rw [ef66, q_setz (Or.inr (by decide))]; exact z55
    have z69 : q_ir (q_r f66 x 0) src := by rw [ef66, q_setr (Or.inl (fun q => by rw [q, kout] at kx; exact absurd kx (by decide)))]; exact z56
    have z70 : q_ir (q_r f66 x 1) rdr := by rw [ef66, q_setr (Or.inr (by decide))]; exact z57
    have z71 : q_ir (q_r f66 x 2) scr := by rw [ef66, q_setr (Or.inr (by decide))]; exact z58
    have z72 : q_ir (q_r f66 x 3) fc := by rw [ef66, q_setr (Or.inr (by decide))]; exact z59
    have z73 : q_ir (q_r f66 x 4) hist := by rw [ef66, q_setr (Or.inr (by decide))]; exact z60
    have z74 : q_ir (q_r f66 x 5) rep := by rw [ef66, q_setr (Or.inr (by decide))]; exact z61
    have z75 : q_ir (q_r f66 x 6) now := by rw [ef66, q_setr (Or.inr (by decide))]; exact z62
    have z76 : q_ir (q_r f66 x 7) dr := by rw [ef66, q_setr (Or.inr (by decide))]; exact z63
    have z77 : q_ir (q_r f66 x 8) sv := by rw [ef66, q_setr (Or.inr (by decide))]; exact z64
    have z78 : q_ir (q_r f66 fc 0) tr := by rw [ef66, q_setr (Or.inl (fun q => by rw [q, kout] at kfc; exact absurd kfc (by decide)))]; exact z65
    refine lv_goto (tgt := 14) cx.1 cx.2.1 dL_runScript_8 (by decide) ?_
    refine q_iconst cx dL_runScript_14 ?_
    refine W.widen (k := 1) (n := 6) (by decide) (by decide) ?_
    refine q_iret cx hr hlk hB dL_runScript_15 ⟨by decide, by decide⟩ ?_
    exact ⟨(by decide), (by decide), z68⟩
set_option maxHeartbeats 4000000 in
set_option maxRecDepth 100000 in
theorem w_setting (l : Launch) (g : q_G) (ad : Nat → Nat) {K : Nat → Nat} {L : List Nat} (hN : L.Nodup) {f : Nat → va_E} (hT : q_Ty g K L f) (hfl : l.stackTraces = false) (x : Nat) (hx : x ∈ L) (kx : K x = 11) (a0 : Int) (la0 : (-2147483648) ≤ a0) (ua0 : a0 ≤ 2147483647) (out : Nat) (hout : out ∈ L) (kout : K out = 168) (src : Nat) (hsrc : src ∈ L) (ksrc : K src = 8) (rdr : Nat) (hrdr : rdr ∈ L) (krdr : K rdr = 9) (scr : Nat) (hscr : scr ∈ L) (kscr : K scr = 7) (fc : Nat) (hfc : fc ∈ L) (kfc : K fc = 1) (hist : Nat) (hhist : hist ∈ L) (khist : K hist = 2) (rep : Nat) (hrep : rep ∈ L) (krep : K rep = 6) (now : Nat) (hnow : now ∈ L) (know : K now = 10) (dr : Nat) (hdr : dr ∈ L) (kdr : K dr = 13) (sv : Nat) (hsv : sv ∈ L) (ksv : K sv = 14) (tr : Nat) (htr : tr ∈ L) (ktr : K tr = 15) (hr0 : q_ir (q_r f x 0) src) (hr1 : q_ir (q_r f x 1) rdr) (hr2 : q_ir (q_r f x 2) scr) (hr3 : q_ir (q_r f x 3) fc) (hr4 : q_ir (q_r f x 4) hist) (hr5 : q_ir (q_r f x 5) rep) (hr6 : q_ir (q_r f x 6) now) (hr7 : q_ir (q_r f x 7) dr) (hr8 : q_ir (q_r f x 8) sv) (hr9 : q_ir (q_r f fc 0) tr) : q_Wt l g ad K L yL_setting cL_setting 4 (some .int) [(0, 9, 12, 19)] 7 103 1 6 [.ref x, .int (q_i a0), .ref out] f [(168, 0, 0)] (q_Pi (fun (z : Int) (f1 : Nat → va_E) => 0 ≤ z ∧ z ≤ 3)) := by
  refine q_wofb (by decide +kernel) hN hT (Nat.le_of_ble_eq_true rfl) ?_
  intro p e s m below meth c ls cx hr hlk htab hX hB hl
  have hl : lv_has ls 4 [(0, .ref x), (1, .int (q_i a0)), (2, .ref out)] := hl
  obtain ⟨H, hH⟩ : ∃ H : Heap, H = s.heap := ⟨_, rfl⟩
  obtain ⟨locs, hlocs⟩ : ∃ z : List Loc, z = [] := ⟨_, rfl⟩
  rw [← hH, ← hlocs] at hB
  rw [← hH, ← hlocs]
  refine q_ald_n cx dL_setting_0 rfl (lv_at hl 2 rfl) ?_
  refine q_iconst cx dL_setting_1 ?_
  refine q_ald_n cx dL_setting_2 rfl (lv_at hl 0 rfl) ?_
  refine q_ild_n cx dL_setting_3 rfl (lv_at hl 1 rfl) ?_
  refine q_cXV (As := [.int (q_i a0)]) (rest := [.int (q_i 0), .ref out]) cx hX hB (fun _ h => h) (fun _ h _ => h) hN hx kx (by decide) rfl (x_setting l g ad hN hB.2.1 hfl x hx kx a0 (by omega) (by omega) src hsrc ksrc rdr hrdr krdr scr hscr kscr fc hfc kfc hist hhist khist rep hrep krep now hnow know dr hdr kdr sv hsv ksv tr htr ktr hr0 hr1 hr2 hr3 hr4 hr5 hr6 hr7 hr8 hr9) q_cL_28 q_dX11_setting (by decide) rfl rfl hl.1 rfl (Nat.le_of_ble_eq_true rfl) dL_setting_4 (fun E9 ce9 q9 H locs f20 hex hF hB hcell hcv hcl => ?_) (fun v9 H locs f17 h19 hF hB => ?_)
  · rcases hex with ⟨rfl, rfl⟩
    · refine vx_catch (E := "java/lang/IllegalArgumentException") (name := "java/lang/IllegalArgumentException") cx.2.2.2.1 [] ⟨0, 9, 12, 19⟩ [] (htab.trans rfl) (q_pnil) (by decide) (by decide) (cx.2.2.2.2 _ q_h875) (va_Nw.use rfl (hX.2.2.2.1 (.castable "java/lang/IllegalArgumentException" "java/lang/IllegalArgumentException") (by decide +kernel))) hcell hcv hcl ?_
      refine lv_astore_n (lv' := [(3, .ref q9), (0, .ref x), (1, .int (q_i a0)), (2, .ref out)]) cx.1 cx.2.1 dL_setting_12 rfl hl (by decide) rfl (fun ls hl => ?_)
      refine q_iconst cx dL_setting_13 ?_
      refine W.widen (k := 1) (n := 6) (by decide) (by decide) ?_
      refine q_iret cx hr hlk hB dL_setting_14 ⟨by decide, by decide⟩ ?_
      exact ⟨(by decide), (by decide)⟩
  · obtain ⟨y18, rfl, ry18, h19⟩ := h19
    refine W.eq (g2 := F0 m 7 ls [.int (q_i y18), .int (q_i 0), .ref out]) rfl ?_
    obtain rfl := h19
    refine q_i2l cx ⟨by omega, by omega⟩ dL_setting_7 ?_
    refine q_last (n := 1) cx hB hout kout (by decide) rfl rfl (by decide) (by decide) (by decide) rfl rfl dL_setting_8 (fun H locs f21 ef21 z22 hB => ?_)
    have z23 : q_ir (q_r f21 x 0) src := by rw [ef21, q_setr (Or.inl (fun q => by rw [q, kout] at kx; exact absurd kx (by decide)))]; exact hr0
    have z24 : q_ir (q_r f21 x 1) rdr := by rw [ef21, q_setr (Or.inr (by decide))]; exact hr1
    have z25 : q_ir (q_r f21 x 2) scr := by rw [ef21, q_setr (Or.inr (by decide))]; exact hr2
    have z26 : q_ir (q_r f21 x 3) fc := by rw [ef21, q_setr (Or.inr (by decide))]; exact hr3
    have z27 : q_ir (q_r f21 x 4) hist := by rw [ef21, q_setr (Or.inr (by decide))]; exact hr4
    have z28 : q_ir (q_r f21 x 5) rep := by rw [ef21, q_setr (Or.inr (by decide))]; exact hr5
    have z29 : q_ir (q_r f21 x 6) now := by rw [ef21, q_setr (Or.inr (by decide))]; exact hr6
    have z30 : q_ir (q_r f21 x 7) dr := by rw [ef21, q_setr (Or.inr (by decide))]; exact hr7
    have z31 : q_ir (q_r f21 x 8) sv := by rw [ef21, q_setr (Or.inr (by decide))]; exact hr8
    have z32 : q_ir (q_r f21 fc 0) tr := by rw [ef21, q_setr (Or.inl (fun q => by rw [q, kout] at kfc; exact absurd kfc (by decide)))]; exact hr9
    refine lv_goto (tgt := 15) cx.1 cx.2.1 dL_setting_9 (by decide) ?_
    refine q_iconst cx dL_setting_15 ?_
    refine W.widen (k := 1) (n := 6) (by decide) (by decide) ?_
    refine q_iret cx hr hlk hB dL_setting_16 ⟨by decide, by decide⟩ ?_
    exact ⟨(by decide), (by decide)⟩
set_option maxHeartbeats 4000000 in
set_option maxRecDepth 100000 in
theorem w_node (l : Launch) (g : q_G) (ad : Nat → Nat) {K : Nat → Nat} {L : List Nat} (hN : L.Nodup) {f : Nat → va_E} (hT : q_Ty g K L f) (hfl : l.stackTraces = false) (x : Nat) (hx : x ∈ L) (kx : K x = 11) (a0 : Int) (la0 : (-2147483648) ≤ a0) (ua0 : a0 ≤ 2147483647) (b0 : Int) (lb0 : (-2147483648) ≤ b0) (ub0 : b0 ≤ 2147483647) (out : Nat) (hout : out ∈ L) (kout : K out = 168) (src : Nat) (hsrc : src ∈ L) (ksrc : K src = 8) (rdr : Nat) (hrdr : rdr ∈ L) (krdr : K rdr = 9) (scr : Nat) (hscr : scr ∈ L) (kscr : K scr = 7) (fc : Nat) (hfc : fc ∈ L) (kfc : K fc = 1) (hist : Nat) (hhist : hist ∈ L) (khist : K hist = 2) (rep : Nat) (hrep : rep ∈ L) (krep : K rep = 6) (now : Nat) (hnow : now ∈ L) (know : K now = 10) (dr : Nat) (hdr : dr ∈ L) (kdr : K dr = 13) (sv : Nat) (hsv : sv ∈ L) (ksv : K sv = 14) (tr : Nat) (htr : tr ∈ L) (ktr : K tr = 15) (hr0 : q_ir (q_r f x 0) src) (hr1 : q_ir (q_r f x 1) rdr) (hr2 : q_ir (q_r f x 2) scr) (hr3 : q_ir (q_r f x 3) fc) (hr4 : q_ir (q_r f x 4) hist) (hr5 : q_ir (q_r f x 5) rep) (hr6 : q_ir (q_r f x 6) now) (hr7 : q_ir (q_r f x 7) dr) (hr8 : q_ir (q_r f x 8) sv) (hr9 : q_ir (q_r f fc 0) tr) : q_Wt l g ad K L yL_node cL_node 5 (some .int) [(0, 10, 13, 35), (0, 10, 17, 19)] 8 125 2 12 [.ref x, .int (q_i a0), .int (q_i b0), .ref out] f [(168, 0, 0)] (q_Pi (fun (z : Int) (f1 : Nat → va_E) => 0 ≤ z ∧ z ≤ 3)) := by
  refine q_wofb (by decide +kernel) hN hT (Nat.le_of_ble_eq_true rfl) ?_
  intro p e s m below meth c ls cx hr hlk htab hX hB hl
  have hl : lv_has ls 5 [(0, .ref x), (1, .int (q_i a0)), (2, .int (q_i b0)), (3, .ref out)] := hl
  obtain ⟨H, hH⟩ : ∃ H : Heap, H = s.heap := ⟨_, rfl⟩
  obtain ⟨locs, hlocs⟩ : ∃ z : List Loc, z = [] := ⟨_, rfl⟩
  rw [← hH, ← hlocs] at hB
  rw [← hH, ← hlocs]
  refine q_ald_n cx dL_node_0 rfl (lv_at hl 3 rfl) ?_
  refine q_iconst cx dL_node_1 ?_
  refine q_ald_n cx dL_node_2 rfl (lv_at hl 0 rfl) ?_
  refine q_ild_n cx dL_node_3 rfl (lv_at hl 1 rfl) ?_
  refine q_ild_n cx dL_node_4 rfl (lv_at hl 2 rfl) ?_
  refine q_cXV (As := [.int (q_i a0), .int (q_i b0)]) (rest := [.int (q_i 0), .ref out]) cx hX hB (fun _ h => h) (fun _ h _ => h) hN hx kx (by decide) rfl (x_node l g ad hN hB.2.1 hfl x hx kx a0 (by omega) (by omega) b0 (by omega) (by omega) src hsrc ksrc rdr hrdr krdr scr hscr kscr fc hfc kfc hist hhist khist rep hrep krep now hnow know dr hdr kdr sv hsv ksv tr htr ktr hr0 hr1 hr2 hr3 hr4 hr5 hr6 hr7 hr8 hr9) q_cL_31 q_dX11_node (by decide) rfl rfl hl.1 rfl (Nat.le_of_ble_eq_true rfl) dL_node_5 (fun E9 ce9 q9 H locs f20 hex hF hB hcell hcv hcl => ?_) (fun v9 H locs f17 h19 hF hB => ?_)
  · rcases hex with ⟨rfl, rfl⟩ | ⟨rfl, rfl⟩
    · refine vx_catch (E := "java/lang/IndexOutOfBoundsException") (name := "java/lang/IndexOutOfBoundsException") cx.2.2.2.1 [] ⟨0, 10, 13, 35⟩ [⟨0, 10, 17, 19⟩] (htab.trans rfl) (q_pnil) (by decide) (by decide) (cx.2.2.2.2 _ q_h1225) (va_Nw.use rfl (hX.2.2.2.1 (.castable "java/lang/IndexOutOfBoundsException" "java/lang/IndexOutOfBoundsException") (by decide +kernel))) hcell hcv hcl ?_
      refine lv_astore (lv' := [(4, .ref q9), (0, .ref x), (1, .int (q_i a0)), (2, .int (q_i b0)), (3, .ref out)]) cx.1 cx.2.1 dL_node_13 hl (by decide) rfl (fun ls hl => ?_)
      refine q_iconst cx dL_node_15 ?_
      refine W.widen (k := 2) (n := 12) (by decide) (by decide) ?_
      refine q_iret cx hr hlk hB dL_node_16 ⟨by decide, by decide⟩ ?_
      exact ⟨(by decide), (by decide)⟩
    · refine vx_catch (E := "java/lang/IllegalArgumentException") (name := "java/lang/IllegalArgumentException") cx.2.2.2.1 [⟨0, 10, 13, 35⟩] ⟨0, 10, 17, 19⟩ [] (htab.trans rfl) (q_pcons (Or.inr ⟨by decide, "java/lang/IndexOutOfBoundsException", cx.2.2.2.2 _ q_h1225, hX.2.2.2.2.1 ("java/lang/IllegalArgumentException", "java/lang/IndexOutOfBoundsException") (by decide)⟩) (q_pnil)) (by decide) (by decide) (cx.2.2.2.2 _ q_h875) (va_Nw.use rfl (hX.2.2.2.1 (.castable "java/lang/IllegalArgumentException" "java/lang/IllegalArgumentException") (by decide +kernel))) hcell hcv hcl ?_
      refine lv_astore (lv' := [(4, .ref q9), (0, .ref x), (1, .int (q_i a0)), (2, .int (q_i b0)), (3, .ref out)]) cx.1 cx.2.1 dL_node_17 hl (by decide) rfl (fun ls hl => ?_)
      refine q_iconst cx dL_node_19 ?_
      refine W.widen (k := 2) (n := 12) (by decide) (by decide) ?_
      refine q_iret cx hr hlk hB dL_node_20 ⟨by decide, by decide⟩ ?_
      exact ⟨(by decide), (by decide)⟩
  · obtain ⟨y18, rfl, ry18, h19⟩ := h19
    refine W.eq (g2 := F0 m 8 ls [.int (q_i y18), .int (q_i 0), .ref out]) rfl ?_
    obtain rfl := h19
    refine q_i2l cx ⟨by omega, by omega⟩ dL_node_8 ?_
    refine q_last (n := 1) cx hB hout kout (by decide) rfl rfl (by decide) (by decide) (by decide) rfl rfl dL_node_9 (fun H locs f21 ef21 z22 hB => ?_)
    have z23 : q_ir (q_r f21 x 0) src := by rw [ef21, q_setr (Or.inl (fun q => by rw [q, kout] at kx; exact absurd kx (by decide)))]; exact hr0
    have z24 : q_ir (q_r f21 x 1) rdr := by rw [ef21, q_setr (Or.inr (by decide))]; exact hr1
    have z25 : q_ir (q_r f21 x 2) scr := by rw [ef21, q_setr (Or.inr (by decide))]; exact hr2
    have z26 : q_ir (q_r f21 x 3) fc := by rw [ef21, q_setr (Or.inr (by decide))]; exact hr3
    have z27 : q_ir (q_r f21 x 4) hist := by rw [ef21, q_setr (Or.inr (by decide))]; exact hr4
    have z28 : q_ir (q_r f21 x 5) rep := by rw [ef21, q_setr (Or.inr (by decide))]; exact hr5
    have z29 : q_ir (q_r f21 x 6) now := by rw [ef21, q_setr (Or.inr (by decide))]; exact hr6
    have z30 : q_ir (q_r f21 x 7) dr := by rw [ef21, q_setr (Or.inr (by decide))]; exact hr7
    have z31 : q_ir (q_r f21 x 8) sv := by rw [ef21, q_setr (Or.inr (by decide))]; exact hr8
    have z32 : q_ir (q_r f21 fc 0) tr := by rw [ef21, q_setr (Or.inl (fun q => by rw [q, kout] at kfc; exact absurd kfc (by decide)))]; exact hr9
    refine lv_goto (tgt := 21) cx.1 cx.2.1 dL_node_10 (by decide) ?_
    refine q_iconst cx dL_node_21 ?_
    refine W.widen (k := 2) (n := 12) (by decide) (by decide) ?_
    refine q_iret cx hr hlk hB dL_node_22 ⟨by decide, by decide⟩ ?_
    exact ⟨(by decide), (by decide)⟩
set_option maxHeartbeats 4000000 in
set_option maxRecDepth 100000 in
theorem w_link (l : Launch) (g : q_G) (ad : Nat → Nat) {K : Nat → Nat} {L : List Nat} (hN : L.Nodup) {f : Nat → va_E} (hT : q_Ty g K L f) (hfl : l.stackTraces = false) (x : Nat) (hx : x ∈ L) (kx : K x = 11) (a0 : Int) (la0 : (-2147483648) ≤ a0) (ua0 : a0 ≤ 2147483647) (b0 : Int) (lb0 : (-2147483648) ≤ b0) (ub0 : b0 ≤ 2147483647) (out : Nat) (hout : out ∈ L) (kout : K out = 168) (src : Nat) (hsrc : src ∈ L) (ksrc : K src = 8) (rdr : Nat) (hrdr : rdr ∈ L) (krdr : K rdr = 9) (scr : Nat) (hscr : scr ∈ L) (kscr : K scr = 7) (fc : Nat) (hfc : fc ∈ L) (kfc : K fc = 1) (hist : Nat) (hhist : hist ∈ L) (khist : K hist = 2) (rep : Nat) (hrep : rep ∈ L) (krep : K rep = 6) (now : Nat) (hnow : now ∈ L) (know : K now = 10) (dr : Nat) (hdr : dr ∈ L) (kdr : K dr = 13) (sv : Nat) (hsv : sv ∈ L) (ksv : K sv = 14) (tr : Nat) (htr : tr ∈ L) (ktr : K tr = 15) (hr0 : q_ir (q_r f x 0) src) (hr1 : q_ir (q_r f x 1) rdr) (hr2 : q_ir (q_r f x 2) scr) (hr3 : q_ir (q_r f x 3) fc) (hr4 : q_ir (q_r f x 4) hist) (hr5 : q_ir (q_r f x 5) rep) (hr6 : q_ir (q_r f x 6) now) (hr7 : q_ir (q_r f x 7) dr) (hr8 : q_ir (q_r f x 8) sv) (hr9 : q_ir (q_r f fc 0) tr) : q_Wt l g ad K L yL_link cL_link 5 (some .int) [(0, 10, 13, 35), (0, 10, 17, 19)] 7 104 1 6 [.ref x, .int (q_i a0), .int (q_i b0), .ref out] f [(168, 0, 0)] (q_Pi (fun (z : Int) (f1 : Nat → va_E) => 0 ≤ z ∧ z ≤ 3)) := by
  refine q_wofb (by decide +kernel) hN hT (Nat.le_of_ble_eq_true rfl) ?_
  intro p e s m below meth c ls cx hr hlk htab hX hB hl
  have hl : lv_has ls 5 [(0, .ref x), (1, .int (q_i a0)), (2, .int (q_i b0)), (3, .ref out)] := hl
  obtain ⟨H, hH⟩ : ∃ H : Heap, H = s.heap := ⟨_, rfl⟩
  obtain ⟨locs, hlocs⟩ : ∃ z : List Loc, z = [] := ⟨_, rfl⟩
  rw [← hH, ← hlocs] at hB
  rw [← hH, ← hlocs]
  refine q_ald_n cx dL_link_0 rfl (lv_at hl 3 rfl) ?_
  refine q_iconst cx dL_link_1 ?_
  refine q_ald_n cx dL_link_2 rfl (lv_at hl 0 rfl) ?_
  refine q_ild_n cx dL_link_3 rfl (lv_at hl 1 rfl) ?_
  refine q_ild_n cx dL_link_4 rfl (lv_at hl 2 rfl) ?_
  refine q_cXV (As := [.int (q_i a0), .int (q_i b0)]) (rest := [.int (q_i 0), .ref out]) cx hX hB (fun _ h => h) (fun _ h _ => h) hN hx kx (by decide) rfl (x_link l g ad hN hB.2.1 hfl x hx kx a0 (by omega) (by omega) b0 (by omega) (by omega) src hsrc ksrc rdr hrdr krdr scr hscr kscr fc hfc kfc hist hhist khist rep hrep krep now hnow know dr hdr kdr sv hsv ksv tr htr ktr hr0 hr1 hr2 hr3 hr4 hr5 hr6 hr7 hr8 hr9) q_cL_37 q_dX11_link (by decide) rfl rfl hl.1 rfl (Nat.le_of_ble_eq_true rfl) dL_link_5 (fun E9 ce9 q9 H locs f20 hex hF hB hcell hcv hcl => ?_) (fun v9 H locs f17 h19 hF hB => ?_)
  · rcases hex with ⟨rfl, rfl⟩ | ⟨rfl, rfl⟩
    · refine vx_catch (E := "java/lang/IndexOutOfBoundsException") (name := "java/lang/IndexOutOfBoundsException") cx.2.2.2.1 [] ⟨0, 10, 13, 35⟩ [⟨0, 10, 17, 19⟩] (htab.trans rfl) (q_pnil) (by decide) (by decide) (cx.2.2.2.2 _ q_h1225) (va_Nw.use rfl (hX.2.2.2.1 (.castable "java/lang/IndexOutOfBoundsException" "java/lang/IndexOutOfBoundsException") (by decide +kernel))) hcell hcv hcl ?_
      refine lv_astore (lv' := [(4, .ref q9), (0, .ref x), (1, .int (q_i a0)), (2, .int (q_i b0)), (3, .ref out)]) cx.1 cx.2.1 dL_link_13 hl (by decide) rfl (fun ls hl => ?_)
      refine q_iconst cx dL_link_15 ?_
      refine W.widen (k := 1) (n := 6) (by decide) (by decide) ?_
      refine q_iret cx hr hlk hB dL_link_16 ⟨by decide, by decide⟩ ?_
      exact ⟨(by decide), (by decide)⟩
    · refine vx_catch (E := "java/lang/IllegalArgumentException") (name := "java/lang/IllegalArgumentException") cx.2.2.2.1 [⟨0, 10, 13, 35⟩] ⟨0, 10, 17, 19⟩ [] (htab.trans rfl) (q_pcons (Or.inr ⟨by decide, "java/lang/IndexOutOfBoundsException", cx.2.2.2.2 _ q_h1225, hX.2.2.2.2.1 ("java/lang/IllegalArgumentException", "java/lang/IndexOutOfBoundsException") (by decide)⟩) (q_pnil)) (by decide) (by decide) (cx.2.2.2.2 _ q_h875) (va_Nw.use rfl (hX.2.2.2.1 (.castable "java/lang/IllegalArgumentException" "java/lang/IllegalArgumentException") (by decide +kernel))) hcell hcv hcl ?_
      refine lv_astore (lv' := [(4, .ref q9), (0, .ref x), (1, .int (q_i a0)), (2, .int (q_i b0)), (3, .ref out)]) cx.1 cx.2.1 dL_link_17 hl (by decide) rfl (fun ls hl => ?_)
      refine q_iconst cx dL_link_19 ?_
      refine W.widen (k := 1) (n := 6) (by decide) (by decide) ?_
      refine q_iret cx hr hlk hB dL_link_20 ⟨by decide, by decide⟩ ?_
      exact ⟨(by decide), (by decide)⟩
  · obtain ⟨y18, rfl, ry18, h19⟩ := h19
    refine W.eq (g2 := F0 m 8 ls [.int (q_i y18), .int (q_i 0), .ref out]) rfl ?_
    obtain rfl := h19
    refine q_i2l cx ⟨by omega, by omega⟩ dL_link_8 ?_
    refine q_last (n := 1) cx hB hout kout (by decide) rfl rfl (by decide) (by decide) (by decide) rfl rfl dL_link_9 (fun H locs f21 ef21 z22 hB => ?_)
    have z23 : q_ir (q_r f21 x 0) src := by rw [ef21, q_setr (Or.inl (fun q => by rw [q, kout] at kx; exact absurd kx (by decide)))]; exact hr0
    have z24 : q_ir (q_r f21 x 1) rdr := by rw [ef21, q_setr (Or.inr (by decide))]; exact hr1
    have z25 : q_ir (q_r f21 x 2) scr := by rw [ef21, q_setr (Or.inr (by decide))]; exact hr2
    have z26 : q_ir (q_r f21 x 3) fc := by rw [ef21, q_setr (Or.inr (by decide))]; exact hr3
    have z27 : q_ir (q_r f21 x 4) hist := by rw [ef21, q_setr (Or.inr (by decide))]; exact hr4
    have z28 : q_ir (q_r f21 x 5) rep := by rw [ef21, q_setr (Or.inr (by decide))]; exact hr5
    have z29 : q_ir (q_r f21 x 6) now := by rw [ef21, q_setr (Or.inr (by decide))]; exact hr6
    have z30 : q_ir (q_r f21 x 7) dr := by rw [ef21, q_setr (Or.inr (by decide))]; exact hr7
    have z31 : q_ir (q_r f21 x 8) sv := by rw [ef21, q_setr (Or.inr (by decide))]; exact hr8
    have z32 : q_ir (q_r f21 fc 0) tr := by rw [ef21, q_setr (Or.inl (fun q => by rw [q, kout] at kfc; exact absurd kfc (by decide)))]; exact hr9
    refine lv_goto (tgt := 21) cx.1 cx.2.1 dL_link_10 (by decide) ?_
    refine q_iconst cx dL_link_21 ?_
    refine W.widen (k := 1) (n := 6) (by decide) (by decide) ?_
    refine q_iret cx hr hlk hB dL_link_22 ⟨by decide, by decide⟩ ?_
    exact ⟨(by decide), (by decide)⟩
set_option maxHeartbeats 4000000 in
set_option maxRecDepth 100000 in
theorem w_message (l : Launch) (g : q_G) (ad : Nat → Nat) {K : Nat → Nat} {L : List Nat} (hN : L.Nodup) {f : Nat → va_E} (hT : q_Ty g K L f) (hfl : l.stackTraces = false) (x : Nat) (hx : x ∈ L) (kx : K x = 11) (a0 : Int) (la0 : (-2147483648) ≤ a0) (ua0 : a0 ≤ 2147483647) (b0 : Int) (lb0 : (-2147483648) ≤ b0) (ub0 : b0 ≤ 2147483647) (out : Nat) (hout : out ∈ L) (kout : K out = 168) (src : Nat) (hsrc : src ∈ L) (ksrc : K src = 8) (rdr : Nat) (hrdr : rdr ∈ L) (krdr : K rdr = 9) (scr : Nat) (hscr : scr ∈ L) (kscr : K scr = 7) (fc : Nat) (hfc : fc ∈ L) (kfc : K fc = 1) (hist : Nat) (hhist : hist ∈ L) (khist : K hist = 2) (rep : Nat) (hrep : rep ∈ L) (krep : K rep = 6) (now : Nat) (hnow : now ∈ L) (know : K now = 10) (dr : Nat) (hdr : dr ∈ L) (kdr : K dr = 13) (sv : Nat) (hsv : sv ∈ L) (ksv : K sv = 14) (tr : Nat) (htr : tr ∈ L) (ktr : K tr = 15) (hr0 : q_ir (q_r f x 0) src) (hr1 : q_ir (q_r f x 1) rdr) (hr2 : q_ir (q_r f x 2) scr) (hr3 : q_ir (q_r f x 3) fc) (hr4 : q_ir (q_r f x 4) hist) (hr5 : q_ir (q_r f x 5) rep) (hr6 : q_ir (q_r f x 6) now) (hr7 : q_ir (q_r f x 7) dr) (hr8 : q_ir (q_r f x 8) sv) (hr9 : q_ir (q_r f fc 0) tr) : q_Wt l g ad K L yL_message cL_message 5 (some .int) [(0, 10, 13, 35), (0, 10, 17, 19)] 8 125 2 12 [.ref x, .int (q_i a0), .int (q_i b0), .ref out] f [(168, 0, 0)] (q_Pi (fun (z : Int) (f1 : Nat → va_E) => 0 ≤ z ∧ z ≤ 3)) := by
  refine q_wofb (by decide +kernel) hN hT (Nat.le_of_ble_eq_true rfl) ?_
  intro p e s m below meth c ls cx hr hlk htab hX hB hl
  have hl : lv_has ls 5 [(0, .ref x), (1, .int (q_i a0)), (2, .int (q_i b0)), (3, .ref out)] := hl
  obtain ⟨H, hH⟩ : ∃ H : Heap, H = s.heap := ⟨_, rfl⟩
  obtain ⟨locs, hlocs⟩ : ∃ z : List Loc, z = [] := ⟨_, rfl⟩
  rw [← hH, ← hlocs] at hB
  rw [← hH, ← hlocs]
  refine q_ald_n cx dL_message_0 rfl (lv_at hl 3 rfl) ?_
  refine q_iconst cx dL_message_1 ?_
  refine q_ald_n cx dL_message_2 rfl (lv_at hl 0 rfl) ?_
  refine q_ild_n cx dL_message_3 rfl (lv_at hl 1 rfl) ?_
  refine q_ild_n cx dL_message_4 rfl (lv_at hl 2 rfl) ?_
  refine q_cXV (As := [.int (q_i a0), .int (q_i b0)]) (rest := [.int (q_i 0), .ref out]) cx hX hB (fun _ h => h) (fun _ h _ => h) hN hx kx (by decide) rfl (x_message l g ad hN hB.2.1 hfl x hx kx a0 (by omega) (by omega) b0 (by omega) (by omega) src hsrc ksrc rdr hrdr krdr scr hscr kscr fc hfc kfc hist hhist khist rep hrep krep now hnow know dr hdr kdr sv hsv ksv tr htr ktr hr0 hr1 hr2 hr3 hr4 hr5 hr6 hr7 hr8 hr9) q_cL_40 q_dX11_message (by decide) rfl rfl hl.1 rfl (Nat.le_of_ble_eq_true rfl) dL_message_5 (fun E9 ce9 q9 H locs f20 hex hF hB hcell hcv hcl => ?_) (fun v9 H locs f17 h19 hF hB => ?_)
  · rcases hex with ⟨rfl, rfl⟩ | ⟨rfl, rfl⟩
    · refine vx_catch (E := "java/lang/IndexOutOfBoundsException") (name := "java/lang/IndexOutOfBoundsException") cx.2.2.2.1 [] ⟨0, 10, 13, 35⟩ [⟨0, 10, 17, 19⟩] (htab.trans rfl) (q_pnil) (by decide) (by decide) (cx.2.2.2.2 _ q_h1225) (va_Nw.use rfl (hX.2.2.2.1 (.castable "java/lang/IndexOutOfBoundsException" "java/lang/IndexOutOfBoundsException") (by decide +kernel))) hcell hcv hcl ?_
      refine lv_astore (lv' := [(4, .ref q9), (0, .ref x), (1, .int (q_i a0)), (2, .int (q_i b0)), (3, .ref out)]) cx.1 cx.2.1 dL_message_13 hl (by decide) rfl (fun ls hl => ?_)
      refine q_iconst cx dL_message_15 ?_
      refine W.widen (k := 2) (n := 12) (by decide) (by decide) ?_
      refine q_iret cx hr hlk hB dL_message_16 ⟨by decide, by decide⟩ ?_
      exact ⟨(by decide), (by decide)⟩
    · refine vx_catch (E := "java/lang/IllegalArgumentException") (name := "java/lang/IllegalArgumentException") cx.2.2.2.1 [⟨0, 10, 13, 35⟩] ⟨0, 10, 17, 19⟩ [] (htab.trans rfl) (q_pcons (Or.inr ⟨by decide, "java/lang/IndexOutOfBoundsException", cx.2.2.2.2 _ q_h1225, hX.2.2.2.2.1 ("java/lang/IllegalArgumentException", "java/lang/IndexOutOfBoundsException") (by decide)⟩) (q_pnil)) (by decide) (by decide) (cx.2.2.2.2 _ q_h875) (va_Nw.use rfl (hX.2.2.2.1 (.castable "java/lang/IllegalArgumentException" "java/lang/IllegalArgumentException") (by decide +kernel))) hcell hcv hcl ?_
      refine lv_astore (lv' := [(4, .ref q9), (0, .ref x), (1, .int (q_i a0)), (2, .int (q_i b0)), (3, .ref out)]) cx.1 cx.2.1 dL_message_17 hl (by decide) rfl (fun ls hl => ?_)
      refine q_iconst cx dL_message_19 ?_
      refine W.widen (k := 2) (n := 12) (by decide) (by decide) ?_
      refine q_iret cx hr hlk hB dL_message_20 ⟨by decide, by decide⟩ ?_
      exact ⟨(by decide), (by decide)⟩
  · obtain ⟨y18, rfl, ry18, h19⟩ := h19
    refine W.eq (g2 := F0 m 8 ls [.int (q_i y18), .int (q_i 0), .ref out]) rfl ?_
    obtain rfl := h19
    refine q_i2l cx ⟨by omega, by omega⟩ dL_message_8 ?_
    refine q_last (n := 1) cx hB hout kout (by decide) rfl rfl (by decide) (by decide) (by decide) rfl rfl dL_message_9 (fun H locs f21 ef21 z22 hB => ?_)
    have z23 : q_ir (q_r f21 x 0) src := by rw [ef21, q_setr (Or.inl (fun q => by rw [q, kout] at kx; exact absurd kx (by decide)))]; exact hr0
    have z24 : q_ir (q_r f21 x 1) rdr := by rw [ef21, q_setr (Or.inr (by decide))]; exact hr1
    have z25 : q_ir (q_r f21 x 2) scr := by rw [ef21, q_setr (Or.inr (by decide))]; exact hr2
    have z26 : q_ir (q_r f21 x 3) fc := by rw [ef21, q_setr (Or.inr (by decide))]; exact hr3
    have z27 : q_ir (q_r f21 x 4) hist := by rw [ef21, q_setr (Or.inr (by decide))]; exact hr4
    have z28 : q_ir (q_r f21 x 5) rep := by rw [ef21, q_setr (Or.inr (by decide))]; exact hr5
    have z29 : q_ir (q_r f21 x 6) now := by rw [ef21, q_setr (Or.inr (by decide))]; exact hr6
    have z30 : q_ir (q_r f21 x 7) dr := by rw [ef21, q_setr (Or.inr (by decide))]; exact hr7
    have z31 : q_ir (q_r f21 x 8) sv := by rw [ef21, q_setr (Or.inr (by decide))]; exact hr8
    have z32 : q_ir (q_r f21 fc 0) tr := by rw [ef21, q_setr (Or.inl (fun q => by rw [q, kout] at kfc; exact absurd kfc (by decide)))]; exact hr9
    refine lv_goto (tgt := 21) cx.1 cx.2.1 dL_message_10 (by decide) ?_
    refine q_iconst cx dL_message_21 ?_
    refine W.widen (k := 2) (n := 12) (by decide) (by decide) ?_
    refine q_iret cx hr hlk hB dL_message_22 ⟨by decide, by decide⟩ ?_
    exact ⟨(by decide), (by decide)⟩
set_option maxHeartbeats 4000000 in
set_option maxRecDepth 100000 in
theorem w_letter (l : Launch) (g : q_G) (ad : Nat → Nat) {K : Nat → Nat} {L : List Nat} (hN : L.Nodup) {f : Nat → va_E} (hT : q_Ty g K L f) (hfl : l.stackTraces = false) (x : Nat) (hx : x ∈ L) (kx : K x = 11) (a0 : Int) (la0 : (-2147483648) ≤ a0) (ua0 : a0 ≤ 2147483647) (b0 : Int) (lb0 : (-2147483648) ≤ b0) (ub0 : b0 ≤ 2147483647) (out : Nat) (hout : out ∈ L) (kout : K out = 168) (src : Nat) (hsrc : src ∈ L) (ksrc : K src = 8) (rdr : Nat) (hrdr : rdr ∈ L) (krdr : K rdr = 9) (scr : Nat) (hscr : scr ∈ L) (kscr : K scr = 7) (fc : Nat) (hfc : fc ∈ L) (kfc : K fc = 1) (hist : Nat) (hhist : hist ∈ L) (khist : K hist = 2) (rep : Nat) (hrep : rep ∈ L) (krep : K rep = 6) (now : Nat) (hnow : now ∈ L) (know : K now = 10) (dr : Nat) (hdr : dr ∈ L) (kdr : K dr = 13) (sv : Nat) (hsv : sv ∈ L) (ksv : K sv = 14) (tr : Nat) (htr : tr ∈ L) (ktr : K tr = 15) (hr0 : q_ir (q_r f x 0) src) (hr1 : q_ir (q_r f x 1) rdr) (hr2 : q_ir (q_r f x 2) scr) (hr3 : q_ir (q_r f x 3) fc) (hr4 : q_ir (q_r f x 4) hist) (hr5 : q_ir (q_r f x 5) rep) (hr6 : q_ir (q_r f x 6) now) (hr7 : q_ir (q_r f x 7) dr) (hr8 : q_ir (q_r f x 8) sv) (hr9 : q_ir (q_r f fc 0) tr) : q_Wt l g ad K L yL_letter cL_letter 5 (some .int) [(0, 10, 13, 35)] 8 125 1 6 [.ref x, .int (q_i a0), .int (q_i b0), .ref out] f [(168, 0, 0)] (q_Pi (fun (z : Int) (f1 : Nat → va_E) => 0 ≤ z ∧ z ≤ 3)) := by
  refine q_wofb (by decide +kernel) hN hT (Nat.le_of_ble_eq_true rfl) ?_
  intro p e s m below meth c ls cx hr hlk htab hX hB hl
  have hl : lv_has ls 5 [(0, .ref x), (1, .int (q_i a0)), (2, .int (q_i b0)), (3, .ref out)] := hl
  obtain ⟨H, hH⟩ : ∃ H : Heap, H = s.heap := ⟨_, rfl⟩
  obtain ⟨locs, hlocs⟩ : ∃ z : List Loc, z = [] := ⟨_, rfl⟩
  rw [← hH, ← hlocs] at hB
  rw [← hH, ← hlocs]
  refine q_ald_n cx dL_letter_0 rfl (lv_at hl 3 rfl) ?_
  refine q_iconst cx dL_letter_1 ?_
  refine q_ald_n cx dL_letter_2 rfl (lv_at hl 0 rfl) ?_
  refine q_ild_n cx dL_letter_3 rfl (lv_at hl 1 rfl) ?_
  refine q_ild_n cx dL_letter_4 rfl (lv_at hl 2 rfl) ?_
  refine q_cXV (As := [.int (q_i a0), .int (q_i b0)]) (rest := [.int (q_i 0), .ref out]) cx hX hB (fun _ h => h) (fun _ h _ => h) hN hx kx (by decide) rfl (x_letter l g ad hN hB.2.1 hfl x hx kx a0 (by omega) (by omega) b0 (by omega) (by omega) src hsrc ksrc rdr hrdr krdr scr hscr kscr fc hfc kfc hist hhist khist rep hrep krep now hnow know dr hdr kdr sv hsv ksv tr htr ktr hr0 hr1 hr2 hr3 hr4 hr5 hr6 hr7 hr8 hr9) q_cL_43 q_dX11_letter (by decide) rfl rfl hl.1 rfl (Nat.le_of_ble_eq_true rfl) dL_letter_5 (fun E9 ce9 q9 H locs f20 hex hF hB hcell hcv hcl => ?_) (fun v9 H locs f17 h19 hF hB => ?_)
  · rcases hex with ⟨rfl, rfl⟩
    · refine vx_catch (E := "java/lang/IndexOutOfBoundsException") (name := "java/lang/IndexOutOfBoundsException") cx.2.2.2.1 [] ⟨0, 10, 13, 35⟩ [] (htab.trans rfl) (q_pnil) (by decide) (by decide) (cx.2.2.2.2 _ q_h1225) (va_Nw.use rfl (hX.2.2.2.1 (.castable "java/lang/IndexOutOfBoundsException" "java/lang/IndexOutOfBoundsException") (by decide +kernel))) hcell hcv hcl ?_
      refine lv_astore (lv' := [(4, .ref q9), (0, .ref x), (1, .int (q_i a0)), (2, .int (q_i b0)), (3, .ref out)]) cx.1 cx.2.1 dL_letter_13 hl (by decide) rfl (fun ls hl => ?_)
      refine q_iconst cx dL_letter_15 ?_
      refine W.widen (k := 1) (n := 6) (by decide) (by decide) ?_
      refine q_iret cx hr hlk hB dL_letter_16 ⟨by decide, by decide⟩ ?_
      exact ⟨(by decide), (by decide)⟩
  · obtain ⟨y18, rfl, ry18, h19⟩ := h19
    refine W.eq (g2 := F0 m 8 ls [.int (q_i y18), .int (q_i 0), .ref out]) rfl ?_
    obtain rfl := h19
    refine q_i2l cx ⟨by omega, by omega⟩ dL_letter_8 ?_
    refine q_last (n := 1) cx hB hout kout (by decide) rfl rfl (by decide) (by decide) (by decide) rfl rfl dL_letter_9 (fun H locs f21 ef21 z22 hB => ?_)
    have z23 : q_ir (q_r f21 x 0) src := by rw [ef21, q_setr (Or.inl (fun q => by rw [q, kout] at kx; exact absurd kx (by decide)))]; exact hr0
    have z24 : q_ir (q_r f21 x 1) rdr := by rw [ef21, q_setr (Or.inr (by decide))]; exact hr1
    have z25 : q_ir (q_r f21 x 2) scr := by rw [ef21, q_setr (Or.inr (by decide))]; exact hr2
    have z26 : q_ir (q_r f21 x 3) fc := by rw [ef21, q_setr (Or.inr (by decide))]; exact hr3
    have z27 : q_ir (q_r f21 x 4) hist := by rw [ef21, q_setr (Or.inr (by decide))]; exact hr4
    have z28 : q_ir (q_r f21 x 5) rep := by rw [ef21, q_setr (Or.inr (by decide))]; exact hr5
    have z29 : q_ir (q_r f21 x 6) now := by rw [ef21, q_setr (Or.inr (by decide))]; exact hr6
    have z30 : q_ir (q_r f21 x 7) dr := by rw [ef21, q_setr (Or.inr (by decide))]; exact hr7
    have z31 : q_ir (q_r f21 x 8) sv := by rw [ef21, q_setr (Or.inr (by decide))]; exact hr8
    have z32 : q_ir (q_r f21 fc 0) tr := by rw [ef21, q_setr (Or.inl (fun q => by rw [q, kout] at kfc; exact absurd kfc (by decide)))]; exact hr9
    refine lv_goto (tgt := 17) cx.1 cx.2.1 dL_letter_10 (by decide) ?_
    refine q_iconst cx dL_letter_17 ?_
    refine W.widen (k := 1) (n := 6) (by decide) (by decide) ?_
    refine q_iret cx hr hlk hB dL_letter_18 ⟨by decide, by decide⟩ ?_
    exact ⟨(by decide), (by decide)⟩
set_option maxHeartbeats 4000000 in
set_option maxRecDepth 100000 in
theorem w_inTable (l : Launch) (g : q_G) (ad : Nat → Nat) {K : Nat → Nat} {L : List Nat} (hN : L.Nodup) {f : Nat → va_E} (hT : q_Ty g K L f) (hfl : l.stackTraces = false) (x : Nat) (hx : x ∈ L) (kx : K x = 11) (a0 : Int) (la0 : (-2147483648) ≤ a0) (ua0 : a0 ≤ 2147483647) (b0 : Int) (lb0 : (-2147483648) ≤ b0) (ub0 : b0 ≤ 2147483647) (out : Nat) (hout : out ∈ L) (kout : K out = 168) (src : Nat) (hsrc : src ∈ L) (ksrc : K src = 8) (rdr : Nat) (hrdr : rdr ∈ L) (krdr : K rdr = 9) (scr : Nat) (hscr : scr ∈ L) (kscr : K scr = 7) (fc : Nat) (hfc : fc ∈ L) (kfc : K fc = 1) (hist : Nat) (hhist : hist ∈ L) (khist : K hist = 2) (rep : Nat) (hrep : rep ∈ L) (krep : K rep = 6) (now : Nat) (hnow : now ∈ L) (know : K now = 10) (dr : Nat) (hdr : dr ∈ L) (kdr : K dr = 13) (sv : Nat) (hsv : sv ∈ L) (ksv : K sv = 14) (tr : Nat) (htr : tr ∈ L) (ktr : K tr = 15) (hr0 : q_ir (q_r f x 0) src) (hr1 : q_ir (q_r f x 1) rdr) (hr2 : q_ir (q_r f x 2) scr) (hr3 : q_ir (q_r f x 3) fc) (hr4 : q_ir (q_r f x 4) hist) (hr5 : q_ir (q_r f x 5) rep) (hr6 : q_ir (q_r f x 6) now) (hr7 : q_ir (q_r f x 7) dr) (hr8 : q_ir (q_r f x 8) sv) (hr9 : q_ir (q_r f fc 0) tr) : q_Wt l g ad K L yL_inTable cL_inTable 5 (some .int) [(0, 17, 20, 35), (0, 17, 24, 19)] 8 125 2 12 [.ref x, .int (q_i a0), .int (q_i b0), .ref out] f [(168, 0, 0)] (q_Pi (fun (z : Int) (f1 : Nat → va_E) => 0 ≤ z ∧ z ≤ 3)) := by
  refine q_wofb (by decide +kernel) hN hT (Nat.le_of_ble_eq_true rfl) ?_
  intro p e s m below meth c ls cx hr hlk htab hX hB hl
  have hl : lv_has ls 5 [(0, .ref x), (1, .int (q_i a0)), (2, .int (q_i b0)), (3, .ref out)] := hl
  obtain ⟨H, hH⟩ : ∃ H : Heap, H = s.heap := ⟨_, rfl⟩
  obtain ⟨locs, hlocs⟩ : ∃ z : List Loc, z = [] := ⟨_, rfl⟩
  rw [← hH, ← hlocs] at hB
  rw [← hH, ← hlocs]
  refine q_ald_n cx dL_inTable_0 rfl (lv_at hl 3 rfl) ?_
  refine q_iconst cx dL_inTable_1 ?_
  refine q_ald_n cx dL_inTable_2 rfl (lv_at hl 0 rfl) ?_
  refine q_ild_n cx dL_inTable_3 rfl (lv_at hl 1 rfl) ?_
  refine q_ild_n cx dL_inTable_4 rfl (lv_at hl 2 rfl) ?_
  refine q_cXV (As := [.int (q_i a0), .int (q_i b0)]) (rest := [.int (q_i 0), .ref out]) cx hX hB (fun _ h => h) (fun _ h _ => h) hN hx kx (by decide) rfl (x_inTable l g ad hN hB.2.1 hfl x hx kx a0 (by omega) (by omega) b0 (by omega) (by omega) src hsrc ksrc rdr hrdr krdr scr hscr kscr fc hfc kfc hist hhist khist rep hrep krep now hnow know dr hdr kdr sv hsv ksv tr htr ktr hr0 hr1 hr2 hr3 hr4 hr5 hr6 hr7 hr8 hr9) q_cL_46 q_dX11_inTable (by decide) rfl rfl hl.1 rfl (Nat.le_of_ble_eq_true rfl) dL_inTable_5 (fun E9 ce9 q9 H locs f33 hex hF hB hcell hcv hcl => ?_) (fun v9 H locs f30 h32 hF hB => ?_)
  · rcases hex with ⟨rfl, rfl⟩ | ⟨rfl, rfl⟩
    · refine vx_catch (E := "java/lang/IndexOutOfBoundsException") (name := "java/lang/IndexOutOfBoundsException") cx.2.2.2.1 [] ⟨0, 17, 20, 35⟩ [⟨0, 17, 24, 19⟩] (htab.trans rfl) (q_pnil) (by decide) (by decide) (cx.2.2.2.2 _ q_h1225) (va_Nw.use rfl (hX.2.2.2.1 (.castable "java/lang/IndexOutOfBoundsException" "java/lang/IndexOutOfBoundsException") (by decide +kernel))) hcell hcv hcl ?_
      refine lv_astore (lv' := [(4, .ref q9), (0, .ref x), (1, .int (q_i a0)), (2, .int (q_i b0)), (3, .ref out)]) cx.1 cx.2.1 dL_inTable_20 hl (by decide) rfl (fun ls hl => ?_)
      refine q_iconst cx dL_inTable_22 ?_
      refine W.widen (k := 2) (n := 12) (by decide) (by decide) ?_
      refine q_iret cx hr hlk hB dL_inTable_23 ⟨by decide, by decide⟩ ?_
      exact ⟨(by decide), (by decide)⟩
    · refine vx_catch (E := "java/lang/IllegalArgumentException") (name := "java/lang/IllegalArgumentException") cx.2.2.2.1 [⟨0, 17, 20, 35⟩] ⟨0, 17, 24, 19⟩ [] (htab.trans rfl) (q_pcons (Or.inr ⟨by decide, "java/lang/IndexOutOfBoundsException", cx.2.2.2.2 _ q_h1225, hX.2.2.2.2.1 ("java/lang/IllegalArgumentException", "java/lang/IndexOutOfBoundsException") (by decide)⟩) (q_pnil)) (by decide) (by decide) (cx.2.2.2.2 _ q_h875) (va_Nw.use rfl (hX.2.2.2.1 (.castable "java/lang/IllegalArgumentException" "java/lang/IllegalArgumentException") (by decide +kernel))) hcell hcv hcl ?_
      refine lv_astore (lv' := [(4, .ref q9), (0, .ref x), (1, .int (q_i a0)), (2, .int (q_i b0)), (3, .ref out)]) cx.1 cx.2.1 dL_inTable_24 hl (by decide) rfl (fun ls hl => ?_)
      refine q_iconst cx dL_inTable_26 ?_
      refine W.widen (k := 2) (n := 12) (by decide) (by decide) ?_
      refine q_iret cx hr hlk hB dL_inTable_27 ⟨by decide, by decide⟩ ?_
      exact ⟨(by decide), (by decide)⟩
  · obtain ⟨y31, rfl, ry31, h32⟩ := h32
    refine W.eq (g2 := F0 m 8 ls [.int (q_i y31), .int (q_i 0), .ref out]) rfl ?_
    obtain ⟨rfl, ly31, uy31⟩ := h32
    refine q_ifeq (tgt := 15) cx ⟨by omega, by omega⟩ dL_inTable_8 (by decide) (fun c34 => ?_) (fun c34 => ?_)
    · refine q_lconst (z := 0) cx (by decide) dL_inTable_15 ?_
      refine q_last (n := 1) cx hB hout kout (by decide) rfl rfl (by decide) (by decide) (by decide) rfl rfl dL_inTable_16 (fun H locs f35 ef35 z36 hB => ?_)
      have z37 : q_ir (q_r f35 x 0) src := by rw [ef35, q_setr (Or.inl (fun q => by rw [q, kout] at kx; exact absurd kx (by decide)))]; exact hr0
      have z38 : q_ir (q_r f35 x 1) rdr := by rw [ef35, q_setr (Or.inr (by decide))]; exact hr1
      have z39 : q_ir (q_r f35 x 2) scr := by rw [ef35, q_setr (Or.inr (by decide))]; exact hr2
      have z40 : q_ir (q_r f35 x 3) fc := by rw [ef35, q_setr (Or.inr (by decide))]; exact hr3
      have z41 : q_ir (q_r f35 x 4) hist := by rw [ef35, q_setr (Or.inr (by decide))]; exact hr4
      have z42 : q_ir (q_r f35 x 5) rep := by rw [ef35, q_setr (Or.inr (by decide))]; exact hr5
      have z43 : q_ir (q_r f35 x 6) now := by rw [ef35, q_setr (Or.inr (by decide))]; exact hr6
      have z44 : q_ir (q_r f35 x 7) dr := by rw [ef35, q_setr (Or.inr (by decide))]; exact hr7
      have z45 : q_ir (q_r f35 x 8) sv := by rw [ef35, q_setr (Or.inr (by decide))]; exact hr8
      have z46 : q_ir (q_r f35 fc 0) tr := by rw [ef35, q_setr (Or.inl (fun q => by rw [q, kout] at kfc; exact absurd kfc (by decide)))]; exact hr9
      refine lv_goto (tgt := 28) cx.1 cx.2.1 dL_inTable_17 (by decide) ?_
      refine q_iconst cx dL_inTable_28 ?_
      refine W.widen (k := 2) (n := 12) (by decide) (by decide) ?_
      refine q_iret cx hr hlk hB dL_inTable_29 ⟨by decide, by decide⟩ ?_
      exact ⟨(by decide), (by decide)⟩
    · refine q_lconst (z := 1) cx (by decide) dL_inTable_11 ?_
      refine lv_goto (tgt := 16) cx.1 cx.2.1 dL_inTable_12 (by decide) ?_
      refine q_last (n := 1) cx hB hout kout (by decide) rfl rfl (by decide) (by decide) (by decide) rfl rfl dL_inTable_16 (fun H locs f47 ef47 z48 hB => ?_)
      have z49 : q_ir (q_r f47 x 0) src := by rw [ef47, q_setr (Or.inl (fun q => by rw [q, kout] at kx; exact absurd kx (by decide)))]; exact hr0
      have z50 : q_ir (q_r f47 x 1) rdr := by rw [ef47, q_setr (Or.inr (by decide))]; exact hr1
      have z51 : q_ir (q_r f47 x 2) scr := by rw [ef47, q_setr (Or.inr (by decide))]; exact hr2
      have z52 : q_ir (q_r f47 x 3) fc := by rw [ef47, q_setr (Or.inr (by decide))]; exact hr3
      have z53 : q_ir (q_r f47 x 4) hist := by rw [ef47, q_setr (Or.inr (by decide))]; exact hr4
      have z54 : q_ir (q_r f47 x 5) rep := by rw [ef47, q_setr (Or.inr (by decide))]; exact hr5
      have z55 : q_ir (q_r f47 x 6) now := by rw [ef47, q_setr (Or.inr (by decide))]; exact hr6
      have z56 : q_ir (q_r f47 x 7) dr := by rw [ef47, q_setr (Or.inr (by decide))]; exact hr7
      have z57 : q_ir (q_r f47 x 8) sv := by rw [ef47, q_setr (Or.inr (by decide))]; exact hr8
      have z58 : q_ir (q_r f47 fc 0) tr := by rw [ef47, q_setr (Or.inl (fun q => by rw [q, kout] at kfc; exact absurd kfc (by decide)))]; exact hr9
      refine lv_goto (tgt := 28) cx.1 cx.2.1 dL_inTable_17 (by decide) ?_
      refine q_iconst cx dL_inTable_28 ?_
      refine W.widen (k := 2) (n := 12) (by decide) (by decide) ?_
      refine q_iret cx hr hlk hB dL_inTable_29 ⟨by decide, by decide⟩ ?_
      exact ⟨(by decide), (by decide)⟩
set_option maxHeartbeats 4000000 in
set_option maxRecDepth 100000 in
theorem w_awakeIn (l : Launch) (g : q_G) (ad : Nat → Nat) {K : Nat → Nat} {L : List Nat} (hN : L.Nodup) {f : Nat → va_E} (hT : q_Ty g K L f) (hfl : l.stackTraces = false) (x : Nat) (hx : x ∈ L) (kx : K x = 11) (a0 : Int) (la0 : (-2147483648) ≤ a0) (ua0 : a0 ≤ 2147483647) (out : Nat) (hout : out ∈ L) (kout : K out = 168) (src : Nat) (hsrc : src ∈ L) (ksrc : K src = 8) (rdr : Nat) (hrdr : rdr ∈ L) (krdr : K rdr = 9) (scr : Nat) (hscr : scr ∈ L) (kscr : K scr = 7) (fc : Nat) (hfc : fc ∈ L) (kfc : K fc = 1) (hist : Nat) (hhist : hist ∈ L) (khist : K hist = 2) (rep : Nat) (hrep : rep ∈ L) (krep : K rep = 6) (now : Nat) (hnow : now ∈ L) (know : K now = 10) (dr : Nat) (hdr : dr ∈ L) (kdr : K dr = 13) (sv : Nat) (hsv : sv ∈ L) (ksv : K sv = 14) (tr : Nat) (htr : tr ∈ L) (ktr : K tr = 15) (hr0 : q_ir (q_r f x 0) src) (hr1 : q_ir (q_r f x 1) rdr) (hr2 : q_ir (q_r f x 2) scr) (hr3 : q_ir (q_r f x 3) fc) (hr4 : q_ir (q_r f x 4) hist) (hr5 : q_ir (q_r f x 5) rep) (hr6 : q_ir (q_r f x 6) now) (hr7 : q_ir (q_r f x 7) dr) (hr8 : q_ir (q_r f x 8) sv) (hr9 : q_ir (q_r f fc 0) tr) : q_Wt l g ad K L yL_awakeIn cL_awakeIn 4 (some .int) [(0, 9, 12, 19)] 7 113 1 6 [.ref x, .int (q_i a0), .ref out] f [(168, 0, 0)] (q_Pi (fun (z : Int) (f1 : Nat → va_E) => 0 ≤ z ∧ z ≤ 3)) := by
  refine q_wofb (by decide +kernel) hN hT (Nat.le_of_ble_eq_true rfl) ?_
  intro p e s m below meth c ls cx hr hlk htab hX hB hl
  have hl : lv_has ls 4 [(0, .ref x), (1, .int (q_i a0)), (2, .ref out)] := hl
  obtain ⟨H, hH⟩ : ∃ H : Heap, H = s.heap := ⟨_, rfl⟩
  obtain ⟨locs, hlocs⟩ : ∃ z : List Loc, z = [] := ⟨_, rfl⟩
  rw [← hH, ← hlocs] at hB
  rw [← hH, ← hlocs]
  refine q_ald_n cx dL_awakeIn_0 rfl (lv_at hl 2 rfl) ?_
  refine q_iconst cx dL_awakeIn_1 ?_
  refine q_ald_n cx dL_awakeIn_2 rfl (lv_at hl 0 rfl) ?_
  refine q_ild_n cx dL_awakeIn_3 rfl (lv_at hl 1 rfl) ?_
  refine q_cXV (As := [.int (q_i a0)]) (rest := [.int (q_i 0), .ref out]) cx hX hB (fun _ h => h) (fun _ h _ => h) hN hx kx (by decide) rfl (x_awakeIn l g ad hN hB.2.1 hfl x hx kx a0 (by omega) (by omega) src hsrc ksrc rdr hrdr krdr scr hscr kscr fc hfc kfc hist hhist khist rep hrep krep now hnow know dr hdr kdr sv hsv ksv tr htr ktr hr0 hr1 hr2 hr3 hr4 hr5 hr6 hr7 hr8 hr9) q_cL_54 q_dX11_awakeIn (by decide) rfl rfl hl.1 rfl (Nat.le_of_ble_eq_true rfl) dL_awakeIn_4 (fun E9 ce9 q9 H locs f20 hex hF hB hcell hcv hcl => ?_) (fun v9 H locs f17 h19 hF hB => ?_)
  · rcases hex with ⟨rfl, rfl⟩
    · refine vx_catch (E := "java/lang/IllegalArgumentException") (name := "java/lang/IllegalArgumentException") cx.2.2.2.1 [] ⟨0, 9, 12, 19⟩ [] (htab.trans rfl) (q_pnil) (by decide) (by decide) (cx.2.2.2.2 _ q_h875) (va_Nw.use rfl (hX.2.2.2.1 (.castable "java/lang/IllegalArgumentException" "java/lang/IllegalArgumentException") (by decide +kernel))) hcell hcv hcl ?_
      refine lv_astore_n (lv' := [(3, .ref q9), (0, .ref x), (1, .int (q_i a0)), (2, .ref out)]) cx.1 cx.2.1 dL_awakeIn_12 rfl hl (by decide) rfl (fun ls hl => ?_)
      refine q_iconst cx dL_awakeIn_13 ?_
      refine W.widen (k := 1) (n := 6) (by decide) (by decide) ?_
      refine q_iret cx hr hlk hB dL_awakeIn_14 ⟨by decide, by decide⟩ ?_
      exact ⟨(by decide), (by decide)⟩
  · obtain ⟨y18, rfl, ry18, h19⟩ := h19
    refine W.eq (g2 := F0 m 7 ls [.int (q_i y18), .int (q_i 0), .ref out]) rfl ?_
    obtain rfl := h19
    refine q_i2l cx ⟨by omega, by omega⟩ dL_awakeIn_7 ?_
    refine q_last (n := 1) cx hB hout kout (by decide) rfl rfl (by decide) (by decide) (by decide) rfl rfl dL_awakeIn_8 (fun H locs f21 ef21 z22 hB => ?_)
    have z23 : q_ir (q_r f21 x 0) src := by rw [ef21, q_setr (Or.inl (fun q => by rw [q, kout] at kx; exact absurd kx (by decide)))]; exact hr0
    have z24 : q_ir (q_r f21 x 1) rdr := by rw [ef21, q_setr (Or.inr (by decide))]; exact hr1
    have z25 : q_ir (q_r f21 x 2) scr := by rw [ef21, q_setr (Or.inr (by decide))]; exact hr2
    have z26 : q_ir (q_r f21 x 3) fc := by rw [ef21, q_setr (Or.inr (by decide))]; exact hr3
    have z27 : q_ir (q_r f21 x 4) hist := by rw [ef21, q_setr (Or.inr (by decide))]; exact hr4
    have z28 : q_ir (q_r f21 x 5) rep := by rw [ef21, q_setr (Or.inr (by decide))]; exact hr5
    have z29 : q_ir (q_r f21 x 6) now := by rw [ef21, q_setr (Or.inr (by decide))]; exact hr6
    have z30 : q_ir (q_r f21 x 7) dr := by rw [ef21, q_setr (Or.inr (by decide))]; exact hr7
    have z31 : q_ir (q_r f21 x 8) sv := by rw [ef21, q_setr (Or.inr (by decide))]; exact hr8
    have z32 : q_ir (q_r f21 fc 0) tr := by rw [ef21, q_setr (Or.inl (fun q => by rw [q, kout] at kfc; exact absurd kfc (by decide)))]; exact hr9
    refine lv_goto (tgt := 15) cx.1 cx.2.1 dL_awakeIn_9 (by decide) ?_
    refine q_iconst cx dL_awakeIn_15 ?_
    refine W.widen (k := 1) (n := 6) (by decide) (by decide) ?_
    refine q_iret cx hr hlk hB dL_awakeIn_16 ⟨by decide, by decide⟩ ?_
    exact ⟨(by decide), (by decide)⟩
set_option maxHeartbeats 4000000 in
set_option maxRecDepth 100000 in
theorem w_meetsIn (l : Launch) (g : q_G) (ad : Nat → Nat) {K : Nat → Nat} {L : List Nat} (hN : L.Nodup) {f : Nat → va_E} (hT : q_Ty g K L f) (hfl : l.stackTraces = false) (x : Nat) (hx : x ∈ L) (kx : K x = 11) (a0 : Int) (la0 : (-2147483648) ≤ a0) (ua0 : a0 ≤ 2147483647) (b0 : Int) (lb0 : (-2147483648) ≤ b0) (ub0 : b0 ≤ 2147483647) (out : Nat) (hout : out ∈ L) (kout : K out = 168) (src : Nat) (hsrc : src ∈ L) (ksrc : K src = 8) (rdr : Nat) (hrdr : rdr ∈ L) (krdr : K rdr = 9) (scr : Nat) (hscr : scr ∈ L) (kscr : K scr = 7) (fc : Nat) (hfc : fc ∈ L) (kfc : K fc = 1) (hist : Nat) (hhist : hist ∈ L) (khist : K hist = 2) (rep : Nat) (hrep : rep ∈ L) (krep : K rep = 6) (now : Nat) (hnow : now ∈ L) (know : K now = 10) (dr : Nat) (hdr : dr ∈ L) (kdr : K dr = 13) (sv : Nat) (hsv : sv ∈ L) (ksv : K sv = 14) (tr : Nat) (htr : tr ∈ L) (ktr : K tr = 15) (hr0 : q_ir (q_r f x 0) src) (hr1 : q_ir (q_r f x 1) rdr) (hr2 : q_ir (q_r f x 2) scr) (hr3 : q_ir (q_r f x 3) fc) (hr4 : q_ir (q_r f x 4) hist) (hr5 : q_ir (q_r f x 5) rep) (hr6 : q_ir (q_r f x 6) now) (hr7 : q_ir (q_r f x 7) dr) (hr8 : q_ir (q_r f x 8) sv) (hr9 : q_ir (q_r f fc 0) tr) : q_Wt l g ad K L yL_meetsIn cL_meetsIn 5 (some .int) [(0, 10, 13, 35)] 8 125 2 12 [.ref x, .int (q_i a0), .int (q_i b0), .ref out] f [(168, 0, 0)] (q_Pi (fun (z : Int) (f1 : Nat → va_E) => 0 ≤ z ∧ z ≤ 3)) := by
  refine q_wofb (by decide +kernel) hN hT (Nat.le_of_ble_eq_true rfl) ?_
  intro p e s m below meth c ls cx hr hlk htab hX hB hl
  have hl : lv_has ls 5 [(0, .ref x), (1, .int (q_i a0)), (2, .int (q_i b0)), (3, .ref out)] := hl
  obtain ⟨H, hH⟩ : ∃ H : Heap, H = s.heap := ⟨_, rfl⟩
  obtain ⟨locs, hlocs⟩ : ∃ z : List Loc, z = [] := ⟨_, rfl⟩
  rw [← hH, ← hlocs] at hB
  rw [← hH, ← hlocs]
  refine q_ald_n cx dL_meetsIn_0 rfl (lv_at hl 3 rfl) ?_
  refine q_iconst cx dL_meetsIn_1 ?_
  refine q_ald_n cx dL_meetsIn_2 rfl (lv_at hl 0 rfl) ?_
  refine q_ild_n cx dL_meetsIn_3 rfl (lv_at hl 1 rfl) ?_
  refine q_ild_n cx dL_meetsIn_4 rfl (lv_at hl 2 rfl) ?_
  refine q_cXV (As := [.int (q_i a0), .int (q_i b0)]) (rest := [.int (q_i 0), .ref out]) cx hX hB (fun _ h => h) (fun _ h _ => h) hN hx kx (by decide) rfl (x_meetsIn l g ad hN hB.2.1 hfl x hx kx a0 (by omega) (by omega) b0 (by omega) (by omega) src hsrc ksrc rdr hrdr krdr scr hscr kscr fc hfc kfc hist hhist khist rep hrep krep now hnow know dr hdr kdr sv hsv ksv tr htr ktr hr0 hr1 hr2 hr3 hr4 hr5 hr6 hr7 hr8 hr9) q_cL_57 q_dX11_meetsIn (by decide) rfl rfl hl.1 rfl (Nat.le_of_ble_eq_true rfl) dL_meetsIn_5 (fun E9 ce9 q9 H locs f20 hex hF hB hcell hcv hcl => ?_) (fun v9 H locs f17 h19 hF hB => ?_)
  · rcases hex with ⟨rfl, rfl⟩
    · refine vx_catch (E := "java/lang/IndexOutOfBoundsException") (name := "java/lang/IndexOutOfBoundsException") cx.2.2.2.1 [] ⟨0, 10, 13, 35⟩ [] (htab.trans rfl) (q_pnil) (by decide) (by decide) (cx.2.2.2.2 _ q_h1225) (va_Nw.use rfl (hX.2.2.2.1 (.castable "java/lang/IndexOutOfBoundsException" "java/lang/IndexOutOfBoundsException") (by decide +kernel))) hcell hcv hcl ?_
      refine lv_astore (lv' := [(4, .ref q9), (0, .ref x), (1, .int (q_i a0)), (2, .int (q_i b0)), (3, .ref out)]) cx.1 cx.2.1 dL_meetsIn_13 hl (by decide) rfl (fun ls hl => ?_)
      refine q_iconst cx dL_meetsIn_15 ?_
      refine W.widen (k := 2) (n := 12) (by decide) (by decide) ?_
      refine q_iret cx hr hlk hB dL_meetsIn_16 ⟨by decide, by decide⟩ ?_
      exact ⟨(by decide), (by decide)⟩
  · obtain ⟨y18, rfl, ry18, h19⟩ := h19
    refine W.eq (g2 := F0 m 8 ls [.int (q_i y18), .int (q_i 0), .ref out]) rfl ?_
    obtain rfl := h19
    refine q_i2l cx ⟨by omega, by omega⟩ dL_meetsIn_8 ?_
    refine q_last (n := 1) cx hB hout kout (by decide) rfl rfl (by decide) (by decide) (by decide) rfl rfl dL_meetsIn_9 (fun H locs f21 ef21 z22 hB => ?_)
    have z23 : q_ir (q_r f21 x 0) src := by rw [ef21, q_setr (Or.inl (fun q => by rw [q, kout] at kx; exact absurd kx (by decide)))]; exact hr0
    have z24 : q_ir (q_r f21 x 1) rdr := by rw [ef21, q_setr (Or.inr (by decide))]; exact hr1
    have z25 : q_ir (q_r f21 x 2) scr := by rw [ef21, q_setr (Or.inr (by decide))]; exact hr2
    have z26 : q_ir (q_r f21 x 3) fc := by rw [ef21, q_setr (Or.inr (by decide))]; exact hr3
    have z27 : q_ir (q_r f21 x 4) hist := by rw [ef21, q_setr (Or.inr (by decide))]; exact hr4
    have z28 : q_ir (q_r f21 x 5) rep := by rw [ef21, q_setr (Or.inr (by decide))]; exact hr5
    have z29 : q_ir (q_r f21 x 6) now := by rw [ef21, q_setr (Or.inr (by decide))]; exact hr6
    have z30 : q_ir (q_r f21 x 7) dr := by rw [ef21, q_setr (Or.inr (by decide))]; exact hr7
    have z31 : q_ir (q_r f21 x 8) sv := by rw [ef21, q_setr (Or.inr (by decide))]; exact hr8
    have z32 : q_ir (q_r f21 fc 0) tr := by rw [ef21, q_setr (Or.inl (fun q => by rw [q, kout] at kfc; exact absurd kfc (by decide)))]; exact hr9
    refine lv_goto (tgt := 17) cx.1 cx.2.1 dL_meetsIn_10 (by decide) ?_
    refine q_iconst cx dL_meetsIn_17 ?_
    refine W.widen (k := 2) (n := 12) (by decide) (by decide) ?_
    refine q_iret cx hr hlk hB dL_meetsIn_18 ⟨by decide, by decide⟩ ?_
    exact ⟨(by decide), (by decide)⟩
