set_option maxHeartbeats 4000000 in
set_option maxRecDepth 100000 in
theorem w_feed (l : Launch) (g : q_G) {K : Nat → Nat} {L : List Nat} (hN : L.Nodup) {f : Nat → va_E} (hT : q_Ty g K L f) (hfl : l.stackTraces = false) (x : Nat) (hx : x ∈ L) (kx : K x = 11) (a0 : Int) (la0 : (-2147483648) ≤ a0) (ua0 : a0 ≤ 2147483647) (b0 : Int) (lb0 : (-2147483648) ≤ b0) (ub0 : b0 ≤ 2147483647) (c0 : Int) (lc0 : (-2147483648) ≤ c0) (uc0 : c0 ≤ 2147483647) (d0 : Int) (ld0 : (-2147483648) ≤ d0) (ud0 : d0 ≤ 2147483647) (e0 : Int) (le0 : (-2147483648) ≤ e0) (ue0 : e0 ≤ 2147483647) (out : Nat) (hout : out ∈ L) (kout : K out = 168) (src : Nat) (hsrc : src ∈ L) (ksrc : K src = 8) (rdr : Nat) (hrdr : rdr ∈ L) (krdr : K rdr = 9) (scr : Nat) (hscr : scr ∈ L) (kscr : K scr = 7) (fc : Nat) (hfc : fc ∈ L) (kfc : K fc = 1) (hist : Nat) (hhist : hist ∈ L) (khist : K hist = 2) (rep : Nat) (hrep : rep ∈ L) (krep : K rep = 6) (now : Nat) (hnow : now ∈ L) (know : K now = 10) (dr : Nat) (hdr : dr ∈ L) (kdr : K dr = 13) (sv : Nat) (hsv : sv ∈ L) (ksv : K sv = 14) (tr : Nat) (htr : tr ∈ L) (ktr : K tr = 15) (hf0 : q_z f x 9 = 0) (hf1 : q_z f src 1 = 0) (hf2 : q_z f src 2 = 0) (hf3 : q_z f src 3 = (-1)) (hf4 : q_z f hist 1 = 0) (hf5 : q_z f hist 2 = 0) (hf6 : q_z f rep 1 = 0) (hf7 : q_z f now 3 = 0) (hf8 : q_z f now 4 = 0) (hf9 : q_z f now 5 = 0) (hf10 : q_z f now 6 = 12) (hf11 : q_z f now 10 = 3) (hf12 : q_z f now 11 = 0) (hf13 : q_z f now 12 = 0) (hr0 : q_r f x 0 = src) (hr1 : q_r f x 1 = rdr) (hr2 : q_r f x 2 = scr) (hr3 : q_r f x 3 = fc) (hr4 : q_r f x 4 = hist) (hr5 : q_r f x 5 = rep) (hr6 : q_r f x 6 = now) (hr7 : q_r f x 7 = dr) (hr8 : q_r f x 8 = sv) (hr9 : q_r f fc 0 = tr) : q_Wt l g K L yL_feed cL_feed 8 (some .int) [(0, 16, 19, 13)] 2 47 0 0 [.ref x, .int (q_i a0), .int (q_i b0), .int (q_i c0), .int (q_i d0), .int (q_i e0), .ref out] f [(11, 9, 9), (8, 1, 9), (9, 0, 2), (7, 1, 4), (2, 1, 2), (6, 1, 1), (10, 3, 15), (13, 3, 15), (14, 3, 15), (15, 3, 15), (16, 3, 15), (142, 0, 599), (168, 0, 0)] (q_Pi (fun (z : Int) (f1 : Nat → va_E) => z = 0 ∧ q_j f1 out 0 = (q_l 20))) := by
  refine q_wofb (by decide +kernel) hN hT (Nat.le_of_ble_eq_true rfl) ?_
  intro p e s m below meth c ls cx hr hlk htab hX hB hl
  have hl : lv_has ls 8 [(0, .ref x), (1, .int (q_i a0)), (2, .int (q_i b0)), (3, .int (q_i c0)), (4, .int (q_i d0)), (5, .int (q_i e0)), (6, .ref out)] := hl
  obtain ⟨H, hH⟩ : ∃ H : Heap, H = s.heap := ⟨_, rfl⟩
  obtain ⟨locs, hlocs⟩ : ∃ z : List Loc, z = [] := ⟨_, rfl⟩
  rw [← hH, ← hlocs] at hB
  rw [← hH, ← hlocs]
  refine lv_aload cx.1 cx.2.1 dL_feed_0 (lv_at hl 6 rfl) ?_
  refine q_iconst cx dL_feed_2 ?_
  refine q_ald_n cx dL_feed_3 rfl (lv_at hl 0 rfl) ?_
  refine q_ild_n cx dL_feed_4 rfl (lv_at hl 1 rfl) ?_
  refine q_ild_n cx dL_feed_5 rfl (lv_at hl 2 rfl) ?_
  refine q_ild_n cx dL_feed_6 rfl (lv_at hl 3 rfl) ?_
  refine lv_iload cx.1 cx.2.1 dL_feed_7 (lv_at hl 4 rfl) ?_
  refine lv_iload cx.1 cx.2.1 dL_feed_9 (lv_at hl 5 rfl) ?_
  refine q_cVi (As := [.int (q_i a0), .int (q_i b0), .int (q_i c0), .int (q_i d0), .int (q_i e0)]) (rest := [.int (q_i 0), .ref out]) cx hB (fun _ h => h) hN hx kx (by decide) rfl (x_feed l g hN hB.2.1 x hx kx a0 (by omega) (by omega) b0 (by omega) (by omega) c0 (by omega) (by omega) d0 (by omega) (by omega) e0 (by omega) (by omega) src hsrc ksrc rdr hrdr krdr scr hscr kscr fc hfc kfc hist hhist khist rep hrep krep now hnow know dr hdr kdr sv hsv ksv tr htr ktr hf0 hf1 hf2 hf3 hf4 hf5 hf6 hf7 hf8 hf9 hf10 hf11 hf12 hf13 hr0 hr1 hr2 hr3 hr4 hr5 hr6 hr7 hr8 hr9) q_cL_7 q_dX11_feed (by decide) rfl rfl hl.1 rfl (Nat.le_of_ble_eq_true rfl) dL_feed_11 (fun y27 H locs f26 ry27 h28 hF hB => ?_)
  have qy27 := h28
  have z29 : q_r f26 x 0 = src := (hF.r hx (by rw [kx]; rfl)).trans hr0
  have z30 : q_r f26 x 1 = rdr := (hF.r hx (by rw [kx]; rfl)).trans hr1
  have z31 : q_r f26 x 2 = scr := (hF.r hx (by rw [kx]; rfl)).trans hr2
  have z32 : q_r f26 x 3 = fc := (hF.r hx (by rw [kx]; rfl)).trans hr3
  have z33 : q_r f26 x 4 = hist := (hF.r hx (by rw [kx]; rfl)).trans hr4
  have z34 : q_r f26 x 5 = rep := (hF.r hx (by rw [kx]; rfl)).trans hr5
  have z35 : q_r f26 x 6 = now := (hF.r hx (by rw [kx]; rfl)).trans hr6
  have z36 : q_r f26 x 7 = dr := (hF.r hx (by rw [kx]; rfl)).trans hr7
  have z37 : q_r f26 x 8 = sv := (hF.r hx (by rw [kx]; rfl)).trans hr8
  have z38 : q_r f26 fc 0 = tr := (hF.r hfc (by rw [kfc]; rfl)).trans hr9
  subst qy27
  refine q_i2l cx ⟨by decide, by decide⟩ dL_feed_14 ?_
  refine q_last (n := 1) cx hB hout kout (by decide) rfl rfl (by decide) (by decide) (by decide) rfl rfl dL_feed_15 (fun H locs f39 ef39 z40 hB => ?_)
  have z41 : q_r f39 x 0 = src := by rw [ef39, q_setr (Or.inl (fun q => by rw [q, kout] at kx; exact absurd kx (by decide)))]; exact z29
  have z42 : q_r f39 x 1 = rdr := by rw [ef39, q_setr (Or.inr (by decide))]; exact z30
  have z43 : q_r f39 x 2 = scr := by rw [ef39, q_setr (Or.inr (by decide))]; exact z31
  have z44 : q_r f39 x 3 = fc := by rw [ef39, q_setr (Or.inr (by decide))]; exact z32
  have z45 : q_r f39 x 4 = hist := by rw [ef39, q_setr (Or.inr (by decide))]; exact z33
  have z46 : q_r f39 x 5 = rep := by rw [ef39, q_setr (Or.inr (by decide))]; exact z34
  have z47 : q_r f39 x 6 = now := by rw [ef39, q_setr (Or.inr (by decide))]; exact z35
  have z48 : q_r f39 x 7 = dr := by rw [ef39, q_setr (Or.inr (by decide))]; exact z36
  have z49 : q_r f39 x 8 = sv := by rw [ef39, q_setr (Or.inr (by decide))]; exact z37
  have z50 : q_r f39 fc 0 = tr := by rw [ef39, q_setr (Or.inl (fun q => by rw [q, kout] at kfc; exact absurd kfc (by decide)))]; exact z38
  refine lv_goto (tgt := 23) cx.1 cx.2.1 dL_feed_16 (by decide) ?_
  refine q_iconst cx dL_feed_23 ?_
  refine W.widen (k := 0) (n := 0) (by decide) (by decide) ?_
  refine q_iret cx hr hlk hB dL_feed_24 ⟨by decide, by decide⟩ ?_
  exact ⟨rfl, z40⟩
set_option maxHeartbeats 4000000 in
set_option maxRecDepth 100000 in
theorem w_truncatea (l : Launch) (g : q_G) {K : Nat → Nat} {L : List Nat} (hN : L.Nodup) {f : Nat → va_E} (hT : q_Ty g K L f) (hfl : l.stackTraces = false) (x : Nat) (hx : x ∈ L) (kx : K x = 11) (a0 : Int) (la0 : (-2147483648) ≤ a0) (ua0 : a0 ≤ (-1)) (out : Nat) (hout : out ∈ L) (kout : K out = 168) (src : Nat) (hsrc : src ∈ L) (ksrc : K src = 8) (rdr : Nat) (hrdr : rdr ∈ L) (krdr : K rdr = 9) (scr : Nat) (hscr : scr ∈ L) (kscr : K scr = 7) (fc : Nat) (hfc : fc ∈ L) (kfc : K fc = 1) (hist : Nat) (hhist : hist ∈ L) (khist : K hist = 2) (rep : Nat) (hrep : rep ∈ L) (krep : K rep = 6) (now : Nat) (hnow : now ∈ L) (know : K now = 10) (dr : Nat) (hdr : dr ∈ L) (kdr : K dr = 13) (sv : Nat) (hsv : sv ∈ L) (ksv : K sv = 14) (tr : Nat) (htr : tr ∈ L) (ktr : K tr = 15) (hf0 : q_z f x 9 = 0) (hf1 : q_z f src 1 = 0) (hf2 : q_z f src 2 = 0) (hf3 : q_z f src 3 = (-1)) (hf4 : q_z f hist 1 = 0) (hf5 : q_z f hist 2 = 0) (hf6 : q_z f rep 1 = 0) (hf7 : q_z f now 3 = 0) (hf8 : q_z f now 4 = 0) (hf9 : q_z f now 5 = 0) (hf10 : q_z f now 6 = 12) (hf11 : q_z f now 10 = 3) (hf12 : q_z f now 11 = 0) (hf13 : q_z f now 12 = 0) (hr0 : q_r f x 0 = src) (hr1 : q_r f x 1 = rdr) (hr2 : q_r f x 2 = scr) (hr3 : q_r f x 3 = fc) (hr4 : q_r f x 4 = hist) (hr5 : q_r f x 5 = rep) (hr6 : q_r f x 6 = now) (hr7 : q_r f x 7 = dr) (hr8 : q_r f x 8 = sv) (hr9 : q_r f fc 0 = tr) : q_Wt l g K L yL_truncate cL_truncate 4 (some .int) [(0, 9, 12, 19)] 7 103 1 6 [.ref x, .int (q_i a0), .ref out] f [] (q_Pi (fun (z : Int) (f1 : Nat → va_E) => z = 1)) := by
  refine q_wofb (by decide +kernel) hN hT (Nat.le_of_ble_eq_true rfl) ?_
  intro p e s m below meth c ls cx hr hlk htab hX hB hl
  have hl : lv_has ls 4 [(0, .ref x), (1, .int (q_i a0)), (2, .ref out)] := hl
  obtain ⟨H, hH⟩ : ∃ H : Heap, H = s.heap := ⟨_, rfl⟩
  obtain ⟨locs, hlocs⟩ : ∃ z : List Loc, z = [] := ⟨_, rfl⟩
  rw [← hH, ← hlocs] at hB
  rw [← hH, ← hlocs]
  refine q_ald_n cx dL_truncate_0 rfl (lv_at hl 2 rfl) ?_
  refine q_iconst cx dL_truncate_1 ?_
  refine q_ald_n cx dL_truncate_2 rfl (lv_at hl 0 rfl) ?_
  refine q_ild_n cx dL_truncate_3 rfl (lv_at hl 1 rfl) ?_
  refine q_cXV (As := [.int (q_i a0)]) (rest := [.int (q_i 0), .ref out]) cx hX hB (fun _ h => h) (fun _ h _ => h) hN hx kx (by decide) rfl (x_truncatea l g hN hB.2.1 hfl x hx kx a0 (by omega) (by omega) src hsrc ksrc rdr hrdr krdr scr hscr kscr fc hfc kfc hist hhist khist rep hrep krep now hnow know dr hdr kdr sv hsv ksv tr htr ktr hf0 hf1 hf2 hf3 hf4 hf5 hf6 hf7 hf8 hf9 hf10 hf11 hf12 hf13 hr0 hr1 hr2 hr3 hr4 hr5 hr6 hr7 hr8 hr9) q_cL_15 q_dX11_truncate (by decide) rfl rfl hl.1 rfl (Nat.le_of_ble_eq_true rfl) dL_truncate_4 (fun E9 ce9 q9 H locs f8 hex hF hB hcell hcv hcl => ?_) (fun v9 H locs f5 h7 hF hB => ?_)
  · rcases hex with ⟨rfl, rfl⟩
    · refine vx_catch (E := "java/lang/IllegalArgumentException") (name := "java/lang/IllegalArgumentException") cx.2.2.2.1 [] ⟨0, 9, 12, 19⟩ [] (htab.trans rfl) (q_pnil) (by decide) (by decide) (cx.2.2.2.2 _ q_h875) (va_Nw.use rfl (hX.2.2.2.1 (.castable "java/lang/IllegalArgumentException" "java/lang/IllegalArgumentException") (by decide +kernel))) hcell hcv hcl ?_
      refine lv_astore_n (lv' := [(3, .ref q9), (0, .ref x), (1, .int (q_i a0)), (2, .ref out)]) cx.1 cx.2.1 dL_truncate_12 rfl hl (by decide) rfl (fun ls hl => ?_)
      refine q_iconst cx dL_truncate_13 ?_
      refine W.widen (k := 1) (n := 6) (by decide) (by decide) ?_
      refine q_iret cx hr hlk hB dL_truncate_14 ⟨by decide, by decide⟩ ?_
      exact rfl
  · obtain ⟨y6, rfl, ry6, h7⟩ := h7
    exact h7.elim
set_option maxHeartbeats 4000000 in
set_option maxRecDepth 100000 in
theorem w_truncateb (l : Launch) (g : q_G) {K : Nat → Nat} {L : List Nat} (hN : L.Nodup) {f : Nat → va_E} (hT : q_Ty g K L f) (hfl : l.stackTraces = false) (x : Nat) (hx : x ∈ L) (kx : K x = 11) (a0 : Int) (la0 : 0 ≤ a0) (ua0 : a0 ≤ 0) (out : Nat) (hout : out ∈ L) (kout : K out = 168) (src : Nat) (hsrc : src ∈ L) (ksrc : K src = 8) (rdr : Nat) (hrdr : rdr ∈ L) (krdr : K rdr = 9) (scr : Nat) (hscr : scr ∈ L) (kscr : K scr = 7) (fc : Nat) (hfc : fc ∈ L) (kfc : K fc = 1) (hist : Nat) (hhist : hist ∈ L) (khist : K hist = 2) (rep : Nat) (hrep : rep ∈ L) (krep : K rep = 6) (now : Nat) (hnow : now ∈ L) (know : K now = 10) (dr : Nat) (hdr : dr ∈ L) (kdr : K dr = 13) (sv : Nat) (hsv : sv ∈ L) (ksv : K sv = 14) (tr : Nat) (htr : tr ∈ L) (ktr : K tr = 15) (hf0 : q_z f x 9 = 0) (hf1 : q_z f src 1 = 0) (hf2 : q_z f src 2 = 0) (hf3 : q_z f src 3 = (-1)) (hf4 : q_z f hist 1 = 0) (hf5 : q_z f hist 2 = 0) (hf6 : q_z f rep 1 = 0) (hf7 : q_z f now 3 = 0) (hf8 : q_z f now 4 = 0) (hf9 : q_z f now 5 = 0) (hf10 : q_z f now 6 = 12) (hf11 : q_z f now 10 = 3) (hf12 : q_z f now 11 = 0) (hf13 : q_z f now 12 = 0) (hr0 : q_r f x 0 = src) (hr1 : q_r f x 1 = rdr) (hr2 : q_r f x 2 = scr) (hr3 : q_r f x 3 = fc) (hr4 : q_r f x 4 = hist) (hr5 : q_r f x 5 = rep) (hr6 : q_r f x 6 = now) (hr7 : q_r f x 7 = dr) (hr8 : q_r f x 8 = sv) (hr9 : q_r f fc 0 = tr) : q_Wt l g K L yL_truncate cL_truncate 4 (some .int) [(0, 9, 12, 19)] 1 21 0 0 [.ref x, .int (q_i a0), .ref out] f [(11, 9, 9), (8, 1, 9), (9, 0, 2), (7, 1, 4), (2, 1, 2), (6, 1, 1), (10, 3, 15), (13, 3, 15), (14, 3, 15), (15, 3, 15), (16, 3, 15), (142, 0, 599), (168, 0, 0)] (q_Pi (fun (z : Int) (f1 : Nat → va_E) => z = 0 ∧ q_j f1 out 0 = (q_l 0))) := by
  obtain rfl : a0 = 0 := by omega
  refine q_wofb (by decide +kernel) hN hT (Nat.le_of_ble_eq_true rfl) ?_
  intro p e s m below meth c ls cx hr hlk htab hX hB hl
  have hl : lv_has ls 4 [(0, .ref x), (1, .int (q_i 0)), (2, .ref out)] := hl
  obtain ⟨H, hH⟩ : ∃ H : Heap, H = s.heap := ⟨_, rfl⟩
  obtain ⟨locs, hlocs⟩ : ∃ z : List Loc, z = [] := ⟨_, rfl⟩
  rw [← hH, ← hlocs] at hB
  rw [← hH, ← hlocs]
  refine q_ald_n cx dL_truncate_0 rfl (lv_at hl 2 rfl) ?_
  refine q_iconst cx dL_truncate_1 ?_
  refine q_ald_n cx dL_truncate_2 rfl (lv_at hl 0 rfl) ?_
  refine q_ild_n cx dL_truncate_3 rfl (lv_at hl 1 rfl) ?_
  refine q_cVi (As := [.int (q_i 0)]) (rest := [.int (q_i 0), .ref out]) cx hB (fun _ h => h) hN hx kx (by decide) rfl (x_truncateb l g hN hB.2.1 x hx kx 0 (by decide) (by decide) src hsrc ksrc rdr hrdr krdr scr hscr kscr fc hfc kfc hist hhist khist rep hrep krep now hnow know dr hdr kdr sv hsv ksv tr htr ktr hf0 hf1 hf2 hf3 hf4 hf5 hf6 hf7 hf8 hf9 hf10 hf11 hf12 hf13 hr0 hr1 hr2 hr3 hr4 hr5 hr6 hr7 hr8 hr9) q_cL_15 q_dX11_truncate (by decide) rfl rfl hl.1 rfl (Nat.le_of_ble_eq_true rfl) dL_truncate_4 (fun y27 H locs f26 ry27 h28 hF hB => ?_)
  have qy27 := h28
  have z29 : q_r f26 x 0 = src := (hF.r hx (by rw [kx]; rfl)).trans hr0
  have z30 : q_r f26 x 1 = rdr := (hF.r hx (by rw [kx]; rfl)).trans hr1
  have z31 : q_r f26 x 2 = scr := (hF.r hx (by rw [kx]; rfl)).trans hr2
  have z32 : q_r f26 x 3 = fc := (hF.r hx (by rw [kx]; rfl)).trans hr3
  have z33 : q_r f26 x 4 = hist := (hF.r hx (by rw [kx]; rfl)).trans hr4
  have z34 : q_r f26 x 5 = rep := (hF.r hx (by rw [kx]; rfl)).trans hr5
  have z35 : q_r f26 x 6 = now := (hF.r hx (by rw [kx]; rfl)).trans hr6
  have z36 : q_r f26 x 7 = dr := (hF.r hx (by rw [kx]; rfl)).trans hr7
  have z37 : q_r f26 x 8 = sv := (hF.r hx (by rw [kx]; rfl)).trans hr8
  have z38 : q_r f26 fc 0 = tr := (hF.r hfc (by rw [kfc]; rfl)).trans hr9
  subst qy27
  refine q_i2l cx ⟨by decide, by decide⟩ dL_truncate_7 ?_
  refine q_last (n := 1) cx hB hout kout (by decide) rfl rfl (by decide) (by decide) (by decide) rfl rfl dL_truncate_8 (fun H locs f39 ef39 z40 hB => ?_)
  have z41 : q_r f39 x 0 = src := by rw [ef39, q_setr (Or.inl (fun q => by rw [q, kout] at kx; exact absurd kx (by decide)))]; exact z29
  have z42 : q_r f39 x 1 = rdr := by rw [ef39, q_setr (Or.inr (by decide))]; exact z30
  have z43 : q_r f39 x 2 = scr := by rw [ef39, q_setr (Or.inr (by decide))]; exact z31
  have z44 : q_r f39 x 3 = fc := by rw [ef39, q_setr (Or.inr (by decide))]; exact z32
  have z45 : q_r f39 x 4 = hist := by rw [ef39, q_setr (Or.inr (by decide))]; exact z33
  have z46 : q_r f39 x 5 = rep := by rw [ef39, q_setr (Or.inr (by decide))]; exact z34
  have z47 : q_r f39 x 6 = now := by rw [ef39, q_setr (Or.inr (by decide))]; exact z35
  have z48 : q_r f39 x 7 = dr := by rw [ef39, q_setr (Or.inr (by decide))]; exact z36
  have z49 : q_r f39 x 8 = sv := by rw [ef39, q_setr (Or.inr (by decide))]; exact z37
  have z50 : q_r f39 fc 0 = tr := by rw [ef39, q_setr (Or.inl (fun q => by rw [q, kout] at kfc; exact absurd kfc (by decide)))]; exact z38
  refine lv_goto (tgt := 15) cx.1 cx.2.1 dL_truncate_9 (by decide) ?_
  refine q_iconst cx dL_truncate_15 ?_
  refine W.widen (k := 0) (n := 0) (by decide) (by decide) ?_
  refine q_iret cx hr hlk hB dL_truncate_16 ⟨by decide, by decide⟩ ?_
  exact ⟨rfl, z40⟩
set_option maxHeartbeats 4000000 in
set_option maxRecDepth 100000 in
theorem w_truncatec (l : Launch) (g : q_G) {K : Nat → Nat} {L : List Nat} (hN : L.Nodup) {f : Nat → va_E} (hT : q_Ty g K L f) (hfl : l.stackTraces = false) (x : Nat) (hx : x ∈ L) (kx : K x = 11) (a0 : Int) (la0 : 1 ≤ a0) (ua0 : a0 ≤ 2147483647) (out : Nat) (hout : out ∈ L) (kout : K out = 168) (src : Nat) (hsrc : src ∈ L) (ksrc : K src = 8) (rdr : Nat) (hrdr : rdr ∈ L) (krdr : K rdr = 9) (scr : Nat) (hscr : scr ∈ L) (kscr : K scr = 7) (fc : Nat) (hfc : fc ∈ L) (kfc : K fc = 1) (hist : Nat) (hhist : hist ∈ L) (khist : K hist = 2) (rep : Nat) (hrep : rep ∈ L) (krep : K rep = 6) (now : Nat) (hnow : now ∈ L) (know : K now = 10) (dr : Nat) (hdr : dr ∈ L) (kdr : K dr = 13) (sv : Nat) (hsv : sv ∈ L) (ksv : K sv = 14) (tr : Nat) (htr : tr ∈ L) (ktr : K tr = 15) (hf0 : q_z f x 9 = 0) (hf1 : q_z f src 1 = 0) (hf2 : q_z f src 2 = 0) (hf3 : q_z f src 3 = (-1)) (hf4 : q_z f hist 1 = 0) (hf5 : q_z f hist 2 = 0) (hf6 : q_z f rep 1 = 0) (hf7 : q_z f now 3 = 0) (hf8 : q_z f now 4 = 0) (hf9 : q_z f now 5 = 0) (hf10 : q_z f now 6 = 12) (hf11 : q_z f now 10 = 3) (hf12 : q_z f now 11 = 0) (hf13 : q_z f now 12 = 0) (hr0 : q_r f x 0 = src) (hr1 : q_r f x 1 = rdr) (hr2 : q_r f x 2 = scr) (hr3 : q_r f x 3 = fc) (hr4 : q_r f x 4 = hist) (hr5 : q_r f x 5 = rep) (hr6 : q_r f x 6 = now) (hr7 : q_r f x 7 = dr) (hr8 : q_r f x 8 = sv) (hr9 : q_r f fc 0 = tr) : q_Wt l g K L yL_truncate cL_truncate 4 (some .int) [(0, 9, 12, 19)] 7 103 1 6 [.ref x, .int (q_i a0), .ref out] f [] (q_Pi (fun (z : Int) (f1 : Nat → va_E) => z = 1)) := by
  refine q_wofb (by decide +kernel) hN hT (Nat.le_of_ble_eq_true rfl) ?_
  intro p e s m below meth c ls cx hr hlk htab hX hB hl
  have hl : lv_has ls 4 [(0, .ref x), (1, .int (q_i a0)), (2, .ref out)] := hl
  obtain ⟨H, hH⟩ : ∃ H : Heap, H = s.heap := ⟨_, rfl⟩
  obtain ⟨locs, hlocs⟩ : ∃ z : List Loc, z = [] := ⟨_, rfl⟩
  rw [← hH, ← hlocs] at hB
  rw [← hH, ← hlocs]
  refine q_ald_n cx dL_truncate_0 rfl (lv_at hl 2 rfl) ?_
  refine q_iconst cx dL_truncate_1 ?_
  refine q_ald_n cx dL_truncate_2 rfl (lv_at hl 0 rfl) ?_
  refine q_ild_n cx dL_truncate_3 rfl (lv_at hl 1 rfl) ?_
  refine q_cXV (As := [.int (q_i a0)]) (rest := [.int (q_i 0), .ref out]) cx hX hB (fun _ h => h) (fun _ h _ => h) hN hx kx (by decide) rfl (x_truncatec l g hN hB.2.1 hfl x hx kx a0 (by omega) (by omega) src hsrc ksrc rdr hrdr krdr scr hscr kscr fc hfc kfc hist hhist khist rep hrep krep now hnow know dr hdr kdr sv hsv ksv tr htr ktr hf0 hf1 hf2 hf3 hf4 hf5 hf6 hf7 hf8 hf9 hf10 hf11 hf12 hf13 hr0 hr1 hr2 hr3 hr4 hr5 hr6 hr7 hr8 hr9) q_cL_15 q_dX11_truncate (by decide) rfl rfl hl.1 rfl (Nat.le_of_ble_eq_true rfl) dL_truncate_4 (fun E9 ce9 q9 H locs f8 hex hF hB hcell hcv hcl => ?_) (fun v9 H locs f5 h7 hF hB => ?_)
  · rcases hex with ⟨rfl, rfl⟩
    · refine vx_catch (E := "java/lang/IllegalArgumentException") (name := "java/lang/IllegalArgumentException") cx.2.2.2.1 [] ⟨0, 9, 12, 19⟩ [] (htab.trans rfl) (q_pnil) (by decide) (by decide) (cx.2.2.2.2 _ q_h875) (va_Nw.use rfl (hX.2.2.2.1 (.castable "java/lang/IllegalArgumentException" "java/lang/IllegalArgumentException") (by decide +kernel))) hcell hcv hcl ?_
      refine lv_astore_n (lv' := [(3, .ref q9), (0, .ref x), (1, .int (q_i a0)), (2, .ref out)]) cx.1 cx.2.1 dL_truncate_12 rfl hl (by decide) rfl (fun ls hl => ?_)
      refine q_iconst cx dL_truncate_13 ?_
      refine W.widen (k := 1) (n := 6) (by decide) (by decide) ?_
      refine q_iret cx hr hlk hB dL_truncate_14 ⟨by decide, by decide⟩ ?_
      exact rfl
  · obtain ⟨y6, rfl, ry6, h7⟩ := h7
    exact h7.elim
set_option maxHeartbeats 4000000 in
set_option maxRecDepth 100000 in
theorem w_readText (l : Launch) (g : q_G) {K : Nat → Nat} {L : List Nat} (hN : L.Nodup) {f : Nat → va_E} (hT : q_Ty g K L f) (hfl : l.stackTraces = false) (x : Nat) (hx : x ∈ L) (kx : K x = 11) (out : Nat) (hout : out ∈ L) (kout : K out = 168) (src : Nat) (hsrc : src ∈ L) (ksrc : K src = 8) (rdr : Nat) (hrdr : rdr ∈ L) (krdr : K rdr = 9) (scr : Nat) (hscr : scr ∈ L) (kscr : K scr = 7) (fc : Nat) (hfc : fc ∈ L) (kfc : K fc = 1) (hist : Nat) (hhist : hist ∈ L) (khist : K hist = 2) (rep : Nat) (hrep : rep ∈ L) (krep : K rep = 6) (now : Nat) (hnow : now ∈ L) (know : K now = 10) (dr : Nat) (hdr : dr ∈ L) (kdr : K dr = 13) (sv : Nat) (hsv : sv ∈ L) (ksv : K sv = 14) (tr : Nat) (htr : tr ∈ L) (ktr : K tr = 15) (hf0 : q_z f x 9 = 0) (hf1 : q_z f src 1 = 0) (hf2 : q_z f src 2 = 0) (hf3 : q_z f src 3 = (-1)) (hf4 : q_z f hist 1 = 0) (hf5 : q_z f hist 2 = 0) (hf6 : q_z f rep 1 = 0) (hf7 : q_z f now 3 = 0) (hf8 : q_z f now 4 = 0) (hf9 : q_z f now 5 = 0) (hf10 : q_z f now 6 = 12) (hf11 : q_z f now 10 = 3) (hf12 : q_z f now 11 = 0) (hf13 : q_z f now 12 = 0) (hr0 : q_r f x 0 = src) (hr1 : q_r f x 1 = rdr) (hr2 : q_r f x 2 = scr) (hr3 : q_r f x 3 = fc) (hr4 : q_r f x 4 = hist) (hr5 : q_r f x 5 = rep) (hr6 : q_r f x 6 = now) (hr7 : q_r f x 7 = dr) (hr8 : q_r f x 8 = sv) (hr9 : q_r f fc 0 = tr) : q_Wt l g K L yL_readText cL_readText 3 (some .int) [(0, 8, 11, 19)] 5 106 0 0 [.ref x, .ref out] f [(11, 9, 9), (8, 1, 9), (9, 0, 2), (7, 1, 4), (2, 1, 2), (6, 1, 1), (10, 3, 15), (13, 3, 15), (14, 3, 15), (15, 3, 15), (16, 3, 15), (142, 0, 599), (168, 0, 0)] (q_Pi (fun (z : Int) (f1 : Nat → va_E) => z = 0 ∧ q_j f1 out 0 = (q_l 0))) := by
  refine q_wofb (by decide +kernel) hN hT (Nat.le_of_ble_eq_true rfl) ?_
  intro p e s m below meth c ls cx hr hlk htab hX hB hl
  have hl : lv_has ls 3 [(0, .ref x), (1, .ref out)] := hl
  obtain ⟨H, hH⟩ : ∃ H : Heap, H = s.heap := ⟨_, rfl⟩
  obtain ⟨locs, hlocs⟩ : ∃ z : List Loc, z = [] := ⟨_, rfl⟩
  rw [← hH, ← hlocs] at hB
  rw [← hH, ← hlocs]
  refine q_ald_n cx dL_readText_0 rfl (lv_at hl 1 rfl) ?_
  refine q_iconst cx dL_readText_1 ?_
  refine q_ald_n cx dL_readText_2 rfl (lv_at hl 0 rfl) ?_
  refine q_cVi (As := []) (rest := [.int (q_i 0), .ref out]) cx hB (fun _ h => h) hN hx kx (by decide) rfl (x_readText l g hN hB.2.1 x hx kx src hsrc ksrc rdr hrdr krdr scr hscr kscr fc hfc kfc hist hhist khist rep hrep krep now hnow know dr hdr kdr sv hsv ksv tr htr ktr hf0 hf1 hf2 hf3 hf4 hf5 hf6 hf7 hf8 hf9 hf10 hf11 hf12 hf13 hr0 hr1 hr2 hr3 hr4 hr5 hr6 hr7 hr8 hr9) q_cL_21 q_dX11_readText (by decide) rfl rfl hl.1 rfl (Nat.le_of_ble_eq_true rfl) dL_readText_3 (fun y27 H locs f26 ry27 h28 hF hB => ?_)
  have qy27 := h28
  have z29 : q_r f26 x 0 = src := (hF.r hx (by rw [kx]; rfl)).trans hr0
  have z30 : q_r f26 x 1 = rdr := (hF.r hx (by rw [kx]; rfl)).trans hr1
  have z31 : q_r f26 x 2 = scr := (hF.r hx (by rw [kx]; rfl)).trans hr2
  have z32 : q_r f26 x 3 = fc := (hF.r hx (by rw [kx]; rfl)).trans hr3
  have z33 : q_r f26 x 4 = hist := (hF.r hx (by rw [kx]; rfl)).trans hr4
  have z34 : q_r f26 x 5 = rep := (hF.r hx (by rw [kx]; rfl)).trans hr5
  have z35 : q_r f26 x 6 = now := (hF.r hx (by rw [kx]; rfl)).trans hr6
  have z36 : q_r f26 x 7 = dr := (hF.r hx (by rw [kx]; rfl)).trans hr7
  have z37 : q_r f26 x 8 = sv := (hF.r hx (by rw [kx]; rfl)).trans hr8
  have z38 : q_r f26 fc 0 = tr := (hF.r hfc (by rw [kfc]; rfl)).trans hr9
  subst qy27
  refine q_i2l cx ⟨by decide, by decide⟩ dL_readText_6 ?_
  refine q_last (n := 1) cx hB hout kout (by decide) rfl rfl (by decide) (by decide) (by decide) rfl rfl dL_readText_7 (fun H locs f39 ef39 z40 hB => ?_)
  have z41 : q_r f39 x 0 = src := by rw [ef39, q_setr (Or.inl (fun q => by rw [q, kout] at kx; exact absurd kx (by decide)))]; exact z29
  have z42 : q_r f39 x 1 = rdr := by rw [ef39, q_setr (Or.inr (by decide))]; exact z30
  have z43 : q_r f39 x 2 = scr := by rw [ef39, q_setr (Or.inr (by decide))]; exact z31
  have z44 : q_r f39 x 3 = fc := by rw [ef39, q_setr (Or.inr (by decide))]; exact z32
  have z45 : q_r f39 x 4 = hist := by rw [ef39, q_setr (Or.inr (by decide))]; exact z33
  have z46 : q_r f39 x 5 = rep := by rw [ef39, q_setr (Or.inr (by decide))]; exact z34
  have z47 : q_r f39 x 6 = now := by rw [ef39, q_setr (Or.inr (by decide))]; exact z35
  have z48 : q_r f39 x 7 = dr := by rw [ef39, q_setr (Or.inr (by decide))]; exact z36
  have z49 : q_r f39 x 8 = sv := by rw [ef39, q_setr (Or.inr (by decide))]; exact z37
  have z50 : q_r f39 fc 0 = tr := by rw [ef39, q_setr (Or.inl (fun q => by rw [q, kout] at kfc; exact absurd kfc (by decide)))]; exact z38
  refine lv_goto (tgt := 14) cx.1 cx.2.1 dL_readText_8 (by decide) ?_
  refine q_iconst cx dL_readText_14 ?_
  refine W.widen (k := 0) (n := 0) (by decide) (by decide) ?_
  refine q_iret cx hr hlk hB dL_readText_15 ⟨by decide, by decide⟩ ?_
  exact ⟨rfl, z40⟩
set_option maxHeartbeats 4000000 in
set_option maxRecDepth 100000 in
theorem w_runScript (l : Launch) (g : q_G) {K : Nat → Nat} {L : List Nat} (hN : L.Nodup) {f : Nat → va_E} (hT : q_Ty g K L f) (hfl : l.stackTraces = false) (x : Nat) (hx : x ∈ L) (kx : K x = 11) (out : Nat) (hout : out ∈ L) (kout : K out = 168) (src : Nat) (hsrc : src ∈ L) (ksrc : K src = 8) (rdr : Nat) (hrdr : rdr ∈ L) (krdr : K rdr = 9) (scr : Nat) (hscr : scr ∈ L) (kscr : K scr = 7) (fc : Nat) (hfc : fc ∈ L) (kfc : K fc = 1) (hist : Nat) (hhist : hist ∈ L) (khist : K hist = 2) (rep : Nat) (hrep : rep ∈ L) (krep : K rep = 6) (now : Nat) (hnow : now ∈ L) (know : K now = 10) (dr : Nat) (hdr : dr ∈ L) (kdr : K dr = 13) (sv : Nat) (hsv : sv ∈ L) (ksv : K sv = 14) (tr : Nat) (htr : tr ∈ L) (ktr : K tr = 15) (hf0 : q_z f x 9 = 0) (hf1 : q_z f src 1 = 0) (hf2 : q_z f src 2 = 0) (hf3 : q_z f src 3 = (-1)) (hf4 : q_z f hist 1 = 0) (hf5 : q_z f hist 2 = 0) (hf6 : q_z f rep 1 = 0) (hf7 : q_z f now 3 = 0) (hf8 : q_z f now 4 = 0) (hf9 : q_z f now 5 = 0) (hf10 : q_z f now 6 = 12) (hf11 : q_z f now 10 = 3) (hf12 : q_z f now 11 = 0) (hf13 : q_z f now 12 = 0) (hr0 : q_r f x 0 = src) (hr1 : q_r f x 1 = rdr) (hr2 : q_r f x 2 = scr) (hr3 : q_r f x 3 = fc) (hr4 : q_r f x 4 = hist) (hr5 : q_r f x 5 = rep) (hr6 : q_r f x 6 = now) (hr7 : q_r f x 7 = dr) (hr8 : q_r f x 8 = sv) (hr9 : q_r f fc 0 = tr) : q_Wt l g K L yL_runScript cL_runScript 3 (some .int) [(0, 8, 11, 19)] 5 107 0 0 [.ref x, .ref out] f [(11, 9, 9), (8, 1, 9), (9, 0, 2), (7, 1, 4), (2, 1, 2), (6, 1, 1), (10, 3, 15), (13, 3, 15), (14, 3, 15), (15, 3, 15), (16, 3, 15), (142, 0, 599), (168, 0, 0)] (q_Pi (fun (z : Int) (f1 : Nat → va_E) => z = 0 ∧ q_j f1 out 0 = (q_l 0))) := by
  refine q_wofb (by decide +kernel) hN hT (Nat.le_of_ble_eq_true rfl) ?_
  intro p e s m below meth c ls cx hr hlk htab hX hB hl
  have hl : lv_has ls 3 [(0, .ref x), (1, .ref out)] := hl
  obtain ⟨H, hH⟩ : ∃ H : Heap, H = s.heap := ⟨_, rfl⟩
  obtain ⟨locs, hlocs⟩ : ∃ z : List Loc, z = [] := ⟨_, rfl⟩
  rw [← hH, ← hlocs] at hB
  rw [← hH, ← hlocs]
  refine q_ald_n cx dL_runScript_0 rfl (lv_at hl 1 rfl) ?_
  refine q_iconst cx dL_runScript_1 ?_
  refine q_ald_n cx dL_runScript_2 rfl (lv_at hl 0 rfl) ?_
  refine q_cVi (As := []) (rest := [.int (q_i 0), .ref out]) cx hB (fun _ h => h) hN hx kx (by decide) rfl (x_runScript l g hN hB.2.1 x hx kx src hsrc ksrc rdr hrdr krdr scr hscr kscr fc hfc kfc hist hhist khist rep hrep krep now hnow know dr hdr kdr sv hsv ksv tr htr ktr hf0 hf1 hf2 hf3 hf4 hf5 hf6 hf7 hf8 hf9 hf10 hf11 hf12 hf13 hr0 hr1 hr2 hr3 hr4 hr5 hr6 hr7 hr8 hr9) q_cL_25 q_dX11_runScript (by decide) rfl rfl hl.1 rfl (Nat.le_of_ble_eq_true rfl) dL_runScript_3 (fun y27 H locs f26 ry27 h28 hF hB => ?_)
  have qy27 := h28
  have z29 : q_r f26 x 0 = src := (hF.r hx (by rw [kx]; rfl)).trans hr0
  have z30 : q_r f26 x 1 = rdr := (hF.r hx (by rw [kx]; rfl)).trans hr1
  have z31 : q_r f26 x 2 = scr := (hF.r hx (by rw [kx]; rfl)).trans hr2
  have z32 : q_r f26 x 3 = fc := (hF.r hx (by rw [kx]; rfl)).trans hr3
  have z33 : q_r f26 x 4 = hist := (hF.r hx (by rw [kx]; rfl)).trans hr4
  have z34 : q_r f26 x 5 = rep := (hF.r hx (by rw [kx]; rfl)).trans hr5
  have z35 : q_r f26 x 6 = now := (hF.r hx (by rw [kx]; rfl)).trans hr6
  have z36 : q_r f26 x 7 = dr := (hF.r hx (by rw [kx]; rfl)).trans hr7
  have z37 : q_r f26 x 8 = sv := (hF.r hx (by rw [kx]; rfl)).trans hr8
  have z38 : q_r f26 fc 0 = tr := (hF.r hfc (by rw [kfc]; rfl)).trans hr9
  subst qy27
  refine q_i2l cx ⟨by decide, by decide⟩ dL_runScript_6 ?_
  refine q_last (n := 1) cx hB hout kout (by decide) rfl rfl (by decide) (by decide) (by decide) rfl rfl dL_runScript_7 (fun H locs f39 ef39 z40 hB => ?_)
  have z41 : q_r f39 x 0 = src := by rw [ef39, q_setr (Or.inl (fun q => by rw [q, kout] at kx; exact absurd kx (by decide)))]; exact z29
  have z42 : q_r f39 x 1 = rdr := by rw [ef39, q_setr (Or.inr (by decide))]; exact z30
  have z43 : q_r f39 x 2 = scr := by rw [ef39, q_setr (Or.inr (by decide))]; exact z31
  have z44 : q_r f39 x 3 = fc := by rw [ef39, q_setr (Or.inr (by decide))]; exact z32
  have z45 : q_r f39 x 4 = hist := by rw [ef39, q_setr (Or.inr (by decide))]; exact z33
  have z46 : q_r f39 x 5 = rep := by rw [ef39, q_setr (Or.inr (by decide))]; exact z34
  have z47 : q_r f39 x 6 = now := by rw [ef39, q_setr (Or.inr (by decide))]; exact z35
  have z48 : q_r f39 x 7 = dr := by rw [ef39, q_setr (Or.inr (by decide))]; exact z36
  have z49 : q_r f39 x 8 = sv := by rw [ef39, q_setr (Or.inr (by decide))]; exact z37
  have z50 : q_r f39 fc 0 = tr := by rw [ef39, q_setr (Or.inl (fun q => by rw [q, kout] at kfc; exact absurd kfc (by decide)))]; exact z38
  refine lv_goto (tgt := 14) cx.1 cx.2.1 dL_runScript_8 (by decide) ?_
  refine q_iconst cx dL_runScript_14 ?_
  refine W.widen (k := 0) (n := 0) (by decide) (by decide) ?_
  refine q_iret cx hr hlk hB dL_runScript_15 ⟨by decide, by decide⟩ ?_
  exact ⟨rfl, z40⟩
set_option maxHeartbeats 4000000 in
set_option maxRecDepth 100000 in
theorem w_settinga (l : Launch) (g : q_G) {K : Nat → Nat} {L : List Nat} (hN : L.Nodup) {f : Nat → va_E} (hT : q_Ty g K L f) (hfl : l.stackTraces = false) (x : Nat) (hx : x ∈ L) (kx : K x = 11) (a0 : Int) (la0 : (-2147483648) ≤ a0) (ua0 : a0 ≤ (-1)) (out : Nat) (hout : out ∈ L) (kout : K out = 168) (src : Nat) (hsrc : src ∈ L) (ksrc : K src = 8) (rdr : Nat) (hrdr : rdr ∈ L) (krdr : K rdr = 9) (scr : Nat) (hscr : scr ∈ L) (kscr : K scr = 7) (fc : Nat) (hfc : fc ∈ L) (kfc : K fc = 1) (hist : Nat) (hhist : hist ∈ L) (khist : K hist = 2) (rep : Nat) (hrep : rep ∈ L) (krep : K rep = 6) (now : Nat) (hnow : now ∈ L) (know : K now = 10) (dr : Nat) (hdr : dr ∈ L) (kdr : K dr = 13) (sv : Nat) (hsv : sv ∈ L) (ksv : K sv = 14) (tr : Nat) (htr : tr ∈ L) (ktr : K tr = 15) (hf0 : q_z f x 9 = 0) (hf1 : q_z f src 1 = 0) (hf2 : q_z f src 2 = 0) (hf3 : q_z f src 3 = (-1)) (hf4 : q_z f hist 1 = 0) (hf5 : q_z f hist 2 = 0) (hf6 : q_z f rep 1 = 0) (hf7 : q_z f now 3 = 0) (hf8 : q_z f now 4 = 0) (hf9 : q_z f now 5 = 0) (hf10 : q_z f now 6 = 12) (hf11 : q_z f now 10 = 3) (hf12 : q_z f now 11 = 0) (hf13 : q_z f now 12 = 0) (hr0 : q_r f x 0 = src) (hr1 : q_r f x 1 = rdr) (hr2 : q_r f x 2 = scr) (hr3 : q_r f x 3 = fc) (hr4 : q_r f x 4 = hist) (hr5 : q_r f x 5 = rep) (hr6 : q_r f x 6 = now) (hr7 : q_r f x 7 = dr) (hr8 : q_r f x 8 = sv) (hr9 : q_r f fc 0 = tr) : q_Wt l g K L yL_setting cL_setting 4 (some .int) [(0, 9, 12, 19)] 7 103 1 6 [.ref x, .int (q_i a0), .ref out] f [] (q_Pi (fun (z : Int) (f1 : Nat → va_E) => z = 1)) := by
  refine q_wofb (by decide +kernel) hN hT (Nat.le_of_ble_eq_true rfl) ?_
  intro p e s m below meth c ls cx hr hlk htab hX hB hl
  have hl : lv_has ls 4 [(0, .ref x), (1, .int (q_i a0)), (2, .ref out)] := hl
  obtain ⟨H, hH⟩ : ∃ H : Heap, H = s.heap := ⟨_, rfl⟩
  obtain ⟨locs, hlocs⟩ : ∃ z : List Loc, z = [] := ⟨_, rfl⟩
  rw [← hH, ← hlocs] at hB
  rw [← hH, ← hlocs]
  refine q_ald_n cx dL_setting_0 rfl (lv_at hl 2 rfl) ?_
  refine q_iconst cx dL_setting_1 ?_
  refine q_ald_n cx dL_setting_2 rfl (lv_at hl 0 rfl) ?_
  refine q_ild_n cx dL_setting_3 rfl (lv_at hl 1 rfl) ?_
  refine q_cXV (As := [.int (q_i a0)]) (rest := [.int (q_i 0), .ref out]) cx hX hB (fun _ h => h) (fun _ h _ => h) hN hx kx (by decide) rfl (x_settinga l g hN hB.2.1 hfl x hx kx a0 (by omega) (by omega) src hsrc ksrc rdr hrdr krdr scr hscr kscr fc hfc kfc hist hhist khist rep hrep krep now hnow know dr hdr kdr sv hsv ksv tr htr ktr hf0 hf1 hf2 hf3 hf4 hf5 hf6 hf7 hf8 hf9 hf10 hf11 hf12 hf13 hr0 hr1 hr2 hr3 hr4 hr5 hr6 hr7 hr8 hr9) q_cL_28 q_dX11_setting (by decide) rfl rfl hl.1 rfl (Nat.le_of_ble_eq_true rfl) dL_setting_4 (fun E9 ce9 q9 H locs f8 hex hF hB hcell hcv hcl => ?_) (fun v9 H locs f5 h7 hF hB => ?_)
  · rcases hex with ⟨rfl, rfl⟩
    · refine vx_catch (E := "java/lang/IllegalArgumentException") (name := "java/lang/IllegalArgumentException") cx.2.2.2.1 [] ⟨0, 9, 12, 19⟩ [] (htab.trans rfl) (q_pnil) (by decide) (by decide) (cx.2.2.2.2 _ q_h875) (va_Nw.use rfl (hX.2.2.2.1 (.castable "java/lang/IllegalArgumentException" "java/lang/IllegalArgumentException") (by decide +kernel))) hcell hcv hcl ?_
      refine lv_astore_n (lv' := [(3, .ref q9), (0, .ref x), (1, .int (q_i a0)), (2, .ref out)]) cx.1 cx.2.1 dL_setting_12 rfl hl (by decide) rfl (fun ls hl => ?_)
      refine q_iconst cx dL_setting_13 ?_
      refine W.widen (k := 1) (n := 6) (by decide) (by decide) ?_
      refine q_iret cx hr hlk hB dL_setting_14 ⟨by decide, by decide⟩ ?_
      exact rfl
  · obtain ⟨y6, rfl, ry6, h7⟩ := h7
    exact h7.elim
set_option maxHeartbeats 4000000 in
set_option maxRecDepth 100000 in
theorem w_settingb (l : Launch) (g : q_G) {K : Nat → Nat} {L : List Nat} (hN : L.Nodup) {f : Nat → va_E} (hT : q_Ty g K L f) (hfl : l.stackTraces = false) (x : Nat) (hx : x ∈ L) (kx : K x = 11) (a0 : Int) (la0 : 0 ≤ a0) (ua0 : a0 ≤ 1) (out : Nat) (hout : out ∈ L) (kout : K out = 168) (src : Nat) (hsrc : src ∈ L) (ksrc : K src = 8) (rdr : Nat) (hrdr : rdr ∈ L) (krdr : K rdr = 9) (scr : Nat) (hscr : scr ∈ L) (kscr : K scr = 7) (fc : Nat) (hfc : fc ∈ L) (kfc : K fc = 1) (hist : Nat) (hhist : hist ∈ L) (khist : K hist = 2) (rep : Nat) (hrep : rep ∈ L) (krep : K rep = 6) (now : Nat) (hnow : now ∈ L) (know : K now = 10) (dr : Nat) (hdr : dr ∈ L) (kdr : K dr = 13) (sv : Nat) (hsv : sv ∈ L) (ksv : K sv = 14) (tr : Nat) (htr : tr ∈ L) (ktr : K tr = 15) (hf0 : q_z f x 9 = 0) (hf1 : q_z f src 1 = 0) (hf2 : q_z f src 2 = 0) (hf3 : q_z f src 3 = (-1)) (hf4 : q_z f hist 1 = 0) (hf5 : q_z f hist 2 = 0) (hf6 : q_z f rep 1 = 0) (hf7 : q_z f now 3 = 0) (hf8 : q_z f now 4 = 0) (hf9 : q_z f now 5 = 0) (hf10 : q_z f now 6 = 12) (hf11 : q_z f now 10 = 3) (hf12 : q_z f now 11 = 0) (hf13 : q_z f now 12 = 0) (hr0 : q_r f x 0 = src) (hr1 : q_r f x 1 = rdr) (hr2 : q_r f x 2 = scr) (hr3 : q_r f x 3 = fc) (hr4 : q_r f x 4 = hist) (hr5 : q_r f x 5 = rep) (hr6 : q_r f x 6 = now) (hr7 : q_r f x 7 = dr) (hr8 : q_r f x 8 = sv) (hr9 : q_r f fc 0 = tr) : q_Wt l g K L yL_setting cL_setting 4 (some .int) [(0, 9, 12, 19)] 2 42 0 0 [.ref x, .int (q_i a0), .ref out] f [(11, 9, 9), (8, 1, 9), (9, 0, 2), (7, 1, 4), (2, 1, 2), (6, 1, 1), (10, 3, 15), (13, 3, 15), (14, 3, 15), (15, 3, 15), (16, 3, 15), (142, 0, 599), (168, 0, 0)] (q_Pi (fun (z : Int) (f1 : Nat → va_E) => z = 0 ∧ q_j f1 out 0 = (q_l 0))) := by
  refine q_wofb (by decide +kernel) hN hT (Nat.le_of_ble_eq_true rfl) ?_
  intro p e s m below meth c ls cx hr hlk htab hX hB hl
  have hl : lv_has ls 4 [(0, .ref x), (1, .int (q_i a0)), (2, .ref out)] := hl
  obtain ⟨H, hH⟩ : ∃ H : Heap, H = s.heap := ⟨_, rfl⟩
  obtain ⟨locs, hlocs⟩ : ∃ z : List Loc, z = [] := ⟨_, rfl⟩
  rw [← hH, ← hlocs] at hB
  rw [← hH, ← hlocs]
  refine q_ald_n cx dL_setting_0 rfl (lv_at hl 2 rfl) ?_
  refine q_iconst cx dL_setting_1 ?_
  refine q_ald_n cx dL_setting_2 rfl (lv_at hl 0 rfl) ?_
  refine q_ild_n cx dL_setting_3 rfl (lv_at hl 1 rfl) ?_
  refine q_cVi (As := [.int (q_i a0)]) (rest := [.int (q_i 0), .ref out]) cx hB (fun _ h => h) hN hx kx (by decide) rfl (x_settingb l g hN hB.2.1 x hx kx a0 (by omega) (by omega) src hsrc ksrc rdr hrdr krdr scr hscr kscr fc hfc kfc hist hhist khist rep hrep krep now hnow know dr hdr kdr sv hsv ksv tr htr ktr hf0 hf1 hf2 hf3 hf4 hf5 hf6 hf7 hf8 hf9 hf10 hf11 hf12 hf13 hr0 hr1 hr2 hr3 hr4 hr5 hr6 hr7 hr8 hr9) q_cL_28 q_dX11_setting (by decide) rfl rfl hl.1 rfl (Nat.le_of_ble_eq_true rfl) dL_setting_4 (fun y31 H locs f30 ry31 h32 hF hB => ?_)
  obtain ⟨rfl, qy31⟩ := h32
  subst qy31
  refine q_i2l cx ⟨by decide, by decide⟩ dL_setting_7 ?_
  refine q_last (n := 1) cx hB hout kout (by decide) rfl rfl (by decide) (by decide) (by decide) rfl rfl dL_setting_8 (fun H locs f33 ef33 z34 hB => ?_)
  have z35 : q_z f33 x 9 = 0 := by rw [ef33, q_setz (Or.inr (by decide))]; exact hf0
  have z36 : q_z f33 src 1 = 0 := by rw [ef33, q_setz (Or.inr (by decide))]; exact hf1
  have z37 : q_z f33 src 2 = 0 := by rw [ef33, q_setz (Or.inr (by decide))]; exact hf2
  have z38 : q_z f33 src 3 = (-1) := by rw [ef33, q_setz (Or.inr (by decide))]; exact hf3
  have z39 : q_z f33 hist 1 = 0 := by rw [ef33, q_setz (Or.inr (by decide))]; exact hf4
  have z40 : q_z f33 hist 2 = 0 := by rw [ef33, q_setz (Or.inr (by decide))]; exact hf5
  have z41 : q_z f33 rep 1 = 0 := by rw [ef33, q_setz (Or.inr (by decide))]; exact hf6
  have z42 : q_z f33 now 3 = 0 := by rw [ef33, q_setz (Or.inr (by decide))]; exact hf7
  have z43 : q_z f33 now 4 = 0 := by rw [ef33, q_setz (Or.inr (by decide))]; exact hf8
  have z44 : q_z f33 now 5 = 0 := by rw [ef33, q_setz (Or.inr (by decide))]; exact hf9
  have z45 : q_z f33 now 6 = 12 := by rw [ef33, q_setz (Or.inr (by decide))]; exact hf10
  have z46 : q_z f33 now 10 = 3 := by rw [ef33, q_setz (Or.inr (by decide))]; exact hf11
  have z47 : q_z f33 now 11 = 0 := by rw [ef33, q_setz (Or.inr (by decide))]; exact hf12
  have z48 : q_z f33 now 12 = 0 := by rw [ef33, q_setz (Or.inr (by decide))]; exact hf13
  have z49 : q_r f33 x 0 = src := by rw [ef33, q_setr (Or.inl (fun q => by rw [q, kout] at kx; exact absurd kx (by decide)))]; exact hr0
  have z50 : q_r f33 x 1 = rdr := by rw [ef33, q_setr (Or.inr (by decide))]; exact hr1
  have z51 : q_r f33 x 2 = scr := by rw [ef33, q_setr (Or.inr (by decide))]; exact hr2
  have z52 : q_r f33 x 3 = fc := by rw [ef33, q_setr (Or.inr (by decide))]; exact hr3
  have z53 : q_r f33 x 4 = hist := by rw [ef33, q_setr (Or.inr (by decide))]; exact hr4
  have z54 : q_r f33 x 5 = rep := by rw [ef33, q_setr (Or.inr (by decide))]; exact hr5
  have z55 : q_r f33 x 6 = now := by rw [ef33, q_setr (Or.inr (by decide))]; exact hr6
  have z56 : q_r f33 x 7 = dr := by rw [ef33, q_setr (Or.inr (by decide))]; exact hr7
  have z57 : q_r f33 x 8 = sv := by rw [ef33, q_setr (Or.inr (by decide))]; exact hr8
  have z58 : q_r f33 fc 0 = tr := by rw [ef33, q_setr (Or.inl (fun q => by rw [q, kout] at kfc; exact absurd kfc (by decide)))]; exact hr9
  refine lv_goto (tgt := 15) cx.1 cx.2.1 dL_setting_9 (by decide) ?_
  refine q_iconst cx dL_setting_15 ?_
  refine W.widen (k := 0) (n := 0) (by decide) (by decide) ?_
  refine q_iret cx hr hlk hB dL_setting_16 ⟨by decide, by decide⟩ ?_
  exact ⟨rfl, z34⟩
set_option maxHeartbeats 4000000 in
set_option maxRecDepth 100000 in
theorem w_settingc (l : Launch) (g : q_G) {K : Nat → Nat} {L : List Nat} (hN : L.Nodup) {f : Nat → va_E} (hT : q_Ty g K L f) (hfl : l.stackTraces = false) (x : Nat) (hx : x ∈ L) (kx : K x = 11) (a0 : Int) (la0 : 2 ≤ a0) (ua0 : a0 ≤ 2) (out : Nat) (hout : out ∈ L) (kout : K out = 168) (src : Nat) (hsrc : src ∈ L) (ksrc : K src = 8) (rdr : Nat) (hrdr : rdr ∈ L) (krdr : K rdr = 9) (scr : Nat) (hscr : scr ∈ L) (kscr : K scr = 7) (fc : Nat) (hfc : fc ∈ L) (kfc : K fc = 1) (hist : Nat) (hhist : hist ∈ L) (khist : K hist = 2) (rep : Nat) (hrep : rep ∈ L) (krep : K rep = 6) (now : Nat) (hnow : now ∈ L) (know : K now = 10) (dr : Nat) (hdr : dr ∈ L) (kdr : K dr = 13) (sv : Nat) (hsv : sv ∈ L) (ksv : K sv = 14) (tr : Nat) (htr : tr ∈ L) (ktr : K tr = 15) (hf0 : q_z f x 9 = 0) (hf1 : q_z f src 1 = 0) (hf2 : q_z f src 2 = 0) (hf3 : q_z f src 3 = (-1)) (hf4 : q_z f hist 1 = 0) (hf5 : q_z f hist 2 = 0) (hf6 : q_z f rep 1 = 0) (hf7 : q_z f now 3 = 0) (hf8 : q_z f now 4 = 0) (hf9 : q_z f now 5 = 0) (hf10 : q_z f now 6 = 12) (hf11 : q_z f now 10 = 3) (hf12 : q_z f now 11 = 0) (hf13 : q_z f now 12 = 0) (hr0 : q_r f x 0 = src) (hr1 : q_r f x 1 = rdr) (hr2 : q_r f x 2 = scr) (hr3 : q_r f x 3 = fc) (hr4 : q_r f x 4 = hist) (hr5 : q_r f x 5 = rep) (hr6 : q_r f x 6 = now) (hr7 : q_r f x 7 = dr) (hr8 : q_r f x 8 = sv) (hr9 : q_r f fc 0 = tr) : q_Wt l g K L yL_setting cL_setting 4 (some .int) [(0, 9, 12, 19)] 2 42 0 0 [.ref x, .int (q_i a0), .ref out] f [(11, 9, 9), (8, 1, 9), (9, 0, 2), (7, 1, 4), (2, 1, 2), (6, 1, 1), (10, 3, 15), (13, 3, 15), (14, 3, 15), (15, 3, 15), (16, 3, 15), (142, 0, 599), (168, 0, 0)] (q_Pi (fun (z : Int) (f1 : Nat → va_E) => z = 0 ∧ q_j f1 out 0 = (q_l 12))) := by
  obtain rfl : a0 = 2 := by omega
  refine q_wofb (by decide +kernel) hN hT (Nat.le_of_ble_eq_true rfl) ?_
  intro p e s m below meth c ls cx hr hlk htab hX hB hl
  have hl : lv_has ls 4 [(0, .ref x), (1, .int (q_i 2)), (2, .ref out)] := hl
  obtain ⟨H, hH⟩ : ∃ H : Heap, H = s.heap := ⟨_, rfl⟩
  obtain ⟨locs, hlocs⟩ : ∃ z : List Loc, z = [] := ⟨_, rfl⟩
  rw [← hH, ← hlocs] at hB
  rw [← hH, ← hlocs]
  refine q_ald_n cx dL_setting_0 rfl (lv_at hl 2 rfl) ?_
  refine q_iconst cx dL_setting_1 ?_
  refine q_ald_n cx dL_setting_2 rfl (lv_at hl 0 rfl) ?_
  refine q_ild_n cx dL_setting_3 rfl (lv_at hl 1 rfl) ?_
  refine q_cVi (As := [.int (q_i 2)]) (rest := [.int (q_i 0), .ref out]) cx hB (fun _ h => h) hN hx kx (by decide) rfl (x_settingc l g hN hB.2.1 x hx kx 2 (by decide) (by decide) src hsrc ksrc rdr hrdr krdr scr hscr kscr fc hfc kfc hist hhist khist rep hrep krep now hnow know dr hdr kdr sv hsv ksv tr htr ktr hf0 hf1 hf2 hf3 hf4 hf5 hf6 hf7 hf8 hf9 hf10 hf11 hf12 hf13 hr0 hr1 hr2 hr3 hr4 hr5 hr6 hr7 hr8 hr9) q_cL_28 q_dX11_setting (by decide) rfl rfl hl.1 rfl (Nat.le_of_ble_eq_true rfl) dL_setting_4 (fun y31 H locs f30 ry31 h32 hF hB => ?_)
  obtain ⟨rfl, qy31⟩ := h32
  subst qy31
  refine q_i2l cx ⟨by decide, by decide⟩ dL_setting_7 ?_
  refine q_last (n := 1) cx hB hout kout (by decide) rfl rfl (by decide) (by decide) (by decide) rfl rfl dL_setting_8 (fun H locs f33 ef33 z34 hB => ?_)
  have z35 : q_z f33 x 9 = 0 := by rw [ef33, q_setz (Or.inr (by decide))]; exact hf0
  have z36 : q_z f33 src 1 = 0 := by rw [ef33, q_setz (Or.inr (by decide))]; exact hf1
  have z37 : q_z f33 src 2 = 0 := by rw [ef33, q_setz (Or.inr (by decide))]; exact hf2
  have z38 : q_z f33 src 3 = (-1) := by rw [ef33, q_setz (Or.inr (by decide))]; exact hf3
  have z39 : q_z f33 hist 1 = 0 := by rw [ef33, q_setz (Or.inr (by decide))]; exact hf4
  have z40 : q_z f33 hist 2 = 0 := by rw [ef33, q_setz (Or.inr (by decide))]; exact hf5
  have z41 : q_z f33 rep 1 = 0 := by rw [ef33, q_setz (Or.inr (by decide))]; exact hf6
  have z42 : q_z f33 now 3 = 0 := by rw [ef33, q_setz (Or.inr (by decide))]; exact hf7
  have z43 : q_z f33 now 4 = 0 := by rw [ef33, q_setz (Or.inr (by decide))]; exact hf8
  have z44 : q_z f33 now 5 = 0 := by rw [ef33, q_setz (Or.inr (by decide))]; exact hf9
  have z45 : q_z f33 now 6 = 12 := by rw [ef33, q_setz (Or.inr (by decide))]; exact hf10
  have z46 : q_z f33 now 10 = 3 := by rw [ef33, q_setz (Or.inr (by decide))]; exact hf11
  have z47 : q_z f33 now 11 = 0 := by rw [ef33, q_setz (Or.inr (by decide))]; exact hf12
  have z48 : q_z f33 now 12 = 0 := by rw [ef33, q_setz (Or.inr (by decide))]; exact hf13
  have z49 : q_r f33 x 0 = src := by rw [ef33, q_setr (Or.inl (fun q => by rw [q, kout] at kx; exact absurd kx (by decide)))]; exact hr0
  have z50 : q_r f33 x 1 = rdr := by rw [ef33, q_setr (Or.inr (by decide))]; exact hr1
  have z51 : q_r f33 x 2 = scr := by rw [ef33, q_setr (Or.inr (by decide))]; exact hr2
  have z52 : q_r f33 x 3 = fc := by rw [ef33, q_setr (Or.inr (by decide))]; exact hr3
  have z53 : q_r f33 x 4 = hist := by rw [ef33, q_setr (Or.inr (by decide))]; exact hr4
  have z54 : q_r f33 x 5 = rep := by rw [ef33, q_setr (Or.inr (by decide))]; exact hr5
  have z55 : q_r f33 x 6 = now := by rw [ef33, q_setr (Or.inr (by decide))]; exact hr6
  have z56 : q_r f33 x 7 = dr := by rw [ef33, q_setr (Or.inr (by decide))]; exact hr7
  have z57 : q_r f33 x 8 = sv := by rw [ef33, q_setr (Or.inr (by decide))]; exact hr8
  have z58 : q_r f33 fc 0 = tr := by rw [ef33, q_setr (Or.inl (fun q => by rw [q, kout] at kfc; exact absurd kfc (by decide)))]; exact hr9
  refine lv_goto (tgt := 15) cx.1 cx.2.1 dL_setting_9 (by decide) ?_
  refine q_iconst cx dL_setting_15 ?_
  refine W.widen (k := 0) (n := 0) (by decide) (by decide) ?_
  refine q_iret cx hr hlk hB dL_setting_16 ⟨by decide, by decide⟩ ?_
  exact ⟨rfl, z34⟩
set_option maxHeartbeats 4000000 in
set_option maxRecDepth 100000 in
theorem w_settingd (l : Launch) (g : q_G) {K : Nat → Nat} {L : List Nat} (hN : L.Nodup) {f : Nat → va_E} (hT : q_Ty g K L f) (hfl : l.stackTraces = false) (x : Nat) (hx : x ∈ L) (kx : K x = 11) (a0 : Int) (la0 : 3 ≤ a0) (ua0 : a0 ≤ 9) (out : Nat) (hout : out ∈ L) (kout : K out = 168) (src : Nat) (hsrc : src ∈ L) (ksrc : K src = 8) (rdr : Nat) (hrdr : rdr ∈ L) (krdr : K rdr = 9) (scr : Nat) (hscr : scr ∈ L) (kscr : K scr = 7) (fc : Nat) (hfc : fc ∈ L) (kfc : K fc = 1) (hist : Nat) (hhist : hist ∈ L) (khist : K hist = 2) (rep : Nat) (hrep : rep ∈ L) (krep : K rep = 6) (now : Nat) (hnow : now ∈ L) (know : K now = 10) (dr : Nat) (hdr : dr ∈ L) (kdr : K dr = 13) (sv : Nat) (hsv : sv ∈ L) (ksv : K sv = 14) (tr : Nat) (htr : tr ∈ L) (ktr : K tr = 15) (hf0 : q_z f x 9 = 0) (hf1 : q_z f src 1 = 0) (hf2 : q_z f src 2 = 0) (hf3 : q_z f src 3 = (-1)) (hf4 : q_z f hist 1 = 0) (hf5 : q_z f hist 2 = 0) (hf6 : q_z f rep 1 = 0) (hf7 : q_z f now 3 = 0) (hf8 : q_z f now 4 = 0) (hf9 : q_z f now 5 = 0) (hf10 : q_z f now 6 = 12) (hf11 : q_z f now 10 = 3) (hf12 : q_z f now 11 = 0) (hf13 : q_z f now 12 = 0) (hr0 : q_r f x 0 = src) (hr1 : q_r f x 1 = rdr) (hr2 : q_r f x 2 = scr) (hr3 : q_r f x 3 = fc) (hr4 : q_r f x 4 = hist) (hr5 : q_r f x 5 = rep) (hr6 : q_r f x 6 = now) (hr7 : q_r f x 7 = dr) (hr8 : q_r f x 8 = sv) (hr9 : q_r f fc 0 = tr) : q_Wt l g K L yL_setting cL_setting 4 (some .int) [(0, 9, 12, 19)] 3 65 0 0 [.ref x, .int (q_i a0), .ref out] f [(11, 9, 9), (8, 1, 9), (9, 0, 2), (7, 1, 4), (2, 1, 2), (6, 1, 1), (10, 3, 15), (13, 3, 15), (14, 3, 15), (15, 3, 15), (16, 3, 15), (142, 0, 599), (168, 0, 0)] (q_Pi (fun (z : Int) (f1 : Nat → va_E) => z = 0 ∧ q_j f1 out 0 = (q_l 0))) := by
  refine q_wofb (by decide +kernel) hN hT (Nat.le_of_ble_eq_true rfl) ?_
  intro p e s m below meth c ls cx hr hlk htab hX hB hl
  have hl : lv_has ls 4 [(0, .ref x), (1, .int (q_i a0)), (2, .ref out)] := hl
  obtain ⟨H, hH⟩ : ∃ H : Heap, H = s.heap := ⟨_, rfl⟩
  obtain ⟨locs, hlocs⟩ : ∃ z : List Loc, z = [] := ⟨_, rfl⟩
  rw [← hH, ← hlocs] at hB
  rw [← hH, ← hlocs]
  refine q_ald_n cx dL_setting_0 rfl (lv_at hl 2 rfl) ?_
  refine q_iconst cx dL_setting_1 ?_
  refine q_ald_n cx dL_setting_2 rfl (lv_at hl 0 rfl) ?_
  refine q_ild_n cx dL_setting_3 rfl (lv_at hl 1 rfl) ?_
  refine q_cVi (As := [.int (q_i a0)]) (rest := [.int (q_i 0), .ref out]) cx hB (fun _ h => h) hN hx kx (by decide) rfl (x_settingd l g hN hB.2.1 x hx kx a0 (by omega) (by omega) src hsrc ksrc rdr hrdr krdr scr hscr kscr fc hfc kfc hist hhist khist rep hrep krep now hnow know dr hdr kdr sv hsv ksv tr htr ktr hf0 hf1 hf2 hf3 hf4 hf5 hf6 hf7 hf8 hf9 hf10 hf11 hf12 hf13 hr0 hr1 hr2 hr3 hr4 hr5 hr6 hr7 hr8 hr9) q_cL_28 q_dX11_setting (by decide) rfl rfl hl.1 rfl (Nat.le_of_ble_eq_true rfl) dL_setting_4 (fun y31 H locs f30 ry31 h32 hF hB => ?_)
  obtain ⟨rfl, qy31⟩ := h32
  subst qy31
  refine q_i2l cx ⟨by decide, by decide⟩ dL_setting_7 ?_
  refine q_last (n := 1) cx hB hout kout (by decide) rfl rfl (by decide) (by decide) (by decide) rfl rfl dL_setting_8 (fun H locs f33 ef33 z34 hB => ?_)
  have z35 : q_z f33 x 9 = 0 := by rw [ef33, q_setz (Or.inr (by decide))]; exact hf0
  have z36 : q_z f33 src 1 = 0 := by rw [ef33, q_setz (Or.inr (by decide))]; exact hf1
  have z37 : q_z f33 src 2 = 0 := by rw [ef33, q_setz (Or.inr (by decide))]; exact hf2
  have z38 : q_z f33 src 3 = (-1) := by rw [ef33, q_setz (Or.inr (by decide))]; exact hf3
  have z39 : q_z f33 hist 1 = 0 := by rw [ef33, q_setz (Or.inr (by decide))]; exact hf4
  have z40 : q_z f33 hist 2 = 0 := by rw [ef33, q_setz (Or.inr (by decide))]; exact hf5
  have z41 : q_z f33 rep 1 = 0 := by rw [ef33, q_setz (Or.inr (by decide))]; exact hf6
  have z42 : q_z f33 now 3 = 0 := by rw [ef33, q_setz (Or.inr (by decide))]; exact hf7
  have z43 : q_z f33 now 4 = 0 := by rw [ef33, q_setz (Or.inr (by decide))]; exact hf8
  have z44 : q_z f33 now 5 = 0 := by rw [ef33, q_setz (Or.inr (by decide))]; exact hf9
  have z45 : q_z f33 now 6 = 12 := by rw [ef33, q_setz (Or.inr (by decide))]; exact hf10
  have z46 : q_z f33 now 10 = 3 := by rw [ef33, q_setz (Or.inr (by decide))]; exact hf11
  have z47 : q_z f33 now 11 = 0 := by rw [ef33, q_setz (Or.inr (by decide))]; exact hf12
  have z48 : q_z f33 now 12 = 0 := by rw [ef33, q_setz (Or.inr (by decide))]; exact hf13
  have z49 : q_r f33 x 0 = src := by rw [ef33, q_setr (Or.inl (fun q => by rw [q, kout] at kx; exact absurd kx (by decide)))]; exact hr0
  have z50 : q_r f33 x 1 = rdr := by rw [ef33, q_setr (Or.inr (by decide))]; exact hr1
  have z51 : q_r f33 x 2 = scr := by rw [ef33, q_setr (Or.inr (by decide))]; exact hr2
  have z52 : q_r f33 x 3 = fc := by rw [ef33, q_setr (Or.inr (by decide))]; exact hr3
  have z53 : q_r f33 x 4 = hist := by rw [ef33, q_setr (Or.inr (by decide))]; exact hr4
  have z54 : q_r f33 x 5 = rep := by rw [ef33, q_setr (Or.inr (by decide))]; exact hr5
  have z55 : q_r f33 x 6 = now := by rw [ef33, q_setr (Or.inr (by decide))]; exact hr6
  have z56 : q_r f33 x 7 = dr := by rw [ef33, q_setr (Or.inr (by decide))]; exact hr7
  have z57 : q_r f33 x 8 = sv := by rw [ef33, q_setr (Or.inr (by decide))]; exact hr8
  have z58 : q_r f33 fc 0 = tr := by rw [ef33, q_setr (Or.inl (fun q => by rw [q, kout] at kfc; exact absurd kfc (by decide)))]; exact hr9
  refine lv_goto (tgt := 15) cx.1 cx.2.1 dL_setting_9 (by decide) ?_
  refine q_iconst cx dL_setting_15 ?_
  refine W.widen (k := 0) (n := 0) (by decide) (by decide) ?_
  refine q_iret cx hr hlk hB dL_setting_16 ⟨by decide, by decide⟩ ?_
  exact ⟨rfl, z34⟩
set_option maxHeartbeats 4000000 in
set_option maxRecDepth 100000 in
theorem w_settinge (l : Launch) (g : q_G) {K : Nat → Nat} {L : List Nat} (hN : L.Nodup) {f : Nat → va_E} (hT : q_Ty g K L f) (hfl : l.stackTraces = false) (x : Nat) (hx : x ∈ L) (kx : K x = 11) (a0 : Int) (la0 : 10 ≤ a0) (ua0 : a0 ≤ 10) (out : Nat) (hout : out ∈ L) (kout : K out = 168) (src : Nat) (hsrc : src ∈ L) (ksrc : K src = 8) (rdr : Nat) (hrdr : rdr ∈ L) (krdr : K rdr = 9) (scr : Nat) (hscr : scr ∈ L) (kscr : K scr = 7) (fc : Nat) (hfc : fc ∈ L) (kfc : K fc = 1) (hist : Nat) (hhist : hist ∈ L) (khist : K hist = 2) (rep : Nat) (hrep : rep ∈ L) (krep : K rep = 6) (now : Nat) (hnow : now ∈ L) (know : K now = 10) (dr : Nat) (hdr : dr ∈ L) (kdr : K dr = 13) (sv : Nat) (hsv : sv ∈ L) (ksv : K sv = 14) (tr : Nat) (htr : tr ∈ L) (ktr : K tr = 15) (hf0 : q_z f x 9 = 0) (hf1 : q_z f src 1 = 0) (hf2 : q_z f src 2 = 0) (hf3 : q_z f src 3 = (-1)) (hf4 : q_z f hist 1 = 0) (hf5 : q_z f hist 2 = 0) (hf6 : q_z f rep 1 = 0) (hf7 : q_z f now 3 = 0) (hf8 : q_z f now 4 = 0) (hf9 : q_z f now 5 = 0) (hf10 : q_z f now 6 = 12) (hf11 : q_z f now 10 = 3) (hf12 : q_z f now 11 = 0) (hf13 : q_z f now 12 = 0) (hr0 : q_r f x 0 = src) (hr1 : q_r f x 1 = rdr) (hr2 : q_r f x 2 = scr) (hr3 : q_r f x 3 = fc) (hr4 : q_r f x 4 = hist) (hr5 : q_r f x 5 = rep) (hr6 : q_r f x 6 = now) (hr7 : q_r f x 7 = dr) (hr8 : q_r f x 8 = sv) (hr9 : q_r f fc 0 = tr) : q_Wt l g K L yL_setting cL_setting 4 (some .int) [(0, 9, 12, 19)] 1 21 0 0 [.ref x, .int (q_i a0), .ref out] f [(11, 9, 9), (8, 1, 9), (9, 0, 2), (7, 1, 4), (2, 1, 2), (6, 1, 1), (10, 3, 15), (13, 3, 15), (14, 3, 15), (15, 3, 15), (16, 3, 15), (142, 0, 599), (168, 0, 0)] (q_Pi (fun (z : Int) (f1 : Nat → va_E) => z = 0 ∧ q_j f1 out 0 = (q_l 0))) := by
  obtain rfl : a0 = 10 := by omega
  refine q_wofb (by decide +kernel) hN hT (Nat.le_of_ble_eq_true rfl) ?_
  intro p e s m below meth c ls cx hr hlk htab hX hB hl
  have hl : lv_has ls 4 [(0, .ref x), (1, .int (q_i 10)), (2, .ref out)] := hl
  obtain ⟨H, hH⟩ : ∃ H : Heap, H = s.heap := ⟨_, rfl⟩
  obtain ⟨locs, hlocs⟩ : ∃ z : List Loc, z = [] := ⟨_, rfl⟩
  rw [← hH, ← hlocs] at hB
  rw [← hH, ← hlocs]
  refine q_ald_n cx dL_setting_0 rfl (lv_at hl 2 rfl) ?_
  refine q_iconst cx dL_setting_1 ?_
  refine q_ald_n cx dL_setting_2 rfl (lv_at hl 0 rfl) ?_
  refine q_ild_n cx dL_setting_3 rfl (lv_at hl 1 rfl) ?_
  refine q_cVi (As := [.int (q_i 10)]) (rest := [.int (q_i 0), .ref out]) cx hB (fun _ h => h) hN hx kx (by decide) rfl (x_settinge l g hN hB.2.1 x hx kx 10 (by decide) (by decide) src hsrc ksrc rdr hrdr krdr scr hscr kscr fc hfc kfc hist hhist khist rep hrep krep now hnow know dr hdr kdr sv hsv ksv tr htr ktr hf0 hf1 hf2 hf3 hf4 hf5 hf6 hf7 hf8 hf9 hf10 hf11 hf12 hf13 hr0 hr1 hr2 hr3 hr4 hr5 hr6 hr7 hr8 hr9) q_cL_28 q_dX11_setting (by decide) rfl rfl hl.1 rfl (Nat.le_of_ble_eq_true rfl) dL_setting_4 (fun y31 H locs f30 ry31 h32 hF hB => ?_)
  obtain ⟨rfl, qy31⟩ := h32
  subst qy31
  refine q_i2l cx ⟨by decide, by decide⟩ dL_setting_7 ?_
  refine q_last (n := 1) cx hB hout kout (by decide) rfl rfl (by decide) (by decide) (by decide) rfl rfl dL_setting_8 (fun H locs f33 ef33 z34 hB => ?_)
  have z35 : q_z f33 x 9 = 0 := by rw [ef33, q_setz (Or.inr (by decide))]; exact hf0
  have z36 : q_z f33 src 1 = 0 := by rw [ef33, q_setz (Or.inr (by decide))]; exact hf1
  have z37 : q_z f33 src 2 = 0 := by rw [ef33, q_setz (Or.inr (by decide))]; exact hf2
  have z38 : q_z f33 src 3 = (-1) := by rw [ef33, q_setz (Or.inr (by decide))]; exact hf3
  have z39 : q_z f33 hist 1 = 0 := by rw [ef33, q_setz (Or.inr (by decide))]; exact hf4
  have z40 : q_z f33 hist 2 = 0 := by rw [ef33, q_setz (Or.inr (by decide))]; exact hf5
  have z41 : q_z f33 rep 1 = 0 := by rw [ef33, q_setz (Or.inr (by decide))]; exact hf6
  have z42 : q_z f33 now 3 = 0 := by rw [ef33, q_setz (Or.inr (by decide))]; exact hf7
  have z43 : q_z f33 now 4 = 0 := by rw [ef33, q_setz (Or.inr (by decide))]; exact hf8
  have z44 : q_z f33 now 5 = 0 := by rw [ef33, q_setz (Or.inr (by decide))]; exact hf9
  have z45 : q_z f33 now 6 = 12 := by rw [ef33, q_setz (Or.inr (by decide))]; exact hf10
  have z46 : q_z f33 now 10 = 3 := by rw [ef33, q_setz (Or.inr (by decide))]; exact hf11
  have z47 : q_z f33 now 11 = 0 := by rw [ef33, q_setz (Or.inr (by decide))]; exact hf12
  have z48 : q_z f33 now 12 = 0 := by rw [ef33, q_setz (Or.inr (by decide))]; exact hf13
  have z49 : q_r f33 x 0 = src := by rw [ef33, q_setr (Or.inl (fun q => by rw [q, kout] at kx; exact absurd kx (by decide)))]; exact hr0
  have z50 : q_r f33 x 1 = rdr := by rw [ef33, q_setr (Or.inr (by decide))]; exact hr1
  have z51 : q_r f33 x 2 = scr := by rw [ef33, q_setr (Or.inr (by decide))]; exact hr2
  have z52 : q_r f33 x 3 = fc := by rw [ef33, q_setr (Or.inr (by decide))]; exact hr3
  have z53 : q_r f33 x 4 = hist := by rw [ef33, q_setr (Or.inr (by decide))]; exact hr4
  have z54 : q_r f33 x 5 = rep := by rw [ef33, q_setr (Or.inr (by decide))]; exact hr5
  have z55 : q_r f33 x 6 = now := by rw [ef33, q_setr (Or.inr (by decide))]; exact hr6
  have z56 : q_r f33 x 7 = dr := by rw [ef33, q_setr (Or.inr (by decide))]; exact hr7
  have z57 : q_r f33 x 8 = sv := by rw [ef33, q_setr (Or.inr (by decide))]; exact hr8
  have z58 : q_r f33 fc 0 = tr := by rw [ef33, q_setr (Or.inl (fun q => by rw [q, kout] at kfc; exact absurd kfc (by decide)))]; exact hr9
  refine lv_goto (tgt := 15) cx.1 cx.2.1 dL_setting_9 (by decide) ?_
  refine q_iconst cx dL_setting_15 ?_
  refine W.widen (k := 0) (n := 0) (by decide) (by decide) ?_
  refine q_iret cx hr hlk hB dL_setting_16 ⟨by decide, by decide⟩ ?_
  exact ⟨rfl, z34⟩
set_option maxHeartbeats 4000000 in
set_option maxRecDepth 100000 in
theorem w_settingf (l : Launch) (g : q_G) {K : Nat → Nat} {L : List Nat} (hN : L.Nodup) {f : Nat → va_E} (hT : q_Ty g K L f) (hfl : l.stackTraces = false) (x : Nat) (hx : x ∈ L) (kx : K x = 11) (a0 : Int) (la0 : 11 ≤ a0) (ua0 : a0 ≤ 2147483647) (out : Nat) (hout : out ∈ L) (kout : K out = 168) (src : Nat) (hsrc : src ∈ L) (ksrc : K src = 8) (rdr : Nat) (hrdr : rdr ∈ L) (krdr : K rdr = 9) (scr : Nat) (hscr : scr ∈ L) (kscr : K scr = 7) (fc : Nat) (hfc : fc ∈ L) (kfc : K fc = 1) (hist : Nat) (hhist : hist ∈ L) (khist : K hist = 2) (rep : Nat) (hrep : rep ∈ L) (krep : K rep = 6) (now : Nat) (hnow : now ∈ L) (know : K now = 10) (dr : Nat) (hdr : dr ∈ L) (kdr : K dr = 13) (sv : Nat) (hsv : sv ∈ L) (ksv : K sv = 14) (tr : Nat) (htr : tr ∈ L) (ktr : K tr = 15) (hf0 : q_z f x 9 = 0) (hf1 : q_z f src 1 = 0) (hf2 : q_z f src 2 = 0) (hf3 : q_z f src 3 = (-1)) (hf4 : q_z f hist 1 = 0) (hf5 : q_z f hist 2 = 0) (hf6 : q_z f rep 1 = 0) (hf7 : q_z f now 3 = 0) (hf8 : q_z f now 4 = 0) (hf9 : q_z f now 5 = 0) (hf10 : q_z f now 6 = 12) (hf11 : q_z f now 10 = 3) (hf12 : q_z f now 11 = 0) (hf13 : q_z f now 12 = 0) (hr0 : q_r f x 0 = src) (hr1 : q_r f x 1 = rdr) (hr2 : q_r f x 2 = scr) (hr3 : q_r f x 3 = fc) (hr4 : q_r f x 4 = hist) (hr5 : q_r f x 5 = rep) (hr6 : q_r f x 6 = now) (hr7 : q_r f x 7 = dr) (hr8 : q_r f x 8 = sv) (hr9 : q_r f fc 0 = tr) : q_Wt l g K L yL_setting cL_setting 4 (some .int) [(0, 9, 12, 19)] 7 103 1 6 [.ref x, .int (q_i a0), .ref out] f [] (q_Pi (fun (z : Int) (f1 : Nat → va_E) => z = 1)) := by
  refine q_wofb (by decide +kernel) hN hT (Nat.le_of_ble_eq_true rfl) ?_
  intro p e s m below meth c ls cx hr hlk htab hX hB hl
  have hl : lv_has ls 4 [(0, .ref x), (1, .int (q_i a0)), (2, .ref out)] := hl
  obtain ⟨H, hH⟩ : ∃ H : Heap, H = s.heap := ⟨_, rfl⟩
  obtain ⟨locs, hlocs⟩ : ∃ z : List Loc, z = [] := ⟨_, rfl⟩
  rw [← hH, ← hlocs] at hB
  rw [← hH, ← hlocs]
  refine q_ald_n cx dL_setting_0 rfl (lv_at hl 2 rfl) ?_
  refine q_iconst cx dL_setting_1 ?_
  refine q_ald_n cx dL_setting_2 rfl (lv_at hl 0 rfl) ?_
  refine q_ild_n cx dL_setting_3 rfl (lv_at hl 1 rfl) ?_
  refine q_cXV (As := [.int (q_i a0)]) (rest := [.int (q_i 0), .ref out]) cx hX hB (fun _ h => h) (fun _ h _ => h) hN hx kx (by decide) rfl (x_settingf l g hN hB.2.1 hfl x hx kx a0 (by omega) (by omega) src hsrc ksrc rdr hrdr krdr scr hscr kscr fc hfc kfc hist hhist khist rep hrep krep now hnow know dr hdr kdr sv hsv ksv tr htr ktr hf0 hf1 hf2 hf3 hf4 hf5 hf6 hf7 hf8 hf9 hf10 hf11 hf12 hf13 hr0 hr1 hr2 hr3 hr4 hr5 hr6 hr7 hr8 hr9) q_cL_28 q_dX11_setting (by decide) rfl rfl hl.1 rfl (Nat.le_of_ble_eq_true rfl) dL_setting_4 (fun E9 ce9 q9 H locs f8 hex hF hB hcell hcv hcl => ?_) (fun v9 H locs f5 h7 hF hB => ?_)
  · rcases hex with ⟨rfl, rfl⟩
    · refine vx_catch (E := "java/lang/IllegalArgumentException") (name := "java/lang/IllegalArgumentException") cx.2.2.2.1 [] ⟨0, 9, 12, 19⟩ [] (htab.trans rfl) (q_pnil) (by decide) (by decide) (cx.2.2.2.2 _ q_h875) (va_Nw.use rfl (hX.2.2.2.1 (.castable "java/lang/IllegalArgumentException" "java/lang/IllegalArgumentException") (by decide +kernel))) hcell hcv hcl ?_
      refine lv_astore_n (lv' := [(3, .ref q9), (0, .ref x), (1, .int (q_i a0)), (2, .ref out)]) cx.1 cx.2.1 dL_setting_12 rfl hl (by decide) rfl (fun ls hl => ?_)
      refine q_iconst cx dL_setting_13 ?_
      refine W.widen (k := 1) (n := 6) (by decide) (by decide) ?_
      refine q_iret cx hr hlk hB dL_setting_14 ⟨by decide, by decide⟩ ?_
      exact rfl
  · obtain ⟨y6, rfl, ry6, h7⟩ := h7
    exact h7.elim
set_option maxHeartbeats 4000000 in
set_option maxRecDepth 100000 in
theorem w_node (l : Launch) (g : q_G) {K : Nat → Nat} {L : List Nat} (hN : L.Nodup) {f : Nat → va_E} (hT : q_Ty g K L f) (hfl : l.stackTraces = false) (x : Nat) (hx : x ∈ L) (kx : K x = 11) (a0 : Int) (la0 : (-2147483648) ≤ a0) (ua0 : a0 ≤ 2147483647) (b0 : Int) (lb0 : (-2147483648) ≤ b0) (ub0 : b0 ≤ 2147483647) (out : Nat) (hout : out ∈ L) (kout : K out = 168) (src : Nat) (hsrc : src ∈ L) (ksrc : K src = 8) (rdr : Nat) (hrdr : rdr ∈ L) (krdr : K rdr = 9) (scr : Nat) (hscr : scr ∈ L) (kscr : K scr = 7) (fc : Nat) (hfc : fc ∈ L) (kfc : K fc = 1) (hist : Nat) (hhist : hist ∈ L) (khist : K hist = 2) (rep : Nat) (hrep : rep ∈ L) (krep : K rep = 6) (now : Nat) (hnow : now ∈ L) (know : K now = 10) (dr : Nat) (hdr : dr ∈ L) (kdr : K dr = 13) (sv : Nat) (hsv : sv ∈ L) (ksv : K sv = 14) (tr : Nat) (htr : tr ∈ L) (ktr : K tr = 15) (hf0 : q_z f x 9 = 0) (hf1 : q_z f src 1 = 0) (hf2 : q_z f src 2 = 0) (hf3 : q_z f src 3 = (-1)) (hf4 : q_z f hist 1 = 0) (hf5 : q_z f hist 2 = 0) (hf6 : q_z f rep 1 = 0) (hf7 : q_z f now 3 = 0) (hf8 : q_z f now 4 = 0) (hf9 : q_z f now 5 = 0) (hf10 : q_z f now 6 = 12) (hf11 : q_z f now 10 = 3) (hf12 : q_z f now 11 = 0) (hf13 : q_z f now 12 = 0) (hr0 : q_r f x 0 = src) (hr1 : q_r f x 1 = rdr) (hr2 : q_r f x 2 = scr) (hr3 : q_r f x 3 = fc) (hr4 : q_r f x 4 = hist) (hr5 : q_r f x 5 = rep) (hr6 : q_r f x 6 = now) (hr7 : q_r f x 7 = dr) (hr8 : q_r f x 8 = sv) (hr9 : q_r f fc 0 = tr) : q_Wt l g K L yL_node cL_node 5 (some .int) [(0, 10, 13, 35), (0, 10, 17, 19)] 8 125 1 6 [.ref x, .int (q_i a0), .int (q_i b0), .ref out] f [] (q_Pi (fun (z : Int) (f1 : Nat → va_E) => z = 1)) := by
  refine q_wofb (by decide +kernel) hN hT (Nat.le_of_ble_eq_true rfl) ?_
  intro p e s m below meth c ls cx hr hlk htab hX hB hl
  have hl : lv_has ls 5 [(0, .ref x), (1, .int (q_i a0)), (2, .int (q_i b0)), (3, .ref out)] := hl
  obtain ⟨H, hH⟩ : ∃ H : Heap, H = s.heap := ⟨_, rfl⟩
  obtain ⟨locs, hlocs⟩ : ∃ z : List Loc, z = [] := ⟨_, rfl⟩
  rw [← hH, ← hlocs] at hB
  rw [← hH, ← hlocs]
  refine q_ald_n cx dL_node_0 rfl (lv_at hl 3 rfl) ?_
  refine q_iconst cx dL_node_1 ?_
  refine q_ald_n cx dL_node_2 rfl (lv_at hl 0 rfl) ?_
  refine q_ild_n cx dL_node_3 rfl (lv_at hl 1 rfl) ?_
  refine q_ild_n cx dL_node_4 rfl (lv_at hl 2 rfl) ?_
  refine q_cXV (As := [.int (q_i a0), .int (q_i b0)]) (rest := [.int (q_i 0), .ref out]) cx hX hB (fun _ h => h) (fun _ h _ => h) hN hx kx (by decide) rfl (x_node l g hN hB.2.1 hfl x hx kx a0 (by omega) (by omega) b0 (by omega) (by omega) src hsrc ksrc rdr hrdr krdr scr hscr kscr fc hfc kfc hist hhist khist rep hrep krep now hnow know dr hdr kdr sv hsv ksv tr htr ktr hf0 hf1 hf2 hf3 hf4 hf5 hf6 hf7 hf8 hf9 hf10 hf11 hf12 hf13 hr0 hr1 hr2 hr3 hr4 hr5 hr6 hr7 hr8 hr9) q_cL_31 q_dX11_node (by decide) rfl rfl hl.1 rfl (Nat.le_of_ble_eq_true rfl) dL_node_5 (fun E9 ce9 q9 H locs f8 hex hF hB hcell hcv hcl => ?_) (fun v9 H locs f5 h7 hF hB => ?_)
  · rcases hex with ⟨rfl, rfl⟩
    · refine vx_catch (E := "java/lang/IndexOutOfBoundsException") (name := "java/lang/IndexOutOfBoundsException") cx.2.2.2.1 [] ⟨0, 10, 13, 35⟩ [⟨0, 10, 17, 19⟩] (htab.trans rfl) (q_pnil) (by decide) (by decide) (cx.2.2.2.2 _ q_h1225) (va_Nw.use rfl (hX.2.2.2.1 (.castable "java/lang/IndexOutOfBoundsException" "java/lang/IndexOutOfBoundsException") (by decide +kernel))) hcell hcv hcl ?_
      refine lv_astore (lv' := [(4, .ref q9), (0, .ref x), (1, .int (q_i a0)), (2, .int (q_i b0)), (3, .ref out)]) cx.1 cx.2.1 dL_node_13 hl (by decide) rfl (fun ls hl => ?_)
      refine q_iconst cx dL_node_15 ?_
      refine W.widen (k := 1) (n := 6) (by decide) (by decide) ?_
      refine q_iret cx hr hlk hB dL_node_16 ⟨by decide, by decide⟩ ?_
      exact rfl
  · obtain ⟨y6, rfl, ry6, h7⟩ := h7
    exact h7.elim
set_option maxHeartbeats 4000000 in
set_option maxRecDepth 100000 in
theorem w_message (l : Launch) (g : q_G) {K : Nat → Nat} {L : List Nat} (hN : L.Nodup) {f : Nat → va_E} (hT : q_Ty g K L f) (hfl : l.stackTraces = false) (x : Nat) (hx : x ∈ L) (kx : K x = 11) (a0 : Int) (la0 : (-2147483648) ≤ a0) (ua0 : a0 ≤ 2147483647) (b0 : Int) (lb0 : (-2147483648) ≤ b0) (ub0 : b0 ≤ 2147483647) (out : Nat) (hout : out ∈ L) (kout : K out = 168) (src : Nat) (hsrc : src ∈ L) (ksrc : K src = 8) (rdr : Nat) (hrdr : rdr ∈ L) (krdr : K rdr = 9) (scr : Nat) (hscr : scr ∈ L) (kscr : K scr = 7) (fc : Nat) (hfc : fc ∈ L) (kfc : K fc = 1) (hist : Nat) (hhist : hist ∈ L) (khist : K hist = 2) (rep : Nat) (hrep : rep ∈ L) (krep : K rep = 6) (now : Nat) (hnow : now ∈ L) (know : K now = 10) (dr : Nat) (hdr : dr ∈ L) (kdr : K dr = 13) (sv : Nat) (hsv : sv ∈ L) (ksv : K sv = 14) (tr : Nat) (htr : tr ∈ L) (ktr : K tr = 15) (hf0 : q_z f x 9 = 0) (hf1 : q_z f src 1 = 0) (hf2 : q_z f src 2 = 0) (hf3 : q_z f src 3 = (-1)) (hf4 : q_z f hist 1 = 0) (hf5 : q_z f hist 2 = 0) (hf6 : q_z f rep 1 = 0) (hf7 : q_z f now 3 = 0) (hf8 : q_z f now 4 = 0) (hf9 : q_z f now 5 = 0) (hf10 : q_z f now 6 = 12) (hf11 : q_z f now 10 = 3) (hf12 : q_z f now 11 = 0) (hf13 : q_z f now 12 = 0) (hr0 : q_r f x 0 = src) (hr1 : q_r f x 1 = rdr) (hr2 : q_r f x 2 = scr) (hr3 : q_r f x 3 = fc) (hr4 : q_r f x 4 = hist) (hr5 : q_r f x 5 = rep) (hr6 : q_r f x 6 = now) (hr7 : q_r f x 7 = dr) (hr8 : q_r f x 8 = sv) (hr9 : q_r f fc 0 = tr) : q_Wt l g K L yL_message cL_message 5 (some .int) [(0, 10, 13, 35), (0, 10, 17, 19)] 8 125 1 6 [.ref x, .int (q_i a0), .int (q_i b0), .ref out] f [] (q_Pi (fun (z : Int) (f1 : Nat → va_E) => z = 1)) := by
  refine q_wofb (by decide +kernel) hN hT (Nat.le_of_ble_eq_true rfl) ?_
  intro p e s m below meth c ls cx hr hlk htab hX hB hl
  have hl : lv_has ls 5 [(0, .ref x), (1, .int (q_i a0)), (2, .int (q_i b0)), (3, .ref out)] := hl
  obtain ⟨H, hH⟩ : ∃ H : Heap, H = s.heap := ⟨_, rfl⟩
  obtain ⟨locs, hlocs⟩ : ∃ z : List Loc, z = [] := ⟨_, rfl⟩
  rw [← hH, ← hlocs] at hB
  rw [← hH, ← hlocs]
  refine q_ald_n cx dL_message_0 rfl (lv_at hl 3 rfl) ?_
  refine q_iconst cx dL_message_1 ?_
  refine q_ald_n cx dL_message_2 rfl (lv_at hl 0 rfl) ?_
  refine q_ild_n cx dL_message_3 rfl (lv_at hl 1 rfl) ?_
  refine q_ild_n cx dL_message_4 rfl (lv_at hl 2 rfl) ?_
  refine q_cXV (As := [.int (q_i a0), .int (q_i b0)]) (rest := [.int (q_i 0), .ref out]) cx hX hB (fun _ h => h) (fun _ h _ => h) hN hx kx (by decide) rfl (x_message l g hN hB.2.1 hfl x hx kx a0 (by omega) (by omega) b0 (by omega) (by omega) src hsrc ksrc rdr hrdr krdr scr hscr kscr fc hfc kfc hist hhist khist rep hrep krep now hnow know dr hdr kdr sv hsv ksv tr htr ktr hf0 hf1 hf2 hf3 hf4 hf5 hf6 hf7 hf8 hf9 hf10 hf11 hf12 hf13 hr0 hr1 hr2 hr3 hr4 hr5 hr6 hr7 hr8 hr9) q_cL_40 q_dX11_message (by decide) rfl rfl hl.1 rfl (Nat.le_of_ble_eq_true rfl) dL_message_5 (fun E9 ce9 q9 H locs f8 hex hF hB hcell hcv hcl => ?_) (fun v9 H locs f5 h7 hF hB => ?_)
  · rcases hex with ⟨rfl, rfl⟩
    · refine vx_catch (E := "java/lang/IndexOutOfBoundsException") (name := "java/lang/IndexOutOfBoundsException") cx.2.2.2.1 [] ⟨0, 10, 13, 35⟩ [⟨0, 10, 17, 19⟩] (htab.trans rfl) (q_pnil) (by decide) (by decide) (cx.2.2.2.2 _ q_h1225) (va_Nw.use rfl (hX.2.2.2.1 (.castable "java/lang/IndexOutOfBoundsException" "java/lang/IndexOutOfBoundsException") (by decide +kernel))) hcell hcv hcl ?_
      refine lv_astore (lv' := [(4, .ref q9), (0, .ref x), (1, .int (q_i a0)), (2, .int (q_i b0)), (3, .ref out)]) cx.1 cx.2.1 dL_message_13 hl (by decide) rfl (fun ls hl => ?_)
      refine q_iconst cx dL_message_15 ?_
      refine W.widen (k := 1) (n := 6) (by decide) (by decide) ?_
      refine q_iret cx hr hlk hB dL_message_16 ⟨by decide, by decide⟩ ?_
      exact rfl
  · obtain ⟨y6, rfl, ry6, h7⟩ := h7
    exact h7.elim
set_option maxHeartbeats 4000000 in
set_option maxRecDepth 100000 in
theorem w_letter (l : Launch) (g : q_G) {K : Nat → Nat} {L : List Nat} (hN : L.Nodup) {f : Nat → va_E} (hT : q_Ty g K L f) (hfl : l.stackTraces = false) (x : Nat) (hx : x ∈ L) (kx : K x = 11) (a0 : Int) (la0 : (-2147483648) ≤ a0) (ua0 : a0 ≤ 2147483647) (b0 : Int) (lb0 : (-2147483648) ≤ b0) (ub0 : b0 ≤ 2147483647) (out : Nat) (hout : out ∈ L) (kout : K out = 168) (src : Nat) (hsrc : src ∈ L) (ksrc : K src = 8) (rdr : Nat) (hrdr : rdr ∈ L) (krdr : K rdr = 9) (scr : Nat) (hscr : scr ∈ L) (kscr : K scr = 7) (fc : Nat) (hfc : fc ∈ L) (kfc : K fc = 1) (hist : Nat) (hhist : hist ∈ L) (khist : K hist = 2) (rep : Nat) (hrep : rep ∈ L) (krep : K rep = 6) (now : Nat) (hnow : now ∈ L) (know : K now = 10) (dr : Nat) (hdr : dr ∈ L) (kdr : K dr = 13) (sv : Nat) (hsv : sv ∈ L) (ksv : K sv = 14) (tr : Nat) (htr : tr ∈ L) (ktr : K tr = 15) (hf0 : q_z f x 9 = 0) (hf1 : q_z f src 1 = 0) (hf2 : q_z f src 2 = 0) (hf3 : q_z f src 3 = (-1)) (hf4 : q_z f hist 1 = 0) (hf5 : q_z f hist 2 = 0) (hf6 : q_z f rep 1 = 0) (hf7 : q_z f now 3 = 0) (hf8 : q_z f now 4 = 0) (hf9 : q_z f now 5 = 0) (hf10 : q_z f now 6 = 12) (hf11 : q_z f now 10 = 3) (hf12 : q_z f now 11 = 0) (hf13 : q_z f now 12 = 0) (hr0 : q_r f x 0 = src) (hr1 : q_r f x 1 = rdr) (hr2 : q_r f x 2 = scr) (hr3 : q_r f x 3 = fc) (hr4 : q_r f x 4 = hist) (hr5 : q_r f x 5 = rep) (hr6 : q_r f x 6 = now) (hr7 : q_r f x 7 = dr) (hr8 : q_r f x 8 = sv) (hr9 : q_r f fc 0 = tr) : q_Wt l g K L yL_letter cL_letter 5 (some .int) [(0, 10, 13, 35)] 8 125 1 6 [.ref x, .int (q_i a0), .int (q_i b0), .ref out] f [] (q_Pi (fun (z : Int) (f1 : Nat → va_E) => z = 1)) := by
  refine q_wofb (by decide +kernel) hN hT (Nat.le_of_ble_eq_true rfl) ?_
  intro p e s m below meth c ls cx hr hlk htab hX hB hl
  have hl : lv_has ls 5 [(0, .ref x), (1, .int (q_i a0)), (2, .int (q_i b0)), (3, .ref out)] := hl
  obtain ⟨H, hH⟩ : ∃ H : Heap, H = s.heap := ⟨_, rfl⟩
  obtain ⟨locs, hlocs⟩ : ∃ z : List Loc, z = [] := ⟨_, rfl⟩
  rw [← hH, ← hlocs] at hB
  rw [← hH, ← hlocs]
  refine q_ald_n cx dL_letter_0 rfl (lv_at hl 3 rfl) ?_
  refine q_iconst cx dL_letter_1 ?_
  refine q_ald_n cx dL_letter_2 rfl (lv_at hl 0 rfl) ?_
  refine q_ild_n cx dL_letter_3 rfl (lv_at hl 1 rfl) ?_
  refine q_ild_n cx dL_letter_4 rfl (lv_at hl 2 rfl) ?_
  refine q_cXV (As := [.int (q_i a0), .int (q_i b0)]) (rest := [.int (q_i 0), .ref out]) cx hX hB (fun _ h => h) (fun _ h _ => h) hN hx kx (by decide) rfl (x_letter l g hN hB.2.1 hfl x hx kx a0 (by omega) (by omega) b0 (by omega) (by omega) src hsrc ksrc rdr hrdr krdr scr hscr kscr fc hfc kfc hist hhist khist rep hrep krep now hnow know dr hdr kdr sv hsv ksv tr htr ktr hf0 hf1 hf2 hf3 hf4 hf5 hf6 hf7 hf8 hf9 hf10 hf11 hf12 hf13 hr0 hr1 hr2 hr3 hr4 hr5 hr6 hr7 hr8 hr9) q_cL_43 q_dX11_letter (by decide) rfl rfl hl.1 rfl (Nat.le_of_ble_eq_true rfl) dL_letter_5 (fun E9 ce9 q9 H locs f8 hex hF hB hcell hcv hcl => ?_) (fun v9 H locs f5 h7 hF hB => ?_)
  · rcases hex with ⟨rfl, rfl⟩
    · refine vx_catch (E := "java/lang/IndexOutOfBoundsException") (name := "java/lang/IndexOutOfBoundsException") cx.2.2.2.1 [] ⟨0, 10, 13, 35⟩ [] (htab.trans rfl) (q_pnil) (by decide) (by decide) (cx.2.2.2.2 _ q_h1225) (va_Nw.use rfl (hX.2.2.2.1 (.castable "java/lang/IndexOutOfBoundsException" "java/lang/IndexOutOfBoundsException") (by decide +kernel))) hcell hcv hcl ?_
      refine lv_astore (lv' := [(4, .ref q9), (0, .ref x), (1, .int (q_i a0)), (2, .int (q_i b0)), (3, .ref out)]) cx.1 cx.2.1 dL_letter_13 hl (by decide) rfl (fun ls hl => ?_)
      refine q_iconst cx dL_letter_15 ?_
      refine W.widen (k := 1) (n := 6) (by decide) (by decide) ?_
      refine q_iret cx hr hlk hB dL_letter_16 ⟨by decide, by decide⟩ ?_
      exact rfl
  · obtain ⟨y6, rfl, ry6, h7⟩ := h7
    exact h7.elim
set_option maxHeartbeats 4000000 in
set_option maxRecDepth 100000 in
theorem w_inTable (l : Launch) (g : q_G) {K : Nat → Nat} {L : List Nat} (hN : L.Nodup) {f : Nat → va_E} (hT : q_Ty g K L f) (hfl : l.stackTraces = false) (x : Nat) (hx : x ∈ L) (kx : K x = 11) (a0 : Int) (la0 : (-2147483648) ≤ a0) (ua0 : a0 ≤ 2147483647) (b0 : Int) (lb0 : (-2147483648) ≤ b0) (ub0 : b0 ≤ 2147483647) (out : Nat) (hout : out ∈ L) (kout : K out = 168) (src : Nat) (hsrc : src ∈ L) (ksrc : K src = 8) (rdr : Nat) (hrdr : rdr ∈ L) (krdr : K rdr = 9) (scr : Nat) (hscr : scr ∈ L) (kscr : K scr = 7) (fc : Nat) (hfc : fc ∈ L) (kfc : K fc = 1) (hist : Nat) (hhist : hist ∈ L) (khist : K hist = 2) (rep : Nat) (hrep : rep ∈ L) (krep : K rep = 6) (now : Nat) (hnow : now ∈ L) (know : K now = 10) (dr : Nat) (hdr : dr ∈ L) (kdr : K dr = 13) (sv : Nat) (hsv : sv ∈ L) (ksv : K sv = 14) (tr : Nat) (htr : tr ∈ L) (ktr : K tr = 15) (hf0 : q_z f x 9 = 0) (hf1 : q_z f src 1 = 0) (hf2 : q_z f src 2 = 0) (hf3 : q_z f src 3 = (-1)) (hf4 : q_z f hist 1 = 0) (hf5 : q_z f hist 2 = 0) (hf6 : q_z f rep 1 = 0) (hf7 : q_z f now 3 = 0) (hf8 : q_z f now 4 = 0) (hf9 : q_z f now 5 = 0) (hf10 : q_z f now 6 = 12) (hf11 : q_z f now 10 = 3) (hf12 : q_z f now 11 = 0) (hf13 : q_z f now 12 = 0) (hr0 : q_r f x 0 = src) (hr1 : q_r f x 1 = rdr) (hr2 : q_r f x 2 = scr) (hr3 : q_r f x 3 = fc) (hr4 : q_r f x 4 = hist) (hr5 : q_r f x 5 = rep) (hr6 : q_r f x 6 = now) (hr7 : q_r f x 7 = dr) (hr8 : q_r f x 8 = sv) (hr9 : q_r f fc 0 = tr) : q_Wt l g K L yL_inTable cL_inTable 5 (some .int) [(0, 17, 20, 35), (0, 17, 24, 19)] 8 125 1 6 [.ref x, .int (q_i a0), .int (q_i b0), .ref out] f [] (q_Pi (fun (z : Int) (f1 : Nat → va_E) => z = 1)) := by
  refine q_wofb (by decide +kernel) hN hT (Nat.le_of_ble_eq_true rfl) ?_
  intro p e s m below meth c ls cx hr hlk htab hX hB hl
  have hl : lv_has ls 5 [(0, .ref x), (1, .int (q_i a0)), (2, .int (q_i b0)), (3, .ref out)] := hl
  obtain ⟨H, hH⟩ : ∃ H : Heap, H = s.heap := ⟨_, rfl⟩
  obtain ⟨locs, hlocs⟩ : ∃ z : List Loc, z = [] := ⟨_, rfl⟩
  rw [← hH, ← hlocs] at hB
  rw [← hH, ← hlocs]
  refine q_ald_n cx dL_inTable_0 rfl (lv_at hl 3 rfl) ?_
  refine q_iconst cx dL_inTable_1 ?_
  refine q_ald_n cx dL_inTable_2 rfl (lv_at hl 0 rfl) ?_
  refine q_ild_n cx dL_inTable_3 rfl (lv_at hl 1 rfl) ?_
  refine q_ild_n cx dL_inTable_4 rfl (lv_at hl 2 rfl) ?_
  refine q_cXV (As := [.int (q_i a0), .int (q_i b0)]) (rest := [.int (q_i 0), .ref out]) cx hX hB (fun _ h => h) (fun _ h _ => h) hN hx kx (by decide) rfl (x_inTable l g hN hB.2.1 hfl x hx kx a0 (by omega) (by omega) b0 (by omega) (by omega) src hsrc ksrc rdr hrdr krdr scr hscr kscr fc hfc kfc hist hhist khist rep hrep krep now hnow know dr hdr kdr sv hsv ksv tr htr ktr hf0 hf1 hf2 hf3 hf4 hf5 hf6 hf7 hf8 hf9 hf10 hf11 hf12 hf13 hr0 hr1 hr2 hr3 hr4 hr5 hr6 hr7 hr8 hr9) q_cL_46 q_dX11_inTable (by decide) rfl rfl hl.1 rfl (Nat.le_of_ble_eq_true rfl) dL_inTable_5 (fun E9 ce9 q9 H locs f8 hex hF hB hcell hcv hcl => ?_) (fun v9 H locs f5 h7 hF hB => ?_)
  · rcases hex with ⟨rfl, rfl⟩
    · refine vx_catch (E := "java/lang/IndexOutOfBoundsException") (name := "java/lang/IndexOutOfBoundsException") cx.2.2.2.1 [] ⟨0, 17, 20, 35⟩ [⟨0, 17, 24, 19⟩] (htab.trans rfl) (q_pnil) (by decide) (by decide) (cx.2.2.2.2 _ q_h1225) (va_Nw.use rfl (hX.2.2.2.1 (.castable "java/lang/IndexOutOfBoundsException" "java/lang/IndexOutOfBoundsException") (by decide +kernel))) hcell hcv hcl ?_
      refine lv_astore (lv' := [(4, .ref q9), (0, .ref x), (1, .int (q_i a0)), (2, .int (q_i b0)), (3, .ref out)]) cx.1 cx.2.1 dL_inTable_20 hl (by decide) rfl (fun ls hl => ?_)
      refine q_iconst cx dL_inTable_22 ?_
      refine W.widen (k := 1) (n := 6) (by decide) (by decide) ?_
      refine q_iret cx hr hlk hB dL_inTable_23 ⟨by decide, by decide⟩ ?_
      exact rfl
  · obtain ⟨y6, rfl, ry6, h7⟩ := h7
    exact h7.elim
set_option maxHeartbeats 4000000 in
set_option maxRecDepth 100000 in
theorem w_duty (l : Launch) (g : q_G) {K : Nat → Nat} {L : List Nat} (hN : L.Nodup) {f : Nat → va_E} (hT : q_Ty g K L f) (hfl : l.stackTraces = false) (x : Nat) (hx : x ∈ L) (kx : K x = 11) (a0 : Int) (la0 : (-2147483648) ≤ a0) (ua0 : a0 ≤ 2147483647) (out : Nat) (hout : out ∈ L) (kout : K out = 169) (src : Nat) (hsrc : src ∈ L) (ksrc : K src = 8) (rdr : Nat) (hrdr : rdr ∈ L) (krdr : K rdr = 9) (scr : Nat) (hscr : scr ∈ L) (kscr : K scr = 7) (fc : Nat) (hfc : fc ∈ L) (kfc : K fc = 1) (hist : Nat) (hhist : hist ∈ L) (khist : K hist = 2) (rep : Nat) (hrep : rep ∈ L) (krep : K rep = 6) (now : Nat) (hnow : now ∈ L) (know : K now = 10) (dr : Nat) (hdr : dr ∈ L) (kdr : K dr = 13) (sv : Nat) (hsv : sv ∈ L) (ksv : K sv = 14) (tr : Nat) (htr : tr ∈ L) (ktr : K tr = 15) (hf0 : q_z f x 9 = 0) (hf1 : q_z f src 1 = 0) (hf2 : q_z f src 2 = 0) (hf3 : q_z f src 3 = (-1)) (hf4 : q_z f hist 1 = 0) (hf5 : q_z f hist 2 = 0) (hf6 : q_z f rep 1 = 0) (hf7 : q_z f now 3 = 0) (hf8 : q_z f now 4 = 0) (hf9 : q_z f now 5 = 0) (hf10 : q_z f now 6 = 12) (hf11 : q_z f now 10 = 3) (hf12 : q_z f now 11 = 0) (hf13 : q_z f now 12 = 0) (hr0 : q_r f x 0 = src) (hr1 : q_r f x 1 = rdr) (hr2 : q_r f x 2 = scr) (hr3 : q_r f x 3 = fc) (hr4 : q_r f x 4 = hist) (hr5 : q_r f x 5 = rep) (hr6 : q_r f x 6 = now) (hr7 : q_r f x 7 = dr) (hr8 : q_r f x 8 = sv) (hr9 : q_r f fc 0 = tr) : q_Wt l g K L yL_duty cL_duty 4 (some .int) [(0, 9, 12, 35)] 8 124 1 6 [.ref x, .int (q_i a0), .ref out] f [] (q_Pi (fun (z : Int) (f1 : Nat → va_E) => z = 1)) := by
  refine q_wofb (by decide +kernel) hN hT (Nat.le_of_ble_eq_true rfl) ?_
  intro p e s m below meth c ls cx hr hlk htab hX hB hl
  have hl : lv_has ls 4 [(0, .ref x), (1, .int (q_i a0)), (2, .ref out)] := hl
  obtain ⟨H, hH⟩ : ∃ H : Heap, H = s.heap := ⟨_, rfl⟩
  obtain ⟨locs, hlocs⟩ : ∃ z : List Loc, z = [] := ⟨_, rfl⟩
  rw [← hH, ← hlocs] at hB
  rw [← hH, ← hlocs]
  refine q_ald_n cx dL_duty_0 rfl (lv_at hl 2 rfl) ?_
  refine q_iconst cx dL_duty_1 ?_
  refine q_ald_n cx dL_duty_2 rfl (lv_at hl 0 rfl) ?_
  refine q_ild_n cx dL_duty_3 rfl (lv_at hl 1 rfl) ?_
  refine q_cXV (As := [.int (q_i a0)]) (rest := [.int (q_i 0), .ref out]) cx hX hB (fun _ h => h) (fun _ h _ => h) hN hx kx (by decide) rfl (x_duty l g hN hB.2.1 hfl x hx kx a0 (by omega) (by omega) src hsrc ksrc rdr hrdr krdr scr hscr kscr fc hfc kfc hist hhist khist rep hrep krep now hnow know dr hdr kdr sv hsv ksv tr htr ktr hf0 hf1 hf2 hf3 hf4 hf5 hf6 hf7 hf8 hf9 hf10 hf11 hf12 hf13 hr0 hr1 hr2 hr3 hr4 hr5 hr6 hr7 hr8 hr9) q_cL_50 q_dX11_duty (by decide) rfl rfl hl.1 rfl (Nat.le_of_ble_eq_true rfl) dL_duty_4 (fun E9 ce9 q9 H locs f8 hex hF hB hcell hcv hcl => ?_) (fun v9 H locs f5 h7 hF hB => ?_)
  · rcases hex with ⟨rfl, rfl⟩
    · refine vx_catch (E := "java/lang/IndexOutOfBoundsException") (name := "java/lang/IndexOutOfBoundsException") cx.2.2.2.1 [] ⟨0, 9, 12, 35⟩ [] (htab.trans rfl) (q_pnil) (by decide) (by decide) (cx.2.2.2.2 _ q_h1225) (va_Nw.use rfl (hX.2.2.2.1 (.castable "java/lang/IndexOutOfBoundsException" "java/lang/IndexOutOfBoundsException") (by decide +kernel))) hcell hcv hcl ?_
      refine lv_astore_n (lv' := [(3, .ref q9), (0, .ref x), (1, .int (q_i a0)), (2, .ref out)]) cx.1 cx.2.1 dL_duty_12 rfl hl (by decide) rfl (fun ls hl => ?_)
      refine q_iconst cx dL_duty_13 ?_
      refine W.widen (k := 1) (n := 6) (by decide) (by decide) ?_
      refine q_iret cx hr hlk hB dL_duty_14 ⟨by decide, by decide⟩ ?_
      exact rfl
  · obtain ⟨y6, rfl, h7⟩ := h7
    exact h7.elim
set_option maxHeartbeats 4000000 in
set_option maxRecDepth 100000 in
theorem w_meetsIn (l : Launch) (g : q_G) {K : Nat → Nat} {L : List Nat} (hN : L.Nodup) {f : Nat → va_E} (hT : q_Ty g K L f) (hfl : l.stackTraces = false) (x : Nat) (hx : x ∈ L) (kx : K x = 11) (a0 : Int) (la0 : (-2147483648) ≤ a0) (ua0 : a0 ≤ 2147483647) (b0 : Int) (lb0 : (-2147483648) ≤ b0) (ub0 : b0 ≤ 2147483647) (out : Nat) (hout : out ∈ L) (kout : K out = 168) (src : Nat) (hsrc : src ∈ L) (ksrc : K src = 8) (rdr : Nat) (hrdr : rdr ∈ L) (krdr : K rdr = 9) (scr : Nat) (hscr : scr ∈ L) (kscr : K scr = 7) (fc : Nat) (hfc : fc ∈ L) (kfc : K fc = 1) (hist : Nat) (hhist : hist ∈ L) (khist : K hist = 2) (rep : Nat) (hrep : rep ∈ L) (krep : K rep = 6) (now : Nat) (hnow : now ∈ L) (know : K now = 10) (dr : Nat) (hdr : dr ∈ L) (kdr : K dr = 13) (sv : Nat) (hsv : sv ∈ L) (ksv : K sv = 14) (tr : Nat) (htr : tr ∈ L) (ktr : K tr = 15) (hf0 : q_z f x 9 = 0) (hf1 : q_z f src 1 = 0) (hf2 : q_z f src 2 = 0) (hf3 : q_z f src 3 = (-1)) (hf4 : q_z f hist 1 = 0) (hf5 : q_z f hist 2 = 0) (hf6 : q_z f rep 1 = 0) (hf7 : q_z f now 3 = 0) (hf8 : q_z f now 4 = 0) (hf9 : q_z f now 5 = 0) (hf10 : q_z f now 6 = 12) (hf11 : q_z f now 10 = 3) (hf12 : q_z f now 11 = 0) (hf13 : q_z f now 12 = 0) (hr0 : q_r f x 0 = src) (hr1 : q_r f x 1 = rdr) (hr2 : q_r f x 2 = scr) (hr3 : q_r f x 3 = fc) (hr4 : q_r f x 4 = hist) (hr5 : q_r f x 5 = rep) (hr6 : q_r f x 6 = now) (hr7 : q_r f x 7 = dr) (hr8 : q_r f x 8 = sv) (hr9 : q_r f fc 0 = tr) : q_Wt l g K L yL_meetsIn cL_meetsIn 5 (some .int) [(0, 10, 13, 35)] 8 125 1 6 [.ref x, .int (q_i a0), .int (q_i b0), .ref out] f [] (q_Pi (fun (z : Int) (f1 : Nat → va_E) => z = 1)) := by
  refine q_wofb (by decide +kernel) hN hT (Nat.le_of_ble_eq_true rfl) ?_
  intro p e s m below meth c ls cx hr hlk htab hX hB hl
  have hl : lv_has ls 5 [(0, .ref x), (1, .int (q_i a0)), (2, .int (q_i b0)), (3, .ref out)] := hl
  obtain ⟨H, hH⟩ : ∃ H : Heap, H = s.heap := ⟨_, rfl⟩
  obtain ⟨locs, hlocs⟩ : ∃ z : List Loc, z = [] := ⟨_, rfl⟩
  rw [← hH, ← hlocs] at hB
  rw [← hH, ← hlocs]
  refine q_ald_n cx dL_meetsIn_0 rfl (lv_at hl 3 rfl) ?_
  refine q_iconst cx dL_meetsIn_1 ?_
  refine q_ald_n cx dL_meetsIn_2 rfl (lv_at hl 0 rfl) ?_
  refine q_ild_n cx dL_meetsIn_3 rfl (lv_at hl 1 rfl) ?_
  refine q_ild_n cx dL_meetsIn_4 rfl (lv_at hl 2 rfl) ?_
  refine q_cXV (As := [.int (q_i a0), .int (q_i b0)]) (rest := [.int (q_i 0), .ref out]) cx hX hB (fun _ h => h) (fun _ h _ => h) hN hx kx (by decide) rfl (x_meetsIn l g hN hB.2.1 hfl x hx kx a0 (by omega) (by omega) b0 (by omega) (by omega) src hsrc ksrc rdr hrdr krdr scr hscr kscr fc hfc kfc hist hhist khist rep hrep krep now hnow know dr hdr kdr sv hsv ksv tr htr ktr hf0 hf1 hf2 hf3 hf4 hf5 hf6 hf7 hf8 hf9 hf10 hf11 hf12 hf13 hr0 hr1 hr2 hr3 hr4 hr5 hr6 hr7 hr8 hr9) q_cL_57 q_dX11_meetsIn (by decide) rfl rfl hl.1 rfl (Nat.le_of_ble_eq_true rfl) dL_meetsIn_5 (fun E9 ce9 q9 H locs f8 hex hF hB hcell hcv hcl => ?_) (fun v9 H locs f5 h7 hF hB => ?_)
  · rcases hex with ⟨rfl, rfl⟩
    · refine vx_catch (E := "java/lang/IndexOutOfBoundsException") (name := "java/lang/IndexOutOfBoundsException") cx.2.2.2.1 [] ⟨0, 10, 13, 35⟩ [] (htab.trans rfl) (q_pnil) (by decide) (by decide) (cx.2.2.2.2 _ q_h1225) (va_Nw.use rfl (hX.2.2.2.1 (.castable "java/lang/IndexOutOfBoundsException" "java/lang/IndexOutOfBoundsException") (by decide +kernel))) hcell hcv hcl ?_
      refine lv_astore (lv' := [(4, .ref q9), (0, .ref x), (1, .int (q_i a0)), (2, .int (q_i b0)), (3, .ref out)]) cx.1 cx.2.1 dL_meetsIn_13 hl (by decide) rfl (fun ls hl => ?_)
      refine q_iconst cx dL_meetsIn_15 ?_
      refine W.widen (k := 1) (n := 6) (by decide) (by decide) ?_
      refine q_iret cx hr hlk hB dL_meetsIn_16 ⟨by decide, by decide⟩ ?_
      exact rfl
  · obtain ⟨y6, rfl, ry6, h7⟩ := h7
    exact h7.elim
set_option maxHeartbeats 4000000 in
set_option maxRecDepth 100000 in
theorem w_hops (l : Launch) (g : q_G) {K : Nat → Nat} {L : List Nat} (hN : L.Nodup) {f : Nat → va_E} (hT : q_Ty g K L f) (hfl : l.stackTraces = false) (x : Nat) (hx : x ∈ L) (kx : K x = 11) (a0 : Int) (la0 : (-2147483648) ≤ a0) (ua0 : a0 ≤ 2147483647) (b0 : Int) (lb0 : (-2147483648) ≤ b0) (ub0 : b0 ≤ 2147483647) (out : Nat) (hout : out ∈ L) (kout : K out = 168) (src : Nat) (hsrc : src ∈ L) (ksrc : K src = 8) (rdr : Nat) (hrdr : rdr ∈ L) (krdr : K rdr = 9) (scr : Nat) (hscr : scr ∈ L) (kscr : K scr = 7) (fc : Nat) (hfc : fc ∈ L) (kfc : K fc = 1) (hist : Nat) (hhist : hist ∈ L) (khist : K hist = 2) (rep : Nat) (hrep : rep ∈ L) (krep : K rep = 6) (now : Nat) (hnow : now ∈ L) (know : K now = 10) (dr : Nat) (hdr : dr ∈ L) (kdr : K dr = 13) (sv : Nat) (hsv : sv ∈ L) (ksv : K sv = 14) (tr : Nat) (htr : tr ∈ L) (ktr : K tr = 15) (hf0 : q_z f x 9 = 0) (hf1 : q_z f src 1 = 0) (hf2 : q_z f src 2 = 0) (hf3 : q_z f src 3 = (-1)) (hf4 : q_z f hist 1 = 0) (hf5 : q_z f hist 2 = 0) (hf6 : q_z f rep 1 = 0) (hf7 : q_z f now 3 = 0) (hf8 : q_z f now 4 = 0) (hf9 : q_z f now 5 = 0) (hf10 : q_z f now 6 = 12) (hf11 : q_z f now 10 = 3) (hf12 : q_z f now 11 = 0) (hf13 : q_z f now 12 = 0) (hr0 : q_r f x 0 = src) (hr1 : q_r f x 1 = rdr) (hr2 : q_r f x 2 = scr) (hr3 : q_r f x 3 = fc) (hr4 : q_r f x 4 = hist) (hr5 : q_r f x 5 = rep) (hr6 : q_r f x 6 = now) (hr7 : q_r f x 7 = dr) (hr8 : q_r f x 8 = sv) (hr9 : q_r f fc 0 = tr) : q_Wt l g K L yL_hops cL_hops 5 (some .int) [(0, 10, 13, 35)] 8 125 1 6 [.ref x, .int (q_i a0), .int (q_i b0), .ref out] f [] (q_Pi (fun (z : Int) (f1 : Nat → va_E) => z = 1)) := by
  refine q_wofb (by decide +kernel) hN hT (Nat.le_of_ble_eq_true rfl) ?_
  intro p e s m below meth c ls cx hr hlk htab hX hB hl
  have hl : lv_has ls 5 [(0, .ref x), (1, .int (q_i a0)), (2, .int (q_i b0)), (3, .ref out)] := hl
  obtain ⟨H, hH⟩ : ∃ H : Heap, H = s.heap := ⟨_, rfl⟩
  obtain ⟨locs, hlocs⟩ : ∃ z : List Loc, z = [] := ⟨_, rfl⟩
  rw [← hH, ← hlocs] at hB
  rw [← hH, ← hlocs]
  refine q_ald_n cx dL_hops_0 rfl (lv_at hl 3 rfl) ?_
  refine q_iconst cx dL_hops_1 ?_
  refine q_ald_n cx dL_hops_2 rfl (lv_at hl 0 rfl) ?_
  refine q_ild_n cx dL_hops_3 rfl (lv_at hl 1 rfl) ?_
  refine q_ild_n cx dL_hops_4 rfl (lv_at hl 2 rfl) ?_
  refine q_cXV (As := [.int (q_i a0), .int (q_i b0)]) (rest := [.int (q_i 0), .ref out]) cx hX hB (fun _ h => h) (fun _ h _ => h) hN hx kx (by decide) rfl (x_hops l g hN hB.2.1 hfl x hx kx a0 (by omega) (by omega) b0 (by omega) (by omega) src hsrc ksrc rdr hrdr krdr scr hscr kscr fc hfc kfc hist hhist khist rep hrep krep now hnow know dr hdr kdr sv hsv ksv tr htr ktr hf0 hf1 hf2 hf3 hf4 hf5 hf6 hf7 hf8 hf9 hf10 hf11 hf12 hf13 hr0 hr1 hr2 hr3 hr4 hr5 hr6 hr7 hr8 hr9) q_cL_60 q_dX11_hops (by decide) rfl rfl hl.1 rfl (Nat.le_of_ble_eq_true rfl) dL_hops_5 (fun E9 ce9 q9 H locs f8 hex hF hB hcell hcv hcl => ?_) (fun v9 H locs f5 h7 hF hB => ?_)
  · rcases hex with ⟨rfl, rfl⟩
    · refine vx_catch (E := "java/lang/IndexOutOfBoundsException") (name := "java/lang/IndexOutOfBoundsException") cx.2.2.2.1 [] ⟨0, 10, 13, 35⟩ [] (htab.trans rfl) (q_pnil) (by decide) (by decide) (cx.2.2.2.2 _ q_h1225) (va_Nw.use rfl (hX.2.2.2.1 (.castable "java/lang/IndexOutOfBoundsException" "java/lang/IndexOutOfBoundsException") (by decide +kernel))) hcell hcv hcl ?_
      refine lv_astore (lv' := [(4, .ref q9), (0, .ref x), (1, .int (q_i a0)), (2, .int (q_i b0)), (3, .ref out)]) cx.1 cx.2.1 dL_hops_13 hl (by decide) rfl (fun ls hl => ?_)
      refine q_iconst cx dL_hops_15 ?_
      refine W.widen (k := 1) (n := 6) (by decide) (by decide) ?_
      refine q_iret cx hr hlk hB dL_hops_16 ⟨by decide, by decide⟩ ?_
      exact rfl
  · obtain ⟨y6, rfl, ry6, h7⟩ := h7
    exact h7.elim
set_option maxHeartbeats 4000000 in
set_option maxRecDepth 100000 in
theorem w_nextNode (l : Launch) (g : q_G) {K : Nat → Nat} {L : List Nat} (hN : L.Nodup) {f : Nat → va_E} (hT : q_Ty g K L f) (hfl : l.stackTraces = false) (x : Nat) (hx : x ∈ L) (kx : K x = 11) (a0 : Int) (la0 : (-2147483648) ≤ a0) (ua0 : a0 ≤ 2147483647) (b0 : Int) (lb0 : (-2147483648) ≤ b0) (ub0 : b0 ≤ 2147483647) (out : Nat) (hout : out ∈ L) (kout : K out = 168) (src : Nat) (hsrc : src ∈ L) (ksrc : K src = 8) (rdr : Nat) (hrdr : rdr ∈ L) (krdr : K rdr = 9) (scr : Nat) (hscr : scr ∈ L) (kscr : K scr = 7) (fc : Nat) (hfc : fc ∈ L) (kfc : K fc = 1) (hist : Nat) (hhist : hist ∈ L) (khist : K hist = 2) (rep : Nat) (hrep : rep ∈ L) (krep : K rep = 6) (now : Nat) (hnow : now ∈ L) (know : K now = 10) (dr : Nat) (hdr : dr ∈ L) (kdr : K dr = 13) (sv : Nat) (hsv : sv ∈ L) (ksv : K sv = 14) (tr : Nat) (htr : tr ∈ L) (ktr : K tr = 15) (hf0 : q_z f x 9 = 0) (hf1 : q_z f src 1 = 0) (hf2 : q_z f src 2 = 0) (hf3 : q_z f src 3 = (-1)) (hf4 : q_z f hist 1 = 0) (hf5 : q_z f hist 2 = 0) (hf6 : q_z f rep 1 = 0) (hf7 : q_z f now 3 = 0) (hf8 : q_z f now 4 = 0) (hf9 : q_z f now 5 = 0) (hf10 : q_z f now 6 = 12) (hf11 : q_z f now 10 = 3) (hf12 : q_z f now 11 = 0) (hf13 : q_z f now 12 = 0) (hr0 : q_r f x 0 = src) (hr1 : q_r f x 1 = rdr) (hr2 : q_r f x 2 = scr) (hr3 : q_r f x 3 = fc) (hr4 : q_r f x 4 = hist) (hr5 : q_r f x 5 = rep) (hr6 : q_r f x 6 = now) (hr7 : q_r f x 7 = dr) (hr8 : q_r f x 8 = sv) (hr9 : q_r f fc 0 = tr) : q_Wt l g K L yL_nextNode cL_nextNode 5 (some .int) [(0, 10, 13, 35)] 8 125 1 6 [.ref x, .int (q_i a0), .int (q_i b0), .ref out] f [] (q_Pi (fun (z : Int) (f1 : Nat → va_E) => z = 1)) := by
  refine q_wofb (by decide +kernel) hN hT (Nat.le_of_ble_eq_true rfl) ?_
  intro p e s m below meth c ls cx hr hlk htab hX hB hl
  have hl : lv_has ls 5 [(0, .ref x), (1, .int (q_i a0)), (2, .int (q_i b0)), (3, .ref out)] := hl
  obtain ⟨H, hH⟩ : ∃ H : Heap, H = s.heap := ⟨_, rfl⟩
  obtain ⟨locs, hlocs⟩ : ∃ z : List Loc, z = [] := ⟨_, rfl⟩
  rw [← hH, ← hlocs] at hB
  rw [← hH, ← hlocs]
  refine q_ald_n cx dL_nextNode_0 rfl (lv_at hl 3 rfl) ?_
  refine q_iconst cx dL_nextNode_1 ?_
  refine q_ald_n cx dL_nextNode_2 rfl (lv_at hl 0 rfl) ?_
  refine q_ild_n cx dL_nextNode_3 rfl (lv_at hl 1 rfl) ?_
  refine q_ild_n cx dL_nextNode_4 rfl (lv_at hl 2 rfl) ?_
  refine q_cXV (As := [.int (q_i a0), .int (q_i b0)]) (rest := [.int (q_i 0), .ref out]) cx hX hB (fun _ h => h) (fun _ h _ => h) hN hx kx (by decide) rfl (x_nextNode l g hN hB.2.1 hfl x hx kx a0 (by omega) (by omega) b0 (by omega) (by omega) src hsrc ksrc rdr hrdr krdr scr hscr kscr fc hfc kfc hist hhist khist rep hrep krep now hnow know dr hdr kdr sv hsv ksv tr htr ktr hf0 hf1 hf2 hf3 hf4 hf5 hf6 hf7 hf8 hf9 hf10 hf11 hf12 hf13 hr0 hr1 hr2 hr3 hr4 hr5 hr6 hr7 hr8 hr9) q_cL_63 q_dX11_nextNode (by decide) rfl rfl hl.1 rfl (Nat.le_of_ble_eq_true rfl) dL_nextNode_5 (fun E9 ce9 q9 H locs f8 hex hF hB hcell hcv hcl => ?_) (fun v9 H locs f5 h7 hF hB => ?_)
  · rcases hex with ⟨rfl, rfl⟩
    · refine vx_catch (E := "java/lang/IndexOutOfBoundsException") (name := "java/lang/IndexOutOfBoundsException") cx.2.2.2.1 [] ⟨0, 10, 13, 35⟩ [] (htab.trans rfl) (q_pnil) (by decide) (by decide) (cx.2.2.2.2 _ q_h1225) (va_Nw.use rfl (hX.2.2.2.1 (.castable "java/lang/IndexOutOfBoundsException" "java/lang/IndexOutOfBoundsException") (by decide +kernel))) hcell hcv hcl ?_
      refine lv_astore (lv' := [(4, .ref q9), (0, .ref x), (1, .int (q_i a0)), (2, .int (q_i b0)), (3, .ref out)]) cx.1 cx.2.1 dL_nextNode_13 hl (by decide) rfl (fun ls hl => ?_)
      refine q_iconst cx dL_nextNode_15 ?_
      refine W.widen (k := 1) (n := 6) (by decide) (by decide) ?_
      refine q_iret cx hr hlk hB dL_nextNode_16 ⟨by decide, by decide⟩ ?_
      exact rfl
  · obtain ⟨y6, rfl, ry6, h7⟩ := h7
    exact h7.elim
set_option maxHeartbeats 4000000 in
set_option maxRecDepth 100000 in
theorem w_arrives (l : Launch) (g : q_G) {K : Nat → Nat} {L : List Nat} (hN : L.Nodup) {f : Nat → va_E} (hT : q_Ty g K L f) (hfl : l.stackTraces = false) (x : Nat) (hx : x ∈ L) (kx : K x = 11) (a0 : Int) (la0 : (-2147483648) ≤ a0) (ua0 : a0 ≤ 2147483647) (out : Nat) (hout : out ∈ L) (kout : K out = 168) (src : Nat) (hsrc : src ∈ L) (ksrc : K src = 8) (rdr : Nat) (hrdr : rdr ∈ L) (krdr : K rdr = 9) (scr : Nat) (hscr : scr ∈ L) (kscr : K scr = 7) (fc : Nat) (hfc : fc ∈ L) (kfc : K fc = 1) (hist : Nat) (hhist : hist ∈ L) (khist : K hist = 2) (rep : Nat) (hrep : rep ∈ L) (krep : K rep = 6) (now : Nat) (hnow : now ∈ L) (know : K now = 10) (dr : Nat) (hdr : dr ∈ L) (kdr : K dr = 13) (sv : Nat) (hsv : sv ∈ L) (ksv : K sv = 14) (tr : Nat) (htr : tr ∈ L) (ktr : K tr = 15) (hf0 : q_z f x 9 = 0) (hf1 : q_z f src 1 = 0) (hf2 : q_z f src 2 = 0) (hf3 : q_z f src 3 = (-1)) (hf4 : q_z f hist 1 = 0) (hf5 : q_z f hist 2 = 0) (hf6 : q_z f rep 1 = 0) (hf7 : q_z f now 3 = 0) (hf8 : q_z f now 4 = 0) (hf9 : q_z f now 5 = 0) (hf10 : q_z f now 6 = 12) (hf11 : q_z f now 10 = 3) (hf12 : q_z f now 11 = 0) (hf13 : q_z f now 12 = 0) (hr0 : q_r f x 0 = src) (hr1 : q_r f x 1 = rdr) (hr2 : q_r f x 2 = scr) (hr3 : q_r f x 3 = fc) (hr4 : q_r f x 4 = hist) (hr5 : q_r f x 5 = rep) (hr6 : q_r f x 6 = now) (hr7 : q_r f x 7 = dr) (hr8 : q_r f x 8 = sv) (hr9 : q_r f fc 0 = tr) : q_Wt l g K L yL_arrives cL_arrives 4 (some .int) [(0, 9, 12, 35)] 8 124 1 6 [.ref x, .int (q_i a0), .ref out] f [] (q_Pi (fun (z : Int) (f1 : Nat → va_E) => z = 1)) := by
  refine q_wofb (by decide +kernel) hN hT (Nat.le_of_ble_eq_true rfl) ?_
  intro p e s m below meth c ls cx hr hlk htab hX hB hl
  have hl : lv_has ls 4 [(0, .ref x), (1, .int (q_i a0)), (2, .ref out)] := hl
  obtain ⟨H, hH⟩ : ∃ H : Heap, H = s.heap := ⟨_, rfl⟩
  obtain ⟨locs, hlocs⟩ : ∃ z : List Loc, z = [] := ⟨_, rfl⟩
  rw [← hH, ← hlocs] at hB
  rw [← hH, ← hlocs]
  refine q_ald_n cx dL_arrives_0 rfl (lv_at hl 2 rfl) ?_
  refine q_iconst cx dL_arrives_1 ?_
  refine q_ald_n cx dL_arrives_2 rfl (lv_at hl 0 rfl) ?_
  refine q_ild_n cx dL_arrives_3 rfl (lv_at hl 1 rfl) ?_
  refine q_cXV (As := [.int (q_i a0)]) (rest := [.int (q_i 0), .ref out]) cx hX hB (fun _ h => h) (fun _ h _ => h) hN hx kx (by decide) rfl (x_arrives l g hN hB.2.1 hfl x hx kx a0 (by omega) (by omega) src hsrc ksrc rdr hrdr krdr scr hscr kscr fc hfc kfc hist hhist khist rep hrep krep now hnow know dr hdr kdr sv hsv ksv tr htr ktr hf0 hf1 hf2 hf3 hf4 hf5 hf6 hf7 hf8 hf9 hf10 hf11 hf12 hf13 hr0 hr1 hr2 hr3 hr4 hr5 hr6 hr7 hr8 hr9) q_cL_66 q_dX11_arrives (by decide) rfl rfl hl.1 rfl (Nat.le_of_ble_eq_true rfl) dL_arrives_4 (fun E9 ce9 q9 H locs f8 hex hF hB hcell hcv hcl => ?_) (fun v9 H locs f5 h7 hF hB => ?_)
  · rcases hex with ⟨rfl, rfl⟩
    · refine vx_catch (E := "java/lang/IndexOutOfBoundsException") (name := "java/lang/IndexOutOfBoundsException") cx.2.2.2.1 [] ⟨0, 9, 12, 35⟩ [] (htab.trans rfl) (q_pnil) (by decide) (by decide) (cx.2.2.2.2 _ q_h1225) (va_Nw.use rfl (hX.2.2.2.1 (.castable "java/lang/IndexOutOfBoundsException" "java/lang/IndexOutOfBoundsException") (by decide +kernel))) hcell hcv hcl ?_
      refine lv_astore_n (lv' := [(3, .ref q9), (0, .ref x), (1, .int (q_i a0)), (2, .ref out)]) cx.1 cx.2.1 dL_arrives_12 rfl hl (by decide) rfl (fun ls hl => ?_)
      refine q_iconst cx dL_arrives_13 ?_
      refine W.widen (k := 1) (n := 6) (by decide) (by decide) ?_
      refine q_iret cx hr hlk hB dL_arrives_14 ⟨by decide, by decide⟩ ?_
      exact rfl
  · obtain ⟨y6, rfl, ry6, h7⟩ := h7
    exact h7.elim
set_option maxHeartbeats 4000000 in
set_option maxRecDepth 100000 in
theorem w_wouldArrive (l : Launch) (g : q_G) {K : Nat → Nat} {L : List Nat} (hN : L.Nodup) {f : Nat → va_E} (hT : q_Ty g K L f) (hfl : l.stackTraces = false) (x : Nat) (hx : x ∈ L) (kx : K x = 11) (a0 : Int) (la0 : (-2147483648) ≤ a0) (ua0 : a0 ≤ 2147483647) (b0 : Int) (lb0 : (-2147483648) ≤ b0) (ub0 : b0 ≤ 2147483647) (z0 : Int) (lz0 : 0 ≤ z0) (uz0 : z0 ≤ 1) (out : Nat) (hout : out ∈ L) (kout : K out = 168) (src : Nat) (hsrc : src ∈ L) (ksrc : K src = 8) (rdr : Nat) (hrdr : rdr ∈ L) (krdr : K rdr = 9) (scr : Nat) (hscr : scr ∈ L) (kscr : K scr = 7) (fc : Nat) (hfc : fc ∈ L) (kfc : K fc = 1) (hist : Nat) (hhist : hist ∈ L) (khist : K hist = 2) (rep : Nat) (hrep : rep ∈ L) (krep : K rep = 6) (now : Nat) (hnow : now ∈ L) (know : K now = 10) (dr : Nat) (hdr : dr ∈ L) (kdr : K dr = 13) (sv : Nat) (hsv : sv ∈ L) (ksv : K sv = 14) (tr : Nat) (htr : tr ∈ L) (ktr : K tr = 15) (hf0 : q_z f x 9 = 0) (hf1 : q_z f src 1 = 0) (hf2 : q_z f src 2 = 0) (hf3 : q_z f src 3 = (-1)) (hf4 : q_z f hist 1 = 0) (hf5 : q_z f hist 2 = 0) (hf6 : q_z f rep 1 = 0) (hf7 : q_z f now 3 = 0) (hf8 : q_z f now 4 = 0) (hf9 : q_z f now 5 = 0) (hf10 : q_z f now 6 = 12) (hf11 : q_z f now 10 = 3) (hf12 : q_z f now 11 = 0) (hf13 : q_z f now 12 = 0) (hr0 : q_r f x 0 = src) (hr1 : q_r f x 1 = rdr) (hr2 : q_r f x 2 = scr) (hr3 : q_r f x 3 = fc) (hr4 : q_r f x 4 = hist) (hr5 : q_r f x 5 = rep) (hr6 : q_r f x 6 = now) (hr7 : q_r f x 7 = dr) (hr8 : q_r f x 8 = sv) (hr9 : q_r f fc 0 = tr) : q_Wt l g K L yL_wouldArrive cL_wouldArrive 6 (some .int) [(0, 12, 15, 35), (0, 12, 19, 19)] 8 126 1 6 [.ref x, .int (q_i a0), .int (q_i b0), .int (q_i z0), .ref out] f [] (q_Pi (fun (z : Int) (f1 : Nat → va_E) => z = 1)) := by
  refine q_wofb (by decide +kernel) hN hT (Nat.le_of_ble_eq_true rfl) ?_
  intro p e s m below meth c ls cx hr hlk htab hX hB hl
  have hl : lv_has ls 6 [(0, .ref x), (1, .int (q_i a0)), (2, .int (q_i b0)), (3, .int (q_i z0)), (4, .ref out)] := hl
  obtain ⟨H, hH⟩ : ∃ H : Heap, H = s.heap := ⟨_, rfl⟩
  obtain ⟨locs, hlocs⟩ : ∃ z : List Loc, z = [] := ⟨_, rfl⟩
  rw [← hH, ← hlocs] at hB
  rw [← hH, ← hlocs]
  refine lv_aload cx.1 cx.2.1 dL_wouldArrive_0 (lv_at hl 4 rfl) ?_
  refine q_iconst cx dL_wouldArrive_2 ?_
  refine q_ald_n cx dL_wouldArrive_3 rfl (lv_at hl 0 rfl) ?_
  refine q_ild_n cx dL_wouldArrive_4 rfl (lv_at hl 1 rfl) ?_
  refine q_ild_n cx dL_wouldArrive_5 rfl (lv_at hl 2 rfl) ?_
  refine q_ild_n cx dL_wouldArrive_6 rfl (lv_at hl 3 rfl) ?_
  refine q_cXV (As := [.int (q_i a0), .int (q_i b0), .int (q_i z0)]) (rest := [.int (q_i 0), .ref out]) cx hX hB (fun _ h => h) (fun _ h _ => h) hN hx kx (by decide) rfl (x_wouldArrive l g hN hB.2.1 hfl x hx kx a0 (by omega) (by omega) b0 (by omega) (by omega) z0 (by omega) (by omega) src hsrc ksrc rdr hrdr krdr scr hscr kscr fc hfc kfc hist hhist khist rep hrep krep now hnow know dr hdr kdr sv hsv ksv tr htr ktr hf0 hf1 hf2 hf3 hf4 hf5 hf6 hf7 hf8 hf9 hf10 hf11 hf12 hf13 hr0 hr1 hr2 hr3 hr4 hr5 hr6 hr7 hr8 hr9) q_cL_69 q_dX11_wouldArrive (by decide) rfl rfl hl.1 rfl (Nat.le_of_ble_eq_true rfl) dL_wouldArrive_7 (fun E9 ce9 q9 H locs f8 hex hF hB hcell hcv hcl => ?_) (fun v9 H locs f5 h7 hF hB => ?_)
  · rcases hex with ⟨rfl, rfl⟩
    · refine vx_catch (E := "java/lang/IndexOutOfBoundsException") (name := "java/lang/IndexOutOfBoundsException") cx.2.2.2.1 [] ⟨0, 12, 15, 35⟩ [⟨0, 12, 19, 19⟩] (htab.trans rfl) (q_pnil) (by decide) (by decide) (cx.2.2.2.2 _ q_h1225) (va_Nw.use rfl (hX.2.2.2.1 (.castable "java/lang/IndexOutOfBoundsException" "java/lang/IndexOutOfBoundsException") (by decide +kernel))) hcell hcv hcl ?_
      refine lv_astore (lv' := [(5, .ref q9), (0, .ref x), (1, .int (q_i a0)), (2, .int (q_i b0)), (3, .int (q_i z0)), (4, .ref out)]) cx.1 cx.2.1 dL_wouldArrive_15 hl (by decide) rfl (fun ls hl => ?_)
      refine q_iconst cx dL_wouldArrive_17 ?_
      refine W.widen (k := 1) (n := 6) (by decide) (by decide) ?_
      refine q_iret cx hr hlk hB dL_wouldArrive_18 ⟨by decide, by decide⟩ ?_
      exact rfl
  · obtain ⟨y6, rfl, ry6, h7⟩ := h7
    exact h7.elim
set_option maxHeartbeats 4000000 in
set_option maxRecDepth 100000 in
theorem w_outIn (l : Launch) (g : q_G) {K : Nat → Nat} {L : List Nat} (hN : L.Nodup) {f : Nat → va_E} (hT : q_Ty g K L f) (hfl : l.stackTraces = false) (x : Nat) (hx : x ∈ L) (kx : K x = 11) (a0 : Int) (la0 : (-2147483648) ≤ a0) (ua0 : a0 ≤ 2147483647) (out : Nat) (hout : out ∈ L) (kout : K out = 168) (src : Nat) (hsrc : src ∈ L) (ksrc : K src = 8) (rdr : Nat) (hrdr : rdr ∈ L) (krdr : K rdr = 9) (scr : Nat) (hscr : scr ∈ L) (kscr : K scr = 7) (fc : Nat) (hfc : fc ∈ L) (kfc : K fc = 1) (hist : Nat) (hhist : hist ∈ L) (khist : K hist = 2) (rep : Nat) (hrep : rep ∈ L) (krep : K rep = 6) (now : Nat) (hnow : now ∈ L) (know : K now = 10) (dr : Nat) (hdr : dr ∈ L) (kdr : K dr = 13) (sv : Nat) (hsv : sv ∈ L) (ksv : K sv = 14) (tr : Nat) (htr : tr ∈ L) (ktr : K tr = 15) (hf0 : q_z f x 9 = 0) (hf1 : q_z f src 1 = 0) (hf2 : q_z f src 2 = 0) (hf3 : q_z f src 3 = (-1)) (hf4 : q_z f hist 1 = 0) (hf5 : q_z f hist 2 = 0) (hf6 : q_z f rep 1 = 0) (hf7 : q_z f now 3 = 0) (hf8 : q_z f now 4 = 0) (hf9 : q_z f now 5 = 0) (hf10 : q_z f now 6 = 12) (hf11 : q_z f now 10 = 3) (hf12 : q_z f now 11 = 0) (hf13 : q_z f now 12 = 0) (hr0 : q_r f x 0 = src) (hr1 : q_r f x 1 = rdr) (hr2 : q_r f x 2 = scr) (hr3 : q_r f x 3 = fc) (hr4 : q_r f x 4 = hist) (hr5 : q_r f x 5 = rep) (hr6 : q_r f x 6 = now) (hr7 : q_r f x 7 = dr) (hr8 : q_r f x 8 = sv) (hr9 : q_r f fc 0 = tr) : q_Wt l g K L yL_outIn cL_outIn 4 (some .int) [(0, 9, 12, 35)] 8 124 1 6 [.ref x, .int (q_i a0), .ref out] f [] (q_Pi (fun (z : Int) (f1 : Nat → va_E) => z = 1)) := by
  refine q_wofb (by decide +kernel) hN hT (Nat.le_of_ble_eq_true rfl) ?_
  intro p e s m below meth c ls cx hr hlk htab hX hB hl
  have hl : lv_has ls 4 [(0, .ref x), (1, .int (q_i a0)), (2, .ref out)] := hl
  obtain ⟨H, hH⟩ : ∃ H : Heap, H = s.heap := ⟨_, rfl⟩
  obtain ⟨locs, hlocs⟩ : ∃ z : List Loc, z = [] := ⟨_, rfl⟩
  rw [← hH, ← hlocs] at hB
  rw [← hH, ← hlocs]
  refine q_ald_n cx dL_outIn_0 rfl (lv_at hl 2 rfl) ?_
  refine q_iconst cx dL_outIn_1 ?_
  refine q_ald_n cx dL_outIn_2 rfl (lv_at hl 0 rfl) ?_
  refine q_ild_n cx dL_outIn_3 rfl (lv_at hl 1 rfl) ?_
  refine q_cXV (As := [.int (q_i a0)]) (rest := [.int (q_i 0), .ref out]) cx hX hB (fun _ h => h) (fun _ h _ => h) hN hx kx (by decide) rfl (x_outIn l g hN hB.2.1 hfl x hx kx a0 (by omega) (by omega) src hsrc ksrc rdr hrdr krdr scr hscr kscr fc hfc kfc hist hhist khist rep hrep krep now hnow know dr hdr kdr sv hsv ksv tr htr ktr hf0 hf1 hf2 hf3 hf4 hf5 hf6 hf7 hf8 hf9 hf10 hf11 hf12 hf13 hr0 hr1 hr2 hr3 hr4 hr5 hr6 hr7 hr8 hr9) q_cL_73 q_dX11_outIn (by decide) rfl rfl hl.1 rfl (Nat.le_of_ble_eq_true rfl) dL_outIn_4 (fun E9 ce9 q9 H locs f8 hex hF hB hcell hcv hcl => ?_) (fun v9 H locs f5 h7 hF hB => ?_)
  · rcases hex with ⟨rfl, rfl⟩
    · refine vx_catch (E := "java/lang/IndexOutOfBoundsException") (name := "java/lang/IndexOutOfBoundsException") cx.2.2.2.1 [] ⟨0, 9, 12, 35⟩ [] (htab.trans rfl) (q_pnil) (by decide) (by decide) (cx.2.2.2.2 _ q_h1225) (va_Nw.use rfl (hX.2.2.2.1 (.castable "java/lang/IndexOutOfBoundsException" "java/lang/IndexOutOfBoundsException") (by decide +kernel))) hcell hcv hcl ?_
      refine lv_astore_n (lv' := [(3, .ref q9), (0, .ref x), (1, .int (q_i a0)), (2, .ref out)]) cx.1 cx.2.1 dL_outIn_12 rfl hl (by decide) rfl (fun ls hl => ?_)
      refine q_iconst cx dL_outIn_13 ?_
      refine W.widen (k := 1) (n := 6) (by decide) (by decide) ?_
      refine q_iret cx hr hlk hB dL_outIn_14 ⟨by decide, by decide⟩ ?_
      exact rfl
  · obtain ⟨y6, rfl, ry6, h7⟩ := h7
    exact h7.elim
set_option maxHeartbeats 4000000 in
set_option maxRecDepth 100000 in
theorem w_energyIn (l : Launch) (g : q_G) {K : Nat → Nat} {L : List Nat} (hN : L.Nodup) {f : Nat → va_E} (hT : q_Ty g K L f) (hfl : l.stackTraces = false) (x : Nat) (hx : x ∈ L) (kx : K x = 11) (a0 : Int) (la0 : (-2147483648) ≤ a0) (ua0 : a0 ≤ 2147483647) (b0 : Int) (lb0 : (-2147483648) ≤ b0) (ub0 : b0 ≤ 2147483647) (out : Nat) (hout : out ∈ L) (kout : K out = 168) (src : Nat) (hsrc : src ∈ L) (ksrc : K src = 8) (rdr : Nat) (hrdr : rdr ∈ L) (krdr : K rdr = 9) (scr : Nat) (hscr : scr ∈ L) (kscr : K scr = 7) (fc : Nat) (hfc : fc ∈ L) (kfc : K fc = 1) (hist : Nat) (hhist : hist ∈ L) (khist : K hist = 2) (rep : Nat) (hrep : rep ∈ L) (krep : K rep = 6) (now : Nat) (hnow : now ∈ L) (know : K now = 10) (dr : Nat) (hdr : dr ∈ L) (kdr : K dr = 13) (sv : Nat) (hsv : sv ∈ L) (ksv : K sv = 14) (tr : Nat) (htr : tr ∈ L) (ktr : K tr = 15) (hf0 : q_z f x 9 = 0) (hf1 : q_z f src 1 = 0) (hf2 : q_z f src 2 = 0) (hf3 : q_z f src 3 = (-1)) (hf4 : q_z f hist 1 = 0) (hf5 : q_z f hist 2 = 0) (hf6 : q_z f rep 1 = 0) (hf7 : q_z f now 3 = 0) (hf8 : q_z f now 4 = 0) (hf9 : q_z f now 5 = 0) (hf10 : q_z f now 6 = 12) (hf11 : q_z f now 10 = 3) (hf12 : q_z f now 11 = 0) (hf13 : q_z f now 12 = 0) (hr0 : q_r f x 0 = src) (hr1 : q_r f x 1 = rdr) (hr2 : q_r f x 2 = scr) (hr3 : q_r f x 3 = fc) (hr4 : q_r f x 4 = hist) (hr5 : q_r f x 5 = rep) (hr6 : q_r f x 6 = now) (hr7 : q_r f x 7 = dr) (hr8 : q_r f x 8 = sv) (hr9 : q_r f fc 0 = tr) : q_Wt l g K L yL_energyIn cL_energyIn 5 (some .int) [(0, 10, 13, 35), (0, 10, 17, 19)] 8 125 1 6 [.ref x, .int (q_i a0), .int (q_i b0), .ref out] f [] (q_Pi (fun (z : Int) (f1 : Nat → va_E) => z = 1)) := by
  refine q_wofb (by decide +kernel) hN hT (Nat.le_of_ble_eq_true rfl) ?_
  intro p e s m below meth c ls cx hr hlk htab hX hB hl
  have hl : lv_has ls 5 [(0, .ref x), (1, .int (q_i a0)), (2, .int (q_i b0)), (3, .ref out)] := hl
  obtain ⟨H, hH⟩ : ∃ H : Heap, H = s.heap := ⟨_, rfl⟩
  obtain ⟨locs, hlocs⟩ : ∃ z : List Loc, z = [] := ⟨_, rfl⟩
  rw [← hH, ← hlocs] at hB
  rw [← hH, ← hlocs]
  refine q_ald_n cx dL_energyIn_0 rfl (lv_at hl 3 rfl) ?_
  refine q_iconst cx dL_energyIn_1 ?_
  refine q_ald_n cx dL_energyIn_2 rfl (lv_at hl 0 rfl) ?_
  refine q_ild_n cx dL_energyIn_3 rfl (lv_at hl 1 rfl) ?_
  refine q_ild_n cx dL_energyIn_4 rfl (lv_at hl 2 rfl) ?_
  refine q_cXV (As := [.int (q_i a0), .int (q_i b0)]) (rest := [.int (q_i 0), .ref out]) cx hX hB (fun _ h => h) (fun _ h _ => h) hN hx kx (by decide) rfl (x_energyIn l g hN hB.2.1 hfl x hx kx a0 (by omega) (by omega) b0 (by omega) (by omega) src hsrc ksrc rdr hrdr krdr scr hscr kscr fc hfc kfc hist hhist khist rep hrep krep now hnow know dr hdr kdr sv hsv ksv tr htr ktr hf0 hf1 hf2 hf3 hf4 hf5 hf6 hf7 hf8 hf9 hf10 hf11 hf12 hf13 hr0 hr1 hr2 hr3 hr4 hr5 hr6 hr7 hr8 hr9) q_cL_76 q_dX11_energyIn (by decide) rfl rfl hl.1 rfl (Nat.le_of_ble_eq_true rfl) dL_energyIn_5 (fun E9 ce9 q9 H locs f8 hex hF hB hcell hcv hcl => ?_) (fun v9 H locs f5 h7 hF hB => ?_)
  · rcases hex with ⟨rfl, rfl⟩
    · refine vx_catch (E := "java/lang/IndexOutOfBoundsException") (name := "java/lang/IndexOutOfBoundsException") cx.2.2.2.1 [] ⟨0, 10, 13, 35⟩ [⟨0, 10, 17, 19⟩] (htab.trans rfl) (q_pnil) (by decide) (by decide) (cx.2.2.2.2 _ q_h1225) (va_Nw.use rfl (hX.2.2.2.1 (.castable "java/lang/IndexOutOfBoundsException" "java/lang/IndexOutOfBoundsException") (by decide +kernel))) hcell hcv hcl ?_
      refine lv_astore (lv' := [(4, .ref q9), (0, .ref x), (1, .int (q_i a0)), (2, .int (q_i b0)), (3, .ref out)]) cx.1 cx.2.1 dL_energyIn_13 hl (by decide) rfl (fun ls hl => ?_)
      refine q_iconst cx dL_energyIn_15 ?_
      refine W.widen (k := 1) (n := 6) (by decide) (by decide) ?_
      refine q_iret cx hr hlk hB dL_energyIn_16 ⟨by decide, by decide⟩ ?_
      exact rfl
  · obtain ⟨y6, rfl, ry6, h7⟩ := h7
    exact h7.elim
set_option maxHeartbeats 4000000 in
set_option maxRecDepth 100000 in
theorem w_bestShift (l : Launch) (g : q_G) {K : Nat → Nat} {L : List Nat} (hN : L.Nodup) {f : Nat → va_E} (hT : q_Ty g K L f) (hfl : l.stackTraces = false) (x : Nat) (hx : x ∈ L) (kx : K x = 11) (a0 : Int) (la0 : (-2147483648) ≤ a0) (ua0 : a0 ≤ 2147483647) (out : Nat) (hout : out ∈ L) (kout : K out = 168) (src : Nat) (hsrc : src ∈ L) (ksrc : K src = 8) (rdr : Nat) (hrdr : rdr ∈ L) (krdr : K rdr = 9) (scr : Nat) (hscr : scr ∈ L) (kscr : K scr = 7) (fc : Nat) (hfc : fc ∈ L) (kfc : K fc = 1) (hist : Nat) (hhist : hist ∈ L) (khist : K hist = 2) (rep : Nat) (hrep : rep ∈ L) (krep : K rep = 6) (now : Nat) (hnow : now ∈ L) (know : K now = 10) (dr : Nat) (hdr : dr ∈ L) (kdr : K dr = 13) (sv : Nat) (hsv : sv ∈ L) (ksv : K sv = 14) (tr : Nat) (htr : tr ∈ L) (ktr : K tr = 15) (hf0 : q_z f x 9 = 0) (hf1 : q_z f src 1 = 0) (hf2 : q_z f src 2 = 0) (hf3 : q_z f src 3 = (-1)) (hf4 : q_z f hist 1 = 0) (hf5 : q_z f hist 2 = 0) (hf6 : q_z f rep 1 = 0) (hf7 : q_z f now 3 = 0) (hf8 : q_z f now 4 = 0) (hf9 : q_z f now 5 = 0) (hf10 : q_z f now 6 = 12) (hf11 : q_z f now 10 = 3) (hf12 : q_z f now 11 = 0) (hf13 : q_z f now 12 = 0) (hr0 : q_r f x 0 = src) (hr1 : q_r f x 1 = rdr) (hr2 : q_r f x 2 = scr) (hr3 : q_r f x 3 = fc) (hr4 : q_r f x 4 = hist) (hr5 : q_r f x 5 = rep) (hr6 : q_r f x 6 = now) (hr7 : q_r f x 7 = dr) (hr8 : q_r f x 8 = sv) (hr9 : q_r f fc 0 = tr) : q_Wt l g K L yL_bestShift cL_bestShift 4 (some .int) [(0, 9, 12, 35)] 8 124 1 6 [.ref x, .int (q_i a0), .ref out] f [] (q_Pi (fun (z : Int) (f1 : Nat → va_E) => z = 1)) := by
  refine q_wofb (by decide +kernel) hN hT (Nat.le_of_ble_eq_true rfl) ?_
  intro p e s m below meth c ls cx hr hlk htab hX hB hl
  have hl : lv_has ls 4 [(0, .ref x), (1, .int (q_i a0)), (2, .ref out)] := hl
  obtain ⟨H, hH⟩ : ∃ H : Heap, H = s.heap := ⟨_, rfl⟩
  obtain ⟨locs, hlocs⟩ : ∃ z : List Loc, z = [] := ⟨_, rfl⟩
  rw [← hH, ← hlocs] at hB
  rw [← hH, ← hlocs]
  refine q_ald_n cx dL_bestShift_0 rfl (lv_at hl 2 rfl) ?_
  refine q_iconst cx dL_bestShift_1 ?_
  refine q_ald_n cx dL_bestShift_2 rfl (lv_at hl 0 rfl) ?_
  refine q_ild_n cx dL_bestShift_3 rfl (lv_at hl 1 rfl) ?_
  refine q_cXV (As := [.int (q_i a0)]) (rest := [.int (q_i 0), .ref out]) cx hX hB (fun _ h => h) (fun _ h _ => h) hN hx kx (by decide) rfl (x_bestShift l g hN hB.2.1 hfl x hx kx a0 (by omega) (by omega) src hsrc ksrc rdr hrdr krdr scr hscr kscr fc hfc kfc hist hhist khist rep hrep krep now hnow know dr hdr kdr sv hsv ksv tr htr ktr hf0 hf1 hf2 hf3 hf4 hf5 hf6 hf7 hf8 hf9 hf10 hf11 hf12 hf13 hr0 hr1 hr2 hr3 hr4 hr5 hr6 hr7 hr8 hr9) q_cL_79 q_dX11_bestShift (by decide) rfl rfl hl.1 rfl (Nat.le_of_ble_eq_true rfl) dL_bestShift_4 (fun E9 ce9 q9 H locs f8 hex hF hB hcell hcv hcl => ?_) (fun v9 H locs f5 h7 hF hB => ?_)
  · rcases hex with ⟨rfl, rfl⟩
    · refine vx_catch (E := "java/lang/IndexOutOfBoundsException") (name := "java/lang/IndexOutOfBoundsException") cx.2.2.2.1 [] ⟨0, 9, 12, 35⟩ [] (htab.trans rfl) (q_pnil) (by decide) (by decide) (cx.2.2.2.2 _ q_h1225) (va_Nw.use rfl (hX.2.2.2.1 (.castable "java/lang/IndexOutOfBoundsException" "java/lang/IndexOutOfBoundsException") (by decide +kernel))) hcell hcv hcl ?_
      refine lv_astore_n (lv' := [(3, .ref q9), (0, .ref x), (1, .int (q_i a0)), (2, .ref out)]) cx.1 cx.2.1 dL_bestShift_12 rfl hl (by decide) rfl (fun ls hl => ?_)
      refine q_iconst cx dL_bestShift_13 ?_
      refine W.widen (k := 1) (n := 6) (by decide) (by decide) ?_
      refine q_iret cx hr hlk hB dL_bestShift_14 ⟨by decide, by decide⟩ ?_
      exact rfl
  · obtain ⟨y6, rfl, ry6, h7⟩ := h7
    exact h7.elim
set_option maxHeartbeats 4000000 in
set_option maxRecDepth 100000 in
theorem w_bestWatch (l : Launch) (g : q_G) {K : Nat → Nat} {L : List Nat} (hN : L.Nodup) {f : Nat → va_E} (hT : q_Ty g K L f) (hfl : l.stackTraces = false) (x : Nat) (hx : x ∈ L) (kx : K x = 11) (a0 : Int) (la0 : (-2147483648) ≤ a0) (ua0 : a0 ≤ 2147483647) (b0 : Int) (lb0 : (-2147483648) ≤ b0) (ub0 : b0 ≤ 2147483647) (out : Nat) (hout : out ∈ L) (kout : K out = 168) (src : Nat) (hsrc : src ∈ L) (ksrc : K src = 8) (rdr : Nat) (hrdr : rdr ∈ L) (krdr : K rdr = 9) (scr : Nat) (hscr : scr ∈ L) (kscr : K scr = 7) (fc : Nat) (hfc : fc ∈ L) (kfc : K fc = 1) (hist : Nat) (hhist : hist ∈ L) (khist : K hist = 2) (rep : Nat) (hrep : rep ∈ L) (krep : K rep = 6) (now : Nat) (hnow : now ∈ L) (know : K now = 10) (dr : Nat) (hdr : dr ∈ L) (kdr : K dr = 13) (sv : Nat) (hsv : sv ∈ L) (ksv : K sv = 14) (tr : Nat) (htr : tr ∈ L) (ktr : K tr = 15) (hf0 : q_z f x 9 = 0) (hf1 : q_z f src 1 = 0) (hf2 : q_z f src 2 = 0) (hf3 : q_z f src 3 = (-1)) (hf4 : q_z f hist 1 = 0) (hf5 : q_z f hist 2 = 0) (hf6 : q_z f rep 1 = 0) (hf7 : q_z f now 3 = 0) (hf8 : q_z f now 4 = 0) (hf9 : q_z f now 5 = 0) (hf10 : q_z f now 6 = 12) (hf11 : q_z f now 10 = 3) (hf12 : q_z f now 11 = 0) (hf13 : q_z f now 12 = 0) (hr0 : q_r f x 0 = src) (hr1 : q_r f x 1 = rdr) (hr2 : q_r f x 2 = scr) (hr3 : q_r f x 3 = fc) (hr4 : q_r f x 4 = hist) (hr5 : q_r f x 5 = rep) (hr6 : q_r f x 6 = now) (hr7 : q_r f x 7 = dr) (hr8 : q_r f x 8 = sv) (hr9 : q_r f fc 0 = tr) : q_Wt l g K L yL_bestWatch cL_bestWatch 5 (some .int) [(0, 10, 13, 35), (0, 10, 17, 19)] 8 125 1 6 [.ref x, .int (q_i a0), .int (q_i b0), .ref out] f [] (q_Pi (fun (z : Int) (f1 : Nat → va_E) => z = 1)) := by
  refine q_wofb (by decide +kernel) hN hT (Nat.le_of_ble_eq_true rfl) ?_
  intro p e s m below meth c ls cx hr hlk htab hX hB hl
  have hl : lv_has ls 5 [(0, .ref x), (1, .int (q_i a0)), (2, .int (q_i b0)), (3, .ref out)] := hl
  obtain ⟨H, hH⟩ : ∃ H : Heap, H = s.heap := ⟨_, rfl⟩
  obtain ⟨locs, hlocs⟩ : ∃ z : List Loc, z = [] := ⟨_, rfl⟩
  rw [← hH, ← hlocs] at hB
  rw [← hH, ← hlocs]
  refine q_ald_n cx dL_bestWatch_0 rfl (lv_at hl 3 rfl) ?_
  refine q_iconst cx dL_bestWatch_1 ?_
  refine q_ald_n cx dL_bestWatch_2 rfl (lv_at hl 0 rfl) ?_
  refine q_ild_n cx dL_bestWatch_3 rfl (lv_at hl 1 rfl) ?_
  refine q_ild_n cx dL_bestWatch_4 rfl (lv_at hl 2 rfl) ?_
  refine q_cXV (As := [.int (q_i a0), .int (q_i b0)]) (rest := [.int (q_i 0), .ref out]) cx hX hB (fun _ h => h) (fun _ h _ => h) hN hx kx (by decide) rfl (x_bestWatch l g hN hB.2.1 hfl x hx kx a0 (by omega) (by omega) b0 (by omega) (by omega) src hsrc ksrc rdr hrdr krdr scr hscr kscr fc hfc kfc hist hhist khist rep hrep krep now hnow know dr hdr kdr sv hsv ksv tr htr ktr hf0 hf1 hf2 hf3 hf4 hf5 hf6 hf7 hf8 hf9 hf10 hf11 hf12 hf13 hr0 hr1 hr2 hr3 hr4 hr5 hr6 hr7 hr8 hr9) q_cL_82 q_dX11_bestWatch (by decide) rfl rfl hl.1 rfl (Nat.le_of_ble_eq_true rfl) dL_bestWatch_5 (fun E9 ce9 q9 H locs f8 hex hF hB hcell hcv hcl => ?_) (fun v9 H locs f5 h7 hF hB => ?_)
  · rcases hex with ⟨rfl, rfl⟩
    · refine vx_catch (E := "java/lang/IndexOutOfBoundsException") (name := "java/lang/IndexOutOfBoundsException") cx.2.2.2.1 [] ⟨0, 10, 13, 35⟩ [⟨0, 10, 17, 19⟩] (htab.trans rfl) (q_pnil) (by decide) (by decide) (cx.2.2.2.2 _ q_h1225) (va_Nw.use rfl (hX.2.2.2.1 (.castable "java/lang/IndexOutOfBoundsException" "java/lang/IndexOutOfBoundsException") (by decide +kernel))) hcell hcv hcl ?_
      refine lv_astore (lv' := [(4, .ref q9), (0, .ref x), (1, .int (q_i a0)), (2, .int (q_i b0)), (3, .ref out)]) cx.1 cx.2.1 dL_bestWatch_13 hl (by decide) rfl (fun ls hl => ?_)
      refine q_iconst cx dL_bestWatch_15 ?_
      refine W.widen (k := 1) (n := 6) (by decide) (by decide) ?_
      refine q_iret cx hr hlk hB dL_bestWatch_16 ⟨by decide, by decide⟩ ?_
      exact rfl
  · obtain ⟨y6, rfl, ry6, h7⟩ := h7
    exact h7.elim
set_option maxHeartbeats 4000000 in
set_option maxRecDepth 100000 in
theorem w_send (l : Launch) (g : q_G) {K : Nat → Nat} {L : List Nat} (hN : L.Nodup) {f : Nat → va_E} (hT : q_Ty g K L f) (hfl : l.stackTraces = false) (x : Nat) (hx : x ∈ L) (kx : K x = 11) (a0 : Int) (la0 : (-2147483648) ≤ a0) (ua0 : a0 ≤ 2147483647) (b0 : Int) (lb0 : (-2147483648) ≤ b0) (ub0 : b0 ≤ 2147483647) (c0 : Int) (lc0 : (-2147483648) ≤ c0) (uc0 : c0 ≤ 2147483647) (z0 : Int) (lz0 : 0 ≤ z0) (uz0 : z0 ≤ 1) (out : Nat) (hout : out ∈ L) (kout : K out = 168) (src : Nat) (hsrc : src ∈ L) (ksrc : K src = 8) (rdr : Nat) (hrdr : rdr ∈ L) (krdr : K rdr = 9) (scr : Nat) (hscr : scr ∈ L) (kscr : K scr = 7) (fc : Nat) (hfc : fc ∈ L) (kfc : K fc = 1) (hist : Nat) (hhist : hist ∈ L) (khist : K hist = 2) (rep : Nat) (hrep : rep ∈ L) (krep : K rep = 6) (now : Nat) (hnow : now ∈ L) (know : K now = 10) (dr : Nat) (hdr : dr ∈ L) (kdr : K dr = 13) (sv : Nat) (hsv : sv ∈ L) (ksv : K sv = 14) (tr : Nat) (htr : tr ∈ L) (ktr : K tr = 15) (hf0 : q_z f x 9 = 0) (hf1 : q_z f src 1 = 0) (hf2 : q_z f src 2 = 0) (hf3 : q_z f src 3 = (-1)) (hf4 : q_z f hist 1 = 0) (hf5 : q_z f hist 2 = 0) (hf6 : q_z f rep 1 = 0) (hf7 : q_z f now 3 = 0) (hf8 : q_z f now 4 = 0) (hf9 : q_z f now 5 = 0) (hf10 : q_z f now 6 = 12) (hf11 : q_z f now 10 = 3) (hf12 : q_z f now 11 = 0) (hf13 : q_z f now 12 = 0) (hr0 : q_r f x 0 = src) (hr1 : q_r f x 1 = rdr) (hr2 : q_r f x 2 = scr) (hr3 : q_r f x 3 = fc) (hr4 : q_r f x 4 = hist) (hr5 : q_r f x 5 = rep) (hr6 : q_r f x 6 = now) (hr7 : q_r f x 7 = dr) (hr8 : q_r f x 8 = sv) (hr9 : q_r f fc 0 = tr) : q_Wt l g K L yL_send cL_send 7 (some .int) [(0, 14, 17, 35), (0, 14, 21, 19), (0, 14, 25, 13)] 8 127 1 6 [.ref x, .int (q_i a0), .int (q_i b0), .int (q_i c0), .int (q_i z0), .ref out] f [] (q_Pi (fun (z : Int) (f1 : Nat → va_E) => z = 1)) := by
  refine q_wofb (by decide +kernel) hN hT (Nat.le_of_ble_eq_true rfl) ?_
  intro p e s m below meth c ls cx hr hlk htab hX hB hl
  have hl : lv_has ls 7 [(0, .ref x), (1, .int (q_i a0)), (2, .int (q_i b0)), (3, .int (q_i c0)), (4, .int (q_i z0)), (5, .ref out)] := hl
  obtain ⟨H, hH⟩ : ∃ H : Heap, H = s.heap := ⟨_, rfl⟩
  obtain ⟨locs, hlocs⟩ : ∃ z : List Loc, z = [] := ⟨_, rfl⟩
  rw [← hH, ← hlocs] at hB
  rw [← hH, ← hlocs]
  refine lv_aload cx.1 cx.2.1 dL_send_0 (lv_at hl 5 rfl) ?_
  refine q_iconst cx dL_send_2 ?_
  refine q_ald_n cx dL_send_3 rfl (lv_at hl 0 rfl) ?_
  refine q_ild_n cx dL_send_4 rfl (lv_at hl 1 rfl) ?_
  refine q_ild_n cx dL_send_5 rfl (lv_at hl 2 rfl) ?_
  refine q_ild_n cx dL_send_6 rfl (lv_at hl 3 rfl) ?_
  refine lv_iload cx.1 cx.2.1 dL_send_7 (lv_at hl 4 rfl) ?_
  refine q_cXV (As := [.int (q_i a0), .int (q_i b0), .int (q_i c0), .int (q_i z0)]) (rest := [.int (q_i 0), .ref out]) cx hX hB (fun _ h => h) (fun _ h _ => h) hN hx kx (by decide) rfl (x_send l g hN hB.2.1 hfl x hx kx a0 (by omega) (by omega) b0 (by omega) (by omega) c0 (by omega) (by omega) z0 (by omega) (by omega) src hsrc ksrc rdr hrdr krdr scr hscr kscr fc hfc kfc hist hhist khist rep hrep krep now hnow know dr hdr kdr sv hsv ksv tr htr ktr hf0 hf1 hf2 hf3 hf4 hf5 hf6 hf7 hf8 hf9 hf10 hf11 hf12 hf13 hr0 hr1 hr2 hr3 hr4 hr5 hr6 hr7 hr8 hr9) q_cL_88 q_dX11_send (by decide) rfl rfl hl.1 rfl (Nat.le_of_ble_eq_true rfl) dL_send_9 (fun E9 ce9 q9 H locs f8 hex hF hB hcell hcv hcl => ?_) (fun v9 H locs f5 h7 hF hB => ?_)
  · rcases hex with ⟨rfl, rfl⟩
    · refine vx_catch (E := "java/lang/IndexOutOfBoundsException") (name := "java/lang/IndexOutOfBoundsException") cx.2.2.2.1 [] ⟨0, 14, 17, 35⟩ [⟨0, 14, 21, 19⟩, ⟨0, 14, 25, 13⟩] (htab.trans rfl) (q_pnil) (by decide) (by decide) (cx.2.2.2.2 _ q_h1225) (va_Nw.use rfl (hX.2.2.2.1 (.castable "java/lang/IndexOutOfBoundsException" "java/lang/IndexOutOfBoundsException") (by decide +kernel))) hcell hcv hcl ?_
      refine lv_astore (lv' := [(6, .ref q9), (0, .ref x), (1, .int (q_i a0)), (2, .int (q_i b0)), (3, .int (q_i c0)), (4, .int (q_i z0)), (5, .ref out)]) cx.1 cx.2.1 dL_send_17 hl (by decide) rfl (fun ls hl => ?_)
      refine q_iconst cx dL_send_19 ?_
      refine W.widen (k := 1) (n := 6) (by decide) (by decide) ?_
      refine q_iret cx hr hlk hB dL_send_20 ⟨by decide, by decide⟩ ?_
      exact rfl
  · obtain ⟨y6, rfl, ry6, h7⟩ := h7
    exact h7.elim
set_option maxHeartbeats 4000000 in
set_option maxRecDepth 100000 in
theorem w_setShift (l : Launch) (g : q_G) {K : Nat → Nat} {L : List Nat} (hN : L.Nodup) {f : Nat → va_E} (hT : q_Ty g K L f) (hfl : l.stackTraces = false) (x : Nat) (hx : x ∈ L) (kx : K x = 11) (a0 : Int) (la0 : (-2147483648) ≤ a0) (ua0 : a0 ≤ 2147483647) (b0 : Int) (lb0 : (-2147483648) ≤ b0) (ub0 : b0 ≤ 2147483647) (out : Nat) (hout : out ∈ L) (kout : K out = 168) (src : Nat) (hsrc : src ∈ L) (ksrc : K src = 8) (rdr : Nat) (hrdr : rdr ∈ L) (krdr : K rdr = 9) (scr : Nat) (hscr : scr ∈ L) (kscr : K scr = 7) (fc : Nat) (hfc : fc ∈ L) (kfc : K fc = 1) (hist : Nat) (hhist : hist ∈ L) (khist : K hist = 2) (rep : Nat) (hrep : rep ∈ L) (krep : K rep = 6) (now : Nat) (hnow : now ∈ L) (know : K now = 10) (dr : Nat) (hdr : dr ∈ L) (kdr : K dr = 13) (sv : Nat) (hsv : sv ∈ L) (ksv : K sv = 14) (tr : Nat) (htr : tr ∈ L) (ktr : K tr = 15) (hf0 : q_z f x 9 = 0) (hf1 : q_z f src 1 = 0) (hf2 : q_z f src 2 = 0) (hf3 : q_z f src 3 = (-1)) (hf4 : q_z f hist 1 = 0) (hf5 : q_z f hist 2 = 0) (hf6 : q_z f rep 1 = 0) (hf7 : q_z f now 3 = 0) (hf8 : q_z f now 4 = 0) (hf9 : q_z f now 5 = 0) (hf10 : q_z f now 6 = 12) (hf11 : q_z f now 10 = 3) (hf12 : q_z f now 11 = 0) (hf13 : q_z f now 12 = 0) (hr0 : q_r f x 0 = src) (hr1 : q_r f x 1 = rdr) (hr2 : q_r f x 2 = scr) (hr3 : q_r f x 3 = fc) (hr4 : q_r f x 4 = hist) (hr5 : q_r f x 5 = rep) (hr6 : q_r f x 6 = now) (hr7 : q_r f x 7 = dr) (hr8 : q_r f x 8 = sv) (hr9 : q_r f fc 0 = tr) : q_Wt l g K L yL_setShift cL_setShift 5 (some .int) [(0, 10, 13, 35), (0, 10, 17, 19)] 8 126 1 6 [.ref x, .int (q_i a0), .int (q_i b0), .ref out] f [] (q_Pi (fun (z : Int) (f1 : Nat → va_E) => z = 1)) := by
  refine q_wofb (by decide +kernel) hN hT (Nat.le_of_ble_eq_true rfl) ?_
  intro p e s m below meth c ls cx hr hlk htab hX hB hl
  have hl : lv_has ls 5 [(0, .ref x), (1, .int (q_i a0)), (2, .int (q_i b0)), (3, .ref out)] := hl
  obtain ⟨H, hH⟩ : ∃ H : Heap, H = s.heap := ⟨_, rfl⟩
  obtain ⟨locs, hlocs⟩ : ∃ z : List Loc, z = [] := ⟨_, rfl⟩
  rw [← hH, ← hlocs] at hB
  rw [← hH, ← hlocs]
  refine q_ald_n cx dL_setShift_0 rfl (lv_at hl 3 rfl) ?_
  refine q_iconst cx dL_setShift_1 ?_
  refine q_ald_n cx dL_setShift_2 rfl (lv_at hl 0 rfl) ?_
  refine q_ild_n cx dL_setShift_3 rfl (lv_at hl 1 rfl) ?_
  refine q_ild_n cx dL_setShift_4 rfl (lv_at hl 2 rfl) ?_
  refine q_cXV (As := [.int (q_i a0), .int (q_i b0)]) (rest := [.int (q_i 0), .ref out]) cx hX hB (fun _ h => h) (fun _ h _ => h) hN hx kx (by decide) rfl (x_setShift l g hN hB.2.1 hfl x hx kx a0 (by omega) (by omega) b0 (by omega) (by omega) src hsrc ksrc rdr hrdr krdr scr hscr kscr fc hfc kfc hist hhist khist rep hrep krep now hnow know dr hdr kdr sv hsv ksv tr htr ktr hf0 hf1 hf2 hf3 hf4 hf5 hf6 hf7 hf8 hf9 hf10 hf11 hf12 hf13 hr0 hr1 hr2 hr3 hr4 hr5 hr6 hr7 hr8 hr9) q_cL_92 q_dX11_setShift (by decide) rfl rfl hl.1 rfl (Nat.le_of_ble_eq_true rfl) dL_setShift_5 (fun E9 ce9 q9 H locs f8 hex hF hB hcell hcv hcl => ?_) (fun v9 H locs f5 h7 hF hB => ?_)
  · rcases hex with ⟨rfl, rfl⟩
    · refine vx_catch (E := "java/lang/IndexOutOfBoundsException") (name := "java/lang/IndexOutOfBoundsException") cx.2.2.2.1 [] ⟨0, 10, 13, 35⟩ [⟨0, 10, 17, 19⟩] (htab.trans rfl) (q_pnil) (by decide) (by decide) (cx.2.2.2.2 _ q_h1225) (va_Nw.use rfl (hX.2.2.2.1 (.castable "java/lang/IndexOutOfBoundsException" "java/lang/IndexOutOfBoundsException") (by decide +kernel))) hcell hcv hcl ?_
      refine lv_astore (lv' := [(4, .ref q9), (0, .ref x), (1, .int (q_i a0)), (2, .int (q_i b0)), (3, .ref out)]) cx.1 cx.2.1 dL_setShift_13 hl (by decide) rfl (fun ls hl => ?_)
      refine q_iconst cx dL_setShift_15 ?_
      refine W.widen (k := 1) (n := 6) (by decide) (by decide) ?_
      refine q_iret cx hr hlk hB dL_setShift_16 ⟨by decide, by decide⟩ ?_
      exact rfl
  · obtain ⟨y6, rfl, ry6, h7⟩ := h7
    exact h7.elim
set_option maxHeartbeats 4000000 in
set_option maxRecDepth 100000 in
theorem w_watch (l : Launch) (g : q_G) {K : Nat → Nat} {L : List Nat} (hN : L.Nodup) {f : Nat → va_E} (hT : q_Ty g K L f) (hfl : l.stackTraces = false) (x : Nat) (hx : x ∈ L) (kx : K x = 11) (a0 : Int) (la0 : (-2147483648) ≤ a0) (ua0 : a0 ≤ 2147483647) (b0 : Int) (lb0 : (-2147483648) ≤ b0) (ub0 : b0 ≤ 2147483647) (z0 : Int) (lz0 : 0 ≤ z0) (uz0 : z0 ≤ 1) (out : Nat) (hout : out ∈ L) (kout : K out = 168) (src : Nat) (hsrc : src ∈ L) (ksrc : K src = 8) (rdr : Nat) (hrdr : rdr ∈ L) (krdr : K rdr = 9) (scr : Nat) (hscr : scr ∈ L) (kscr : K scr = 7) (fc : Nat) (hfc : fc ∈ L) (kfc : K fc = 1) (hist : Nat) (hhist : hist ∈ L) (khist : K hist = 2) (rep : Nat) (hrep : rep ∈ L) (krep : K rep = 6) (now : Nat) (hnow : now ∈ L) (know : K now = 10) (dr : Nat) (hdr : dr ∈ L) (kdr : K dr = 13) (sv : Nat) (hsv : sv ∈ L) (ksv : K sv = 14) (tr : Nat) (htr : tr ∈ L) (ktr : K tr = 15) (hf0 : q_z f x 9 = 0) (hf1 : q_z f src 1 = 0) (hf2 : q_z f src 2 = 0) (hf3 : q_z f src 3 = (-1)) (hf4 : q_z f hist 1 = 0) (hf5 : q_z f hist 2 = 0) (hf6 : q_z f rep 1 = 0) (hf7 : q_z f now 3 = 0) (hf8 : q_z f now 4 = 0) (hf9 : q_z f now 5 = 0) (hf10 : q_z f now 6 = 12) (hf11 : q_z f now 10 = 3) (hf12 : q_z f now 11 = 0) (hf13 : q_z f now 12 = 0) (hr0 : q_r f x 0 = src) (hr1 : q_r f x 1 = rdr) (hr2 : q_r f x 2 = scr) (hr3 : q_r f x 3 = fc) (hr4 : q_r f x 4 = hist) (hr5 : q_r f x 5 = rep) (hr6 : q_r f x 6 = now) (hr7 : q_r f x 7 = dr) (hr8 : q_r f x 8 = sv) (hr9 : q_r f fc 0 = tr) : q_Wt l g K L yL_watch cL_watch 6 (some .int) [(0, 19, 22, 35), (0, 19, 26, 19)] 8 126 1 6 [.ref x, .int (q_i a0), .int (q_i b0), .int (q_i z0), .ref out] f [] (q_Pi (fun (z : Int) (f1 : Nat → va_E) => z = 1)) := by
  refine q_wofb (by decide +kernel) hN hT (Nat.le_of_ble_eq_true rfl) ?_
  intro p e s m below meth c ls cx hr hlk htab hX hB hl
  have hl : lv_has ls 6 [(0, .ref x), (1, .int (q_i a0)), (2, .int (q_i b0)), (3, .int (q_i z0)), (4, .ref out)] := hl
  obtain ⟨H, hH⟩ : ∃ H : Heap, H = s.heap := ⟨_, rfl⟩
  obtain ⟨locs, hlocs⟩ : ∃ z : List Loc, z = [] := ⟨_, rfl⟩
  rw [← hH, ← hlocs] at hB
  rw [← hH, ← hlocs]
  refine lv_aload cx.1 cx.2.1 dL_watch_0 (lv_at hl 4 rfl) ?_
  refine q_iconst cx dL_watch_2 ?_
  refine q_ald_n cx dL_watch_3 rfl (lv_at hl 0 rfl) ?_
  refine q_ild_n cx dL_watch_4 rfl (lv_at hl 1 rfl) ?_
  refine q_ild_n cx dL_watch_5 rfl (lv_at hl 2 rfl) ?_
  refine q_ild_n cx dL_watch_6 rfl (lv_at hl 3 rfl) ?_
  refine q_cXV (As := [.int (q_i a0), .int (q_i b0), .int (q_i z0)]) (rest := [.int (q_i 0), .ref out]) cx hX hB (fun _ h => h) (fun _ h _ => h) hN hx kx (by decide) rfl (x_watch l g hN hB.2.1 hfl x hx kx a0 (by omega) (by omega) b0 (by omega) (by omega) z0 (by omega) (by omega) src hsrc ksrc rdr hrdr krdr scr hscr kscr fc hfc kfc hist hhist khist rep hrep krep now hnow know dr hdr kdr sv hsv ksv tr htr ktr hf0 hf1 hf2 hf3 hf4 hf5 hf6 hf7 hf8 hf9 hf10 hf11 hf12 hf13 hr0 hr1 hr2 hr3 hr4 hr5 hr6 hr7 hr8 hr9) q_cL_95 q_dX11_watch (by decide) rfl rfl hl.1 rfl (Nat.le_of_ble_eq_true rfl) dL_watch_7 (fun E9 ce9 q9 H locs f8 hex hF hB hcell hcv hcl => ?_) (fun v9 H locs f5 h7 hF hB => ?_)
  · rcases hex with ⟨rfl, rfl⟩
    · refine vx_catch (E := "java/lang/IndexOutOfBoundsException") (name := "java/lang/IndexOutOfBoundsException") cx.2.2.2.1 [] ⟨0, 19, 22, 35⟩ [⟨0, 19, 26, 19⟩] (htab.trans rfl) (q_pnil) (by decide) (by decide) (cx.2.2.2.2 _ q_h1225) (va_Nw.use rfl (hX.2.2.2.1 (.castable "java/lang/IndexOutOfBoundsException" "java/lang/IndexOutOfBoundsException") (by decide +kernel))) hcell hcv hcl ?_
      refine lv_astore (lv' := [(5, .ref q9), (0, .ref x), (1, .int (q_i a0)), (2, .int (q_i b0)), (3, .int (q_i z0)), (4, .ref out)]) cx.1 cx.2.1 dL_watch_22 hl (by decide) rfl (fun ls hl => ?_)
      refine q_iconst cx dL_watch_24 ?_
      refine W.widen (k := 1) (n := 6) (by decide) (by decide) ?_
      refine q_iret cx hr hlk hB dL_watch_25 ⟨by decide, by decide⟩ ?_
      exact rfl
  · obtain ⟨y6, rfl, ry6, h7⟩ := h7
    exact h7.elim
set_option maxHeartbeats 4000000 in
set_option maxRecDepth 100000 in
theorem w_setBorn (l : Launch) (g : q_G) {K : Nat → Nat} {L : List Nat} (hN : L.Nodup) {f : Nat → va_E} (hT : q_Ty g K L f) (hfl : l.stackTraces = false) (x : Nat) (hx : x ∈ L) (kx : K x = 11) (a0 : Int) (la0 : (-2147483648) ≤ a0) (ua0 : a0 ≤ 2147483647) (b0 : Int) (lb0 : (-2147483648) ≤ b0) (ub0 : b0 ≤ 2147483647) (out : Nat) (hout : out ∈ L) (kout : K out = 168) (src : Nat) (hsrc : src ∈ L) (ksrc : K src = 8) (rdr : Nat) (hrdr : rdr ∈ L) (krdr : K rdr = 9) (scr : Nat) (hscr : scr ∈ L) (kscr : K scr = 7) (fc : Nat) (hfc : fc ∈ L) (kfc : K fc = 1) (hist : Nat) (hhist : hist ∈ L) (khist : K hist = 2) (rep : Nat) (hrep : rep ∈ L) (krep : K rep = 6) (now : Nat) (hnow : now ∈ L) (know : K now = 10) (dr : Nat) (hdr : dr ∈ L) (kdr : K dr = 13) (sv : Nat) (hsv : sv ∈ L) (ksv : K sv = 14) (tr : Nat) (htr : tr ∈ L) (ktr : K tr = 15) (hf0 : q_z f x 9 = 0) (hf1 : q_z f src 1 = 0) (hf2 : q_z f src 2 = 0) (hf3 : q_z f src 3 = (-1)) (hf4 : q_z f hist 1 = 0) (hf5 : q_z f hist 2 = 0) (hf6 : q_z f rep 1 = 0) (hf7 : q_z f now 3 = 0) (hf8 : q_z f now 4 = 0) (hf9 : q_z f now 5 = 0) (hf10 : q_z f now 6 = 12) (hf11 : q_z f now 10 = 3) (hf12 : q_z f now 11 = 0) (hf13 : q_z f now 12 = 0) (hr0 : q_r f x 0 = src) (hr1 : q_r f x 1 = rdr) (hr2 : q_r f x 2 = scr) (hr3 : q_r f x 3 = fc) (hr4 : q_r f x 4 = hist) (hr5 : q_r f x 5 = rep) (hr6 : q_r f x 6 = now) (hr7 : q_r f x 7 = dr) (hr8 : q_r f x 8 = sv) (hr9 : q_r f fc 0 = tr) : q_Wt l g K L yL_setBorn cL_setBorn 5 (some .int) [(0, 10, 13, 35), (0, 10, 17, 19)] 8 126 1 6 [.ref x, .int (q_i a0), .int (q_i b0), .ref out] f [] (q_Pi (fun (z : Int) (f1 : Nat → va_E) => z = 1)) := by
  refine q_wofb (by decide +kernel) hN hT (Nat.le_of_ble_eq_true rfl) ?_
  intro p e s m below meth c ls cx hr hlk htab hX hB hl
  have hl : lv_has ls 5 [(0, .ref x), (1, .int (q_i a0)), (2, .int (q_i b0)), (3, .ref out)] := hl
  obtain ⟨H, hH⟩ : ∃ H : Heap, H = s.heap := ⟨_, rfl⟩
  obtain ⟨locs, hlocs⟩ : ∃ z : List Loc, z = [] := ⟨_, rfl⟩
  rw [← hH, ← hlocs] at hB
  rw [← hH, ← hlocs]
  refine q_ald_n cx dL_setBorn_0 rfl (lv_at hl 3 rfl) ?_
  refine q_iconst cx dL_setBorn_1 ?_
  refine q_ald_n cx dL_setBorn_2 rfl (lv_at hl 0 rfl) ?_
  refine q_ild_n cx dL_setBorn_3 rfl (lv_at hl 1 rfl) ?_
  refine q_ild_n cx dL_setBorn_4 rfl (lv_at hl 2 rfl) ?_
  refine q_cXV (As := [.int (q_i a0), .int (q_i b0)]) (rest := [.int (q_i 0), .ref out]) cx hX hB (fun _ h => h) (fun _ h _ => h) hN hx kx (by decide) rfl (x_setBorn l g hN hB.2.1 hfl x hx kx a0 (by omega) (by omega) b0 (by omega) (by omega) src hsrc ksrc rdr hrdr krdr scr hscr kscr fc hfc kfc hist hhist khist rep hrep krep now hnow know dr hdr kdr sv hsv ksv tr htr ktr hf0 hf1 hf2 hf3 hf4 hf5 hf6 hf7 hf8 hf9 hf10 hf11 hf12 hf13 hr0 hr1 hr2 hr3 hr4 hr5 hr6 hr7 hr8 hr9) q_cL_99 q_dX11_setBorn (by decide) rfl rfl hl.1 rfl (Nat.le_of_ble_eq_true rfl) dL_setBorn_5 (fun E9 ce9 q9 H locs f8 hex hF hB hcell hcv hcl => ?_) (fun v9 H locs f5 h7 hF hB => ?_)
  · rcases hex with ⟨rfl, rfl⟩
    · refine vx_catch (E := "java/lang/IndexOutOfBoundsException") (name := "java/lang/IndexOutOfBoundsException") cx.2.2.2.1 [] ⟨0, 10, 13, 35⟩ [⟨0, 10, 17, 19⟩] (htab.trans rfl) (q_pnil) (by decide) (by decide) (cx.2.2.2.2 _ q_h1225) (va_Nw.use rfl (hX.2.2.2.1 (.castable "java/lang/IndexOutOfBoundsException" "java/lang/IndexOutOfBoundsException") (by decide +kernel))) hcell hcv hcl ?_
      refine lv_astore (lv' := [(4, .ref q9), (0, .ref x), (1, .int (q_i a0)), (2, .int (q_i b0)), (3, .ref out)]) cx.1 cx.2.1 dL_setBorn_13 hl (by decide) rfl (fun ls hl => ?_)
      refine q_iconst cx dL_setBorn_15 ?_
      refine W.widen (k := 1) (n := 6) (by decide) (by decide) ?_
      refine q_iret cx hr hlk hB dL_setBorn_16 ⟨by decide, by decide⟩ ?_
      exact rfl
  · obtain ⟨y6, rfl, ry6, h7⟩ := h7
    exact h7.elim
set_option maxHeartbeats 4000000 in
set_option maxRecDepth 100000 in
theorem w_charge (l : Launch) (g : q_G) {K : Nat → Nat} {L : List Nat} (hN : L.Nodup) {f : Nat → va_E} (hT : q_Ty g K L f) (hfl : l.stackTraces = false) (x : Nat) (hx : x ∈ L) (kx : K x = 11) (a0 : Int) (la0 : (-2147483648) ≤ a0) (ua0 : a0 ≤ 2147483647) (b0 : Int) (lb0 : (-2147483648) ≤ b0) (ub0 : b0 ≤ 2147483647) (out : Nat) (hout : out ∈ L) (kout : K out = 168) (src : Nat) (hsrc : src ∈ L) (ksrc : K src = 8) (rdr : Nat) (hrdr : rdr ∈ L) (krdr : K rdr = 9) (scr : Nat) (hscr : scr ∈ L) (kscr : K scr = 7) (fc : Nat) (hfc : fc ∈ L) (kfc : K fc = 1) (hist : Nat) (hhist : hist ∈ L) (khist : K hist = 2) (rep : Nat) (hrep : rep ∈ L) (krep : K rep = 6) (now : Nat) (hnow : now ∈ L) (know : K now = 10) (dr : Nat) (hdr : dr ∈ L) (kdr : K dr = 13) (sv : Nat) (hsv : sv ∈ L) (ksv : K sv = 14) (tr : Nat) (htr : tr ∈ L) (ktr : K tr = 15) (hf0 : q_z f x 9 = 0) (hf1 : q_z f src 1 = 0) (hf2 : q_z f src 2 = 0) (hf3 : q_z f src 3 = (-1)) (hf4 : q_z f hist 1 = 0) (hf5 : q_z f hist 2 = 0) (hf6 : q_z f rep 1 = 0) (hf7 : q_z f now 3 = 0) (hf8 : q_z f now 4 = 0) (hf9 : q_z f now 5 = 0) (hf10 : q_z f now 6 = 12) (hf11 : q_z f now 10 = 3) (hf12 : q_z f now 11 = 0) (hf13 : q_z f now 12 = 0) (hr0 : q_r f x 0 = src) (hr1 : q_r f x 1 = rdr) (hr2 : q_r f x 2 = scr) (hr3 : q_r f x 3 = fc) (hr4 : q_r f x 4 = hist) (hr5 : q_r f x 5 = rep) (hr6 : q_r f x 6 = now) (hr7 : q_r f x 7 = dr) (hr8 : q_r f x 8 = sv) (hr9 : q_r f fc 0 = tr) : q_Wt l g K L yL_charge cL_charge 5 (some .int) [(0, 10, 13, 35), (0, 10, 17, 19)] 8 125 1 6 [.ref x, .int (q_i a0), .int (q_i b0), .ref out] f [] (q_Pi (fun (z : Int) (f1 : Nat → va_E) => z = 1)) := by
  refine q_wofb (by decide +kernel) hN hT (Nat.le_of_ble_eq_true rfl) ?_
  intro p e s m below meth c ls cx hr hlk htab hX hB hl
  have hl : lv_has ls 5 [(0, .ref x), (1, .int (q_i a0)), (2, .int (q_i b0)), (3, .ref out)] := hl
  obtain ⟨H, hH⟩ : ∃ H : Heap, H = s.heap := ⟨_, rfl⟩
  obtain ⟨locs, hlocs⟩ : ∃ z : List Loc, z = [] := ⟨_, rfl⟩
  rw [← hH, ← hlocs] at hB
  rw [← hH, ← hlocs]
  refine q_ald_n cx dL_charge_0 rfl (lv_at hl 3 rfl) ?_
  refine q_iconst cx dL_charge_1 ?_
  refine q_ald_n cx dL_charge_2 rfl (lv_at hl 0 rfl) ?_
  refine q_ild_n cx dL_charge_3 rfl (lv_at hl 1 rfl) ?_
  refine q_ild_n cx dL_charge_4 rfl (lv_at hl 2 rfl) ?_
  refine q_cXV (As := [.int (q_i a0), .int (q_i b0)]) (rest := [.int (q_i 0), .ref out]) cx hX hB (fun _ h => h) (fun _ h _ => h) hN hx kx (by decide) rfl (x_charge l g hN hB.2.1 hfl x hx kx a0 (by omega) (by omega) b0 (by omega) (by omega) src hsrc ksrc rdr hrdr krdr scr hscr kscr fc hfc kfc hist hhist khist rep hrep krep now hnow know dr hdr kdr sv hsv ksv tr htr ktr hf0 hf1 hf2 hf3 hf4 hf5 hf6 hf7 hf8 hf9 hf10 hf11 hf12 hf13 hr0 hr1 hr2 hr3 hr4 hr5 hr6 hr7 hr8 hr9) q_cL_102 q_dX11_charge (by decide) rfl rfl hl.1 rfl (Nat.le_of_ble_eq_true rfl) dL_charge_5 (fun E9 ce9 q9 H locs f8 hex hF hB hcell hcv hcl => ?_) (fun v9 H locs f5 h7 hF hB => ?_)
  · rcases hex with ⟨rfl, rfl⟩
    · refine vx_catch (E := "java/lang/IndexOutOfBoundsException") (name := "java/lang/IndexOutOfBoundsException") cx.2.2.2.1 [] ⟨0, 10, 13, 35⟩ [⟨0, 10, 17, 19⟩] (htab.trans rfl) (q_pnil) (by decide) (by decide) (cx.2.2.2.2 _ q_h1225) (va_Nw.use rfl (hX.2.2.2.1 (.castable "java/lang/IndexOutOfBoundsException" "java/lang/IndexOutOfBoundsException") (by decide +kernel))) hcell hcv hcl ?_
      refine lv_astore (lv' := [(4, .ref q9), (0, .ref x), (1, .int (q_i a0)), (2, .int (q_i b0)), (3, .ref out)]) cx.1 cx.2.1 dL_charge_13 hl (by decide) rfl (fun ls hl => ?_)
      refine q_iconst cx dL_charge_15 ?_
      refine W.widen (k := 1) (n := 6) (by decide) (by decide) ?_
      refine q_iret cx hr hlk hB dL_charge_16 ⟨by decide, by decide⟩ ?_
      exact rfl
  · obtain ⟨y6, rfl, ry6, h7⟩ := h7
    exact h7.elim
set_option maxHeartbeats 4000000 in
set_option maxRecDepth 100000 in
theorem w_linka (l : Launch) (g : q_G) {K : Nat → Nat} {L : List Nat} (hN : L.Nodup) {f : Nat → va_E} (hT : q_Ty g K L f) (hfl : l.stackTraces = false) (x : Nat) (hx : x ∈ L) (kx : K x = 11) (a0 : Int) (la0 : (-2147483648) ≤ a0) (ua0 : a0 ≤ (-1)) (b0 : Int) (lb0 : (-2147483648) ≤ b0) (ub0 : b0 ≤ 2147483647) (out : Nat) (hout : out ∈ L) (kout : K out = 168) (src : Nat) (hsrc : src ∈ L) (ksrc : K src = 8) (rdr : Nat) (hrdr : rdr ∈ L) (krdr : K rdr = 9) (scr : Nat) (hscr : scr ∈ L) (kscr : K scr = 7) (fc : Nat) (hfc : fc ∈ L) (kfc : K fc = 1) (hist : Nat) (hhist : hist ∈ L) (khist : K hist = 2) (rep : Nat) (hrep : rep ∈ L) (krep : K rep = 6) (now : Nat) (hnow : now ∈ L) (know : K now = 10) (dr : Nat) (hdr : dr ∈ L) (kdr : K dr = 13) (sv : Nat) (hsv : sv ∈ L) (ksv : K sv = 14) (tr : Nat) (htr : tr ∈ L) (ktr : K tr = 15) (hf0 : q_z f x 9 = 0) (hf1 : q_z f src 1 = 0) (hf2 : q_z f src 2 = 0) (hf3 : q_z f src 3 = (-1)) (hf4 : q_z f hist 1 = 0) (hf5 : q_z f hist 2 = 0) (hf6 : q_z f rep 1 = 0) (hf7 : q_z f now 3 = 0) (hf8 : q_z f now 4 = 0) (hf9 : q_z f now 5 = 0) (hf10 : q_z f now 6 = 12) (hf11 : q_z f now 10 = 3) (hf12 : q_z f now 11 = 0) (hf13 : q_z f now 12 = 0) (hr0 : q_r f x 0 = src) (hr1 : q_r f x 1 = rdr) (hr2 : q_r f x 2 = scr) (hr3 : q_r f x 3 = fc) (hr4 : q_r f x 4 = hist) (hr5 : q_r f x 5 = rep) (hr6 : q_r f x 6 = now) (hr7 : q_r f x 7 = dr) (hr8 : q_r f x 8 = sv) (hr9 : q_r f fc 0 = tr) : q_Wt l g K L yL_link cL_link 5 (some .int) [(0, 10, 13, 35), (0, 10, 17, 19)] 7 104 1 6 [.ref x, .int (q_i a0), .int (q_i b0), .ref out] f [] (q_Pi (fun (z : Int) (f1 : Nat → va_E) => z = 1)) := by
  refine q_wofb (by decide +kernel) hN hT (Nat.le_of_ble_eq_true rfl) ?_
  intro p e s m below meth c ls cx hr hlk htab hX hB hl
  have hl : lv_has ls 5 [(0, .ref x), (1, .int (q_i a0)), (2, .int (q_i b0)), (3, .ref out)] := hl
  obtain ⟨H, hH⟩ : ∃ H : Heap, H = s.heap := ⟨_, rfl⟩
  obtain ⟨locs, hlocs⟩ : ∃ z : List Loc, z = [] := ⟨_, rfl⟩
  rw [← hH, ← hlocs] at hB
  rw [← hH, ← hlocs]
  refine q_ald_n cx dL_link_0 rfl (lv_at hl 3 rfl) ?_
  refine q_iconst cx dL_link_1 ?_
  refine q_ald_n cx dL_link_2 rfl (lv_at hl 0 rfl) ?_
  refine q_ild_n cx dL_link_3 rfl (lv_at hl 1 rfl) ?_
  refine q_ild_n cx dL_link_4 rfl (lv_at hl 2 rfl) ?_
  refine q_cXV (As := [.int (q_i a0), .int (q_i b0)]) (rest := [.int (q_i 0), .ref out]) cx hX hB (fun _ h => h) (fun _ h _ => h) hN hx kx (by decide) rfl (x_linka l g hN hB.2.1 hfl x hx kx a0 (by omega) (by omega) b0 (by omega) (by omega) src hsrc ksrc rdr hrdr krdr scr hscr kscr fc hfc kfc hist hhist khist rep hrep krep now hnow know dr hdr kdr sv hsv ksv tr htr ktr hf0 hf1 hf2 hf3 hf4 hf5 hf6 hf7 hf8 hf9 hf10 hf11 hf12 hf13 hr0 hr1 hr2 hr3 hr4 hr5 hr6 hr7 hr8 hr9) q_cL_37 q_dX11_link (by decide) rfl rfl hl.1 rfl (Nat.le_of_ble_eq_true rfl) dL_link_5 (fun E9 ce9 q9 H locs f8 hex hF hB hcell hcv hcl => ?_) (fun v9 H locs f5 h7 hF hB => ?_)
  · rcases hex with ⟨rfl, rfl⟩
    · refine vx_catch (E := "java/lang/IndexOutOfBoundsException") (name := "java/lang/IndexOutOfBoundsException") cx.2.2.2.1 [] ⟨0, 10, 13, 35⟩ [⟨0, 10, 17, 19⟩] (htab.trans rfl) (q_pnil) (by decide) (by decide) (cx.2.2.2.2 _ q_h1225) (va_Nw.use rfl (hX.2.2.2.1 (.castable "java/lang/IndexOutOfBoundsException" "java/lang/IndexOutOfBoundsException") (by decide +kernel))) hcell hcv hcl ?_
      refine lv_astore (lv' := [(4, .ref q9), (0, .ref x), (1, .int (q_i a0)), (2, .int (q_i b0)), (3, .ref out)]) cx.1 cx.2.1 dL_link_13 hl (by decide) rfl (fun ls hl => ?_)
      refine q_iconst cx dL_link_15 ?_
      refine W.widen (k := 1) (n := 6) (by decide) (by decide) ?_
      refine q_iret cx hr hlk hB dL_link_16 ⟨by decide, by decide⟩ ?_
      exact rfl
  · obtain ⟨y6, rfl, ry6, h7⟩ := h7
    exact h7.elim
set_option maxHeartbeats 4000000 in
set_option maxRecDepth 100000 in
theorem w_linkb (l : Launch) (g : q_G) {K : Nat → Nat} {L : List Nat} (hN : L.Nodup) {f : Nat → va_E} (hT : q_Ty g K L f) (hfl : l.stackTraces = false) (x : Nat) (hx : x ∈ L) (kx : K x = 11) (a0 : Int) (la0 : 0 ≤ a0) (ua0 : a0 ≤ 2147483647) (b0 : Int) (lb0 : (-2147483648) ≤ b0) (ub0 : b0 ≤ 2147483647) (out : Nat) (hout : out ∈ L) (kout : K out = 168) (src : Nat) (hsrc : src ∈ L) (ksrc : K src = 8) (rdr : Nat) (hrdr : rdr ∈ L) (krdr : K rdr = 9) (scr : Nat) (hscr : scr ∈ L) (kscr : K scr = 7) (fc : Nat) (hfc : fc ∈ L) (kfc : K fc = 1) (hist : Nat) (hhist : hist ∈ L) (khist : K hist = 2) (rep : Nat) (hrep : rep ∈ L) (krep : K rep = 6) (now : Nat) (hnow : now ∈ L) (know : K now = 10) (dr : Nat) (hdr : dr ∈ L) (kdr : K dr = 13) (sv : Nat) (hsv : sv ∈ L) (ksv : K sv = 14) (tr : Nat) (htr : tr ∈ L) (ktr : K tr = 15) (hf0 : q_z f x 9 = 0) (hf1 : q_z f src 1 = 0) (hf2 : q_z f src 2 = 0) (hf3 : q_z f src 3 = (-1)) (hf4 : q_z f hist 1 = 0) (hf5 : q_z f hist 2 = 0) (hf6 : q_z f rep 1 = 0) (hf7 : q_z f now 3 = 0) (hf8 : q_z f now 4 = 0) (hf9 : q_z f now 5 = 0) (hf10 : q_z f now 6 = 12) (hf11 : q_z f now 10 = 3) (hf12 : q_z f now 11 = 0) (hf13 : q_z f now 12 = 0) (hr0 : q_r f x 0 = src) (hr1 : q_r f x 1 = rdr) (hr2 : q_r f x 2 = scr) (hr3 : q_r f x 3 = fc) (hr4 : q_r f x 4 = hist) (hr5 : q_r f x 5 = rep) (hr6 : q_r f x 6 = now) (hr7 : q_r f x 7 = dr) (hr8 : q_r f x 8 = sv) (hr9 : q_r f fc 0 = tr) : q_Wt l g K L yL_link cL_link 5 (some .int) [(0, 10, 13, 35), (0, 10, 17, 19)] 7 104 1 6 [.ref x, .int (q_i a0), .int (q_i b0), .ref out] f [] (q_Pi (fun (z : Int) (f1 : Nat → va_E) => z = 1)) := by
  refine q_wofb (by decide +kernel) hN hT (Nat.le_of_ble_eq_true rfl) ?_
  intro p e s m below meth c ls cx hr hlk htab hX hB hl
  have hl : lv_has ls 5 [(0, .ref x), (1, .int (q_i a0)), (2, .int (q_i b0)), (3, .ref out)] := hl
  obtain ⟨H, hH⟩ : ∃ H : Heap, H = s.heap := ⟨_, rfl⟩
  obtain ⟨locs, hlocs⟩ : ∃ z : List Loc, z = [] := ⟨_, rfl⟩
  rw [← hH, ← hlocs] at hB
  rw [← hH, ← hlocs]
  refine q_ald_n cx dL_link_0 rfl (lv_at hl 3 rfl) ?_
  refine q_iconst cx dL_link_1 ?_
  refine q_ald_n cx dL_link_2 rfl (lv_at hl 0 rfl) ?_
  refine q_ild_n cx dL_link_3 rfl (lv_at hl 1 rfl) ?_
  refine q_ild_n cx dL_link_4 rfl (lv_at hl 2 rfl) ?_
  refine q_cXV (As := [.int (q_i a0), .int (q_i b0)]) (rest := [.int (q_i 0), .ref out]) cx hX hB (fun _ h => h) (fun _ h _ => h) hN hx kx (by decide) rfl (x_linkb l g hN hB.2.1 hfl x hx kx a0 (by omega) (by omega) b0 (by omega) (by omega) src hsrc ksrc rdr hrdr krdr scr hscr kscr fc hfc kfc hist hhist khist rep hrep krep now hnow know dr hdr kdr sv hsv ksv tr htr ktr hf0 hf1 hf2 hf3 hf4 hf5 hf6 hf7 hf8 hf9 hf10 hf11 hf12 hf13 hr0 hr1 hr2 hr3 hr4 hr5 hr6 hr7 hr8 hr9) q_cL_37 q_dX11_link (by decide) rfl rfl hl.1 rfl (Nat.le_of_ble_eq_true rfl) dL_link_5 (fun E9 ce9 q9 H locs f8 hex hF hB hcell hcv hcl => ?_) (fun v9 H locs f5 h7 hF hB => ?_)
  · rcases hex with ⟨rfl, rfl⟩
    · refine vx_catch (E := "java/lang/IndexOutOfBoundsException") (name := "java/lang/IndexOutOfBoundsException") cx.2.2.2.1 [] ⟨0, 10, 13, 35⟩ [⟨0, 10, 17, 19⟩] (htab.trans rfl) (q_pnil) (by decide) (by decide) (cx.2.2.2.2 _ q_h1225) (va_Nw.use rfl (hX.2.2.2.1 (.castable "java/lang/IndexOutOfBoundsException" "java/lang/IndexOutOfBoundsException") (by decide +kernel))) hcell hcv hcl ?_
      refine lv_astore (lv' := [(4, .ref q9), (0, .ref x), (1, .int (q_i a0)), (2, .int (q_i b0)), (3, .ref out)]) cx.1 cx.2.1 dL_link_13 hl (by decide) rfl (fun ls hl => ?_)
      refine q_iconst cx dL_link_15 ?_
      refine W.widen (k := 1) (n := 6) (by decide) (by decide) ?_
      refine q_iret cx hr hlk hB dL_link_16 ⟨by decide, by decide⟩ ?_
      exact rfl
  · obtain ⟨y6, rfl, ry6, h7⟩ := h7
    exact h7.elim
set_option maxHeartbeats 4000000 in
set_option maxRecDepth 100000 in
theorem w_awakeIna (l : Launch) (g : q_G) {K : Nat → Nat} {L : List Nat} (hN : L.Nodup) {f : Nat → va_E} (hT : q_Ty g K L f) (hfl : l.stackTraces = false) (x : Nat) (hx : x ∈ L) (kx : K x = 11) (a0 : Int) (la0 : (-2147483648) ≤ a0) (ua0 : a0 ≤ (-1)) (out : Nat) (hout : out ∈ L) (kout : K out = 168) (src : Nat) (hsrc : src ∈ L) (ksrc : K src = 8) (rdr : Nat) (hrdr : rdr ∈ L) (krdr : K rdr = 9) (scr : Nat) (hscr : scr ∈ L) (kscr : K scr = 7) (fc : Nat) (hfc : fc ∈ L) (kfc : K fc = 1) (hist : Nat) (hhist : hist ∈ L) (khist : K hist = 2) (rep : Nat) (hrep : rep ∈ L) (krep : K rep = 6) (now : Nat) (hnow : now ∈ L) (know : K now = 10) (dr : Nat) (hdr : dr ∈ L) (kdr : K dr = 13) (sv : Nat) (hsv : sv ∈ L) (ksv : K sv = 14) (tr : Nat) (htr : tr ∈ L) (ktr : K tr = 15) (hf0 : q_z f x 9 = 0) (hf1 : q_z f src 1 = 0) (hf2 : q_z f src 2 = 0) (hf3 : q_z f src 3 = (-1)) (hf4 : q_z f hist 1 = 0) (hf5 : q_z f hist 2 = 0) (hf6 : q_z f rep 1 = 0) (hf7 : q_z f now 3 = 0) (hf8 : q_z f now 4 = 0) (hf9 : q_z f now 5 = 0) (hf10 : q_z f now 6 = 12) (hf11 : q_z f now 10 = 3) (hf12 : q_z f now 11 = 0) (hf13 : q_z f now 12 = 0) (hr0 : q_r f x 0 = src) (hr1 : q_r f x 1 = rdr) (hr2 : q_r f x 2 = scr) (hr3 : q_r f x 3 = fc) (hr4 : q_r f x 4 = hist) (hr5 : q_r f x 5 = rep) (hr6 : q_r f x 6 = now) (hr7 : q_r f x 7 = dr) (hr8 : q_r f x 8 = sv) (hr9 : q_r f fc 0 = tr) : q_Wt l g K L yL_awakeIn cL_awakeIn 4 (some .int) [(0, 9, 12, 19)] 7 103 1 6 [.ref x, .int (q_i a0), .ref out] f [] (q_Pi (fun (z : Int) (f1 : Nat → va_E) => z = 1)) := by
  refine q_wofb (by decide +kernel) hN hT (Nat.le_of_ble_eq_true rfl) ?_
  intro p e s m below meth c ls cx hr hlk htab hX hB hl
  have hl : lv_has ls 4 [(0, .ref x), (1, .int (q_i a0)), (2, .ref out)] := hl
  obtain ⟨H, hH⟩ : ∃ H : Heap, H = s.heap := ⟨_, rfl⟩
  obtain ⟨locs, hlocs⟩ : ∃ z : List Loc, z = [] := ⟨_, rfl⟩
  rw [← hH, ← hlocs] at hB
  rw [← hH, ← hlocs]
  refine q_ald_n cx dL_awakeIn_0 rfl (lv_at hl 2 rfl) ?_
  refine q_iconst cx dL_awakeIn_1 ?_
  refine q_ald_n cx dL_awakeIn_2 rfl (lv_at hl 0 rfl) ?_
  refine q_ild_n cx dL_awakeIn_3 rfl (lv_at hl 1 rfl) ?_
  refine q_cXV (As := [.int (q_i a0)]) (rest := [.int (q_i 0), .ref out]) cx hX hB (fun _ h => h) (fun _ h _ => h) hN hx kx (by decide) rfl (x_awakeIna l g hN hB.2.1 hfl x hx kx a0 (by omega) (by omega) src hsrc ksrc rdr hrdr krdr scr hscr kscr fc hfc kfc hist hhist khist rep hrep krep now hnow know dr hdr kdr sv hsv ksv tr htr ktr hf0 hf1 hf2 hf3 hf4 hf5 hf6 hf7 hf8 hf9 hf10 hf11 hf12 hf13 hr0 hr1 hr2 hr3 hr4 hr5 hr6 hr7 hr8 hr9) q_cL_54 q_dX11_awakeIn (by decide) rfl rfl hl.1 rfl (Nat.le_of_ble_eq_true rfl) dL_awakeIn_4 (fun E9 ce9 q9 H locs f8 hex hF hB hcell hcv hcl => ?_) (fun v9 H locs f5 h7 hF hB => ?_)
  · rcases hex with ⟨rfl, rfl⟩
    · refine vx_catch (E := "java/lang/IllegalArgumentException") (name := "java/lang/IllegalArgumentException") cx.2.2.2.1 [] ⟨0, 9, 12, 19⟩ [] (htab.trans rfl) (q_pnil) (by decide) (by decide) (cx.2.2.2.2 _ q_h875) (va_Nw.use rfl (hX.2.2.2.1 (.castable "java/lang/IllegalArgumentException" "java/lang/IllegalArgumentException") (by decide +kernel))) hcell hcv hcl ?_
      refine lv_astore_n (lv' := [(3, .ref q9), (0, .ref x), (1, .int (q_i a0)), (2, .ref out)]) cx.1 cx.2.1 dL_awakeIn_12 rfl hl (by decide) rfl (fun ls hl => ?_)
      refine q_iconst cx dL_awakeIn_13 ?_
      refine W.widen (k := 1) (n := 6) (by decide) (by decide) ?_
      refine q_iret cx hr hlk hB dL_awakeIn_14 ⟨by decide, by decide⟩ ?_
      exact rfl
  · obtain ⟨y6, rfl, ry6, h7⟩ := h7
    exact h7.elim
set_option maxHeartbeats 4000000 in
set_option maxRecDepth 100000 in
theorem w_awakeInb (l : Launch) (g : q_G) {K : Nat → Nat} {L : List Nat} (hN : L.Nodup) {f : Nat → va_E} (hT : q_Ty g K L f) (hfl : l.stackTraces = false) (x : Nat) (hx : x ∈ L) (kx : K x = 11) (a0 : Int) (la0 : 0 ≤ a0) (ua0 : a0 ≤ 99) (out : Nat) (hout : out ∈ L) (kout : K out = 168) (src : Nat) (hsrc : src ∈ L) (ksrc : K src = 8) (rdr : Nat) (hrdr : rdr ∈ L) (krdr : K rdr = 9) (scr : Nat) (hscr : scr ∈ L) (kscr : K scr = 7) (fc : Nat) (hfc : fc ∈ L) (kfc : K fc = 1) (hist : Nat) (hhist : hist ∈ L) (khist : K hist = 2) (rep : Nat) (hrep : rep ∈ L) (krep : K rep = 6) (now : Nat) (hnow : now ∈ L) (know : K now = 10) (dr : Nat) (hdr : dr ∈ L) (kdr : K dr = 13) (sv : Nat) (hsv : sv ∈ L) (ksv : K sv = 14) (tr : Nat) (htr : tr ∈ L) (ktr : K tr = 15) (hf0 : q_z f x 9 = 0) (hf1 : q_z f src 1 = 0) (hf2 : q_z f src 2 = 0) (hf3 : q_z f src 3 = (-1)) (hf4 : q_z f hist 1 = 0) (hf5 : q_z f hist 2 = 0) (hf6 : q_z f rep 1 = 0) (hf7 : q_z f now 3 = 0) (hf8 : q_z f now 4 = 0) (hf9 : q_z f now 5 = 0) (hf10 : q_z f now 6 = 12) (hf11 : q_z f now 10 = 3) (hf12 : q_z f now 11 = 0) (hf13 : q_z f now 12 = 0) (hr0 : q_r f x 0 = src) (hr1 : q_r f x 1 = rdr) (hr2 : q_r f x 2 = scr) (hr3 : q_r f x 3 = fc) (hr4 : q_r f x 4 = hist) (hr5 : q_r f x 5 = rep) (hr6 : q_r f x 6 = now) (hr7 : q_r f x 7 = dr) (hr8 : q_r f x 8 = sv) (hr9 : q_r f fc 0 = tr) : q_Wt l g K L yL_awakeIn cL_awakeIn 4 (some .int) [(0, 9, 12, 19)] 2 44 0 0 [.ref x, .int (q_i a0), .ref out] f [(11, 9, 9), (8, 1, 9), (9, 0, 2), (7, 1, 4), (2, 1, 2), (6, 1, 1), (10, 3, 15), (13, 3, 15), (14, 3, 15), (15, 3, 15), (16, 3, 15), (142, 0, 599), (168, 0, 0)] (q_Pi (fun (z : Int) (f1 : Nat → va_E) => z = 0 ∧ q_j f1 out 0 = (q_l 0))) := by
  refine q_wofb (by decide +kernel) hN hT (Nat.le_of_ble_eq_true rfl) ?_
  intro p e s m below meth c ls cx hr hlk htab hX hB hl
  have hl : lv_has ls 4 [(0, .ref x), (1, .int (q_i a0)), (2, .ref out)] := hl
  obtain ⟨H, hH⟩ : ∃ H : Heap, H = s.heap := ⟨_, rfl⟩
  obtain ⟨locs, hlocs⟩ : ∃ z : List Loc, z = [] := ⟨_, rfl⟩
  rw [← hH, ← hlocs] at hB
  rw [← hH, ← hlocs]
  refine q_ald_n cx dL_awakeIn_0 rfl (lv_at hl 2 rfl) ?_
  refine q_iconst cx dL_awakeIn_1 ?_
  refine q_ald_n cx dL_awakeIn_2 rfl (lv_at hl 0 rfl) ?_
  refine q_ild_n cx dL_awakeIn_3 rfl (lv_at hl 1 rfl) ?_
  refine q_cVi (As := [.int (q_i a0)]) (rest := [.int (q_i 0), .ref out]) cx hB (fun _ h => h) hN hx kx (by decide) rfl (x_awakeInb l g hN hB.2.1 x hx kx a0 (by omega) (by omega) src hsrc ksrc rdr hrdr krdr scr hscr kscr fc hfc kfc hist hhist khist rep hrep krep now hnow know dr hdr kdr sv hsv ksv tr htr ktr hf0 hf1 hf2 hf3 hf4 hf5 hf6 hf7 hf8 hf9 hf10 hf11 hf12 hf13 hr0 hr1 hr2 hr3 hr4 hr5 hr6 hr7 hr8 hr9) q_cL_54 q_dX11_awakeIn (by decide) rfl rfl hl.1 rfl (Nat.le_of_ble_eq_true rfl) dL_awakeIn_4 (fun y31 H locs f30 ry31 h32 hF hB => ?_)
  obtain ⟨rfl, qy31⟩ := h32
  subst qy31
  refine q_i2l cx ⟨by decide, by decide⟩ dL_awakeIn_7 ?_
  refine q_last (n := 1) cx hB hout kout (by decide) rfl rfl (by decide) (by decide) (by decide) rfl rfl dL_awakeIn_8 (fun H locs f33 ef33 z34 hB => ?_)
  have z35 : q_z f33 x 9 = 0 := by rw [ef33, q_setz (Or.inr (by decide))]; exact hf0
  have z36 : q_z f33 src 1 = 0 := by rw [ef33, q_setz (Or.inr (by decide))]; exact hf1
  have z37 : q_z f33 src 2 = 0 := by rw [ef33, q_setz (Or.inr (by decide))]; exact hf2
  have z38 : q_z f33 src 3 = (-1) := by rw [ef33, q_setz (Or.inr (by decide))]; exact hf3
  have z39 : q_z f33 hist 1 = 0 := by rw [ef33, q_setz (Or.inr (by decide))]; exact hf4
  have z40 : q_z f33 hist 2 = 0 := by rw [ef33, q_setz (Or.inr (by decide))]; exact hf5
  have z41 : q_z f33 rep 1 = 0 := by rw [ef33, q_setz (Or.inr (by decide))]; exact hf6
  have z42 : q_z f33 now 3 = 0 := by rw [ef33, q_setz (Or.inr (by decide))]; exact hf7
  have z43 : q_z f33 now 4 = 0 := by rw [ef33, q_setz (Or.inr (by decide))]; exact hf8
  have z44 : q_z f33 now 5 = 0 := by rw [ef33, q_setz (Or.inr (by decide))]; exact hf9
  have z45 : q_z f33 now 6 = 12 := by rw [ef33, q_setz (Or.inr (by decide))]; exact hf10
  have z46 : q_z f33 now 10 = 3 := by rw [ef33, q_setz (Or.inr (by decide))]; exact hf11
  have z47 : q_z f33 now 11 = 0 := by rw [ef33, q_setz (Or.inr (by decide))]; exact hf12
  have z48 : q_z f33 now 12 = 0 := by rw [ef33, q_setz (Or.inr (by decide))]; exact hf13
  have z49 : q_r f33 x 0 = src := by rw [ef33, q_setr (Or.inl (fun q => by rw [q, kout] at kx; exact absurd kx (by decide)))]; exact hr0
  have z50 : q_r f33 x 1 = rdr := by rw [ef33, q_setr (Or.inr (by decide))]; exact hr1
  have z51 : q_r f33 x 2 = scr := by rw [ef33, q_setr (Or.inr (by decide))]; exact hr2
  have z52 : q_r f33 x 3 = fc := by rw [ef33, q_setr (Or.inr (by decide))]; exact hr3
  have z53 : q_r f33 x 4 = hist := by rw [ef33, q_setr (Or.inr (by decide))]; exact hr4
  have z54 : q_r f33 x 5 = rep := by rw [ef33, q_setr (Or.inr (by decide))]; exact hr5
  have z55 : q_r f33 x 6 = now := by rw [ef33, q_setr (Or.inr (by decide))]; exact hr6
  have z56 : q_r f33 x 7 = dr := by rw [ef33, q_setr (Or.inr (by decide))]; exact hr7
  have z57 : q_r f33 x 8 = sv := by rw [ef33, q_setr (Or.inr (by decide))]; exact hr8
  have z58 : q_r f33 fc 0 = tr := by rw [ef33, q_setr (Or.inl (fun q => by rw [q, kout] at kfc; exact absurd kfc (by decide)))]; exact hr9
  refine lv_goto (tgt := 15) cx.1 cx.2.1 dL_awakeIn_9 (by decide) ?_
  refine q_iconst cx dL_awakeIn_15 ?_
  refine W.widen (k := 0) (n := 0) (by decide) (by decide) ?_
  refine q_iret cx hr hlk hB dL_awakeIn_16 ⟨by decide, by decide⟩ ?_
  exact ⟨rfl, z34⟩
set_option maxHeartbeats 4000000 in
set_option maxRecDepth 100000 in
theorem w_awakeInc (l : Launch) (g : q_G) {K : Nat → Nat} {L : List Nat} (hN : L.Nodup) {f : Nat → va_E} (hT : q_Ty g K L f) (hfl : l.stackTraces = false) (x : Nat) (hx : x ∈ L) (kx : K x = 11) (a0 : Int) (la0 : 100 ≤ a0) (ua0 : a0 ≤ 2147483647) (out : Nat) (hout : out ∈ L) (kout : K out = 168) (src : Nat) (hsrc : src ∈ L) (ksrc : K src = 8) (rdr : Nat) (hrdr : rdr ∈ L) (krdr : K rdr = 9) (scr : Nat) (hscr : scr ∈ L) (kscr : K scr = 7) (fc : Nat) (hfc : fc ∈ L) (kfc : K fc = 1) (hist : Nat) (hhist : hist ∈ L) (khist : K hist = 2) (rep : Nat) (hrep : rep ∈ L) (krep : K rep = 6) (now : Nat) (hnow : now ∈ L) (know : K now = 10) (dr : Nat) (hdr : dr ∈ L) (kdr : K dr = 13) (sv : Nat) (hsv : sv ∈ L) (ksv : K sv = 14) (tr : Nat) (htr : tr ∈ L) (ktr : K tr = 15) (hf0 : q_z f x 9 = 0) (hf1 : q_z f src 1 = 0) (hf2 : q_z f src 2 = 0) (hf3 : q_z f src 3 = (-1)) (hf4 : q_z f hist 1 = 0) (hf5 : q_z f hist 2 = 0) (hf6 : q_z f rep 1 = 0) (hf7 : q_z f now 3 = 0) (hf8 : q_z f now 4 = 0) (hf9 : q_z f now 5 = 0) (hf10 : q_z f now 6 = 12) (hf11 : q_z f now 10 = 3) (hf12 : q_z f now 11 = 0) (hf13 : q_z f now 12 = 0) (hr0 : q_r f x 0 = src) (hr1 : q_r f x 1 = rdr) (hr2 : q_r f x 2 = scr) (hr3 : q_r f x 3 = fc) (hr4 : q_r f x 4 = hist) (hr5 : q_r f x 5 = rep) (hr6 : q_r f x 6 = now) (hr7 : q_r f x 7 = dr) (hr8 : q_r f x 8 = sv) (hr9 : q_r f fc 0 = tr) : q_Wt l g K L yL_awakeIn cL_awakeIn 4 (some .int) [(0, 9, 12, 19)] 7 103 1 6 [.ref x, .int (q_i a0), .ref out] f [] (q_Pi (fun (z : Int) (f1 : Nat → va_E) => z = 1)) := by
  refine q_wofb (by decide +kernel) hN hT (Nat.le_of_ble_eq_true rfl) ?_
  intro p e s m below meth c ls cx hr hlk htab hX hB hl
  have hl : lv_has ls 4 [(0, .ref x), (1, .int (q_i a0)), (2, .ref out)] := hl
  obtain ⟨H, hH⟩ : ∃ H : Heap, H = s.heap := ⟨_, rfl⟩
  obtain ⟨locs, hlocs⟩ : ∃ z : List Loc, z = [] := ⟨_, rfl⟩
  rw [← hH, ← hlocs] at hB
  rw [← hH, ← hlocs]
  refine q_ald_n cx dL_awakeIn_0 rfl (lv_at hl 2 rfl) ?_
  refine q_iconst cx dL_awakeIn_1 ?_
  refine q_ald_n cx dL_awakeIn_2 rfl (lv_at hl 0 rfl) ?_
  refine q_ild_n cx dL_awakeIn_3 rfl (lv_at hl 1 rfl) ?_
  refine q_cXV (As := [.int (q_i a0)]) (rest := [.int (q_i 0), .ref out]) cx hX hB (fun _ h => h) (fun _ h _ => h) hN hx kx (by decide) rfl (x_awakeInc l g hN hB.2.1 hfl x hx kx a0 (by omega) (by omega) src hsrc ksrc rdr hrdr krdr scr hscr kscr fc hfc kfc hist hhist khist rep hrep krep now hnow know dr hdr kdr sv hsv ksv tr htr ktr hf0 hf1 hf2 hf3 hf4 hf5 hf6 hf7 hf8 hf9 hf10 hf11 hf12 hf13 hr0 hr1 hr2 hr3 hr4 hr5 hr6 hr7 hr8 hr9) q_cL_54 q_dX11_awakeIn (by decide) rfl rfl hl.1 rfl (Nat.le_of_ble_eq_true rfl) dL_awakeIn_4 (fun E9 ce9 q9 H locs f8 hex hF hB hcell hcv hcl => ?_) (fun v9 H locs f5 h7 hF hB => ?_)
  · rcases hex with ⟨rfl, rfl⟩
    · refine vx_catch (E := "java/lang/IllegalArgumentException") (name := "java/lang/IllegalArgumentException") cx.2.2.2.1 [] ⟨0, 9, 12, 19⟩ [] (htab.trans rfl) (q_pnil) (by decide) (by decide) (cx.2.2.2.2 _ q_h875) (va_Nw.use rfl (hX.2.2.2.1 (.castable "java/lang/IllegalArgumentException" "java/lang/IllegalArgumentException") (by decide +kernel))) hcell hcv hcl ?_
      refine lv_astore_n (lv' := [(3, .ref q9), (0, .ref x), (1, .int (q_i a0)), (2, .ref out)]) cx.1 cx.2.1 dL_awakeIn_12 rfl hl (by decide) rfl (fun ls hl => ?_)
      refine q_iconst cx dL_awakeIn_13 ?_
      refine W.widen (k := 1) (n := 6) (by decide) (by decide) ?_
      refine q_iret cx hr hlk hB dL_awakeIn_14 ⟨by decide, by decide⟩ ?_
      exact rfl
  · obtain ⟨y6, rfl, ry6, h7⟩ := h7
    exact h7.elim
set_option maxHeartbeats 4000000 in
set_option maxRecDepth 100000 in
theorem w_ticka (l : Launch) (g : q_G) {K : Nat → Nat} {L : List Nat} (hN : L.Nodup) {f : Nat → va_E} (hT : q_Ty g K L f) (hfl : l.stackTraces = false) (x : Nat) (hx : x ∈ L) (kx : K x = 11) (a0 : Int) (la0 : (-2147483648) ≤ a0) (ua0 : a0 ≤ 0) (out : Nat) (hout : out ∈ L) (kout : K out = 168) (src : Nat) (hsrc : src ∈ L) (ksrc : K src = 8) (rdr : Nat) (hrdr : rdr ∈ L) (krdr : K rdr = 9) (scr : Nat) (hscr : scr ∈ L) (kscr : K scr = 7) (fc : Nat) (hfc : fc ∈ L) (kfc : K fc = 1) (hist : Nat) (hhist : hist ∈ L) (khist : K hist = 2) (rep : Nat) (hrep : rep ∈ L) (krep : K rep = 6) (now : Nat) (hnow : now ∈ L) (know : K now = 10) (dr : Nat) (hdr : dr ∈ L) (kdr : K dr = 13) (sv : Nat) (hsv : sv ∈ L) (ksv : K sv = 14) (tr : Nat) (htr : tr ∈ L) (ktr : K tr = 15) (hf0 : q_z f x 9 = 0) (hf1 : q_z f src 1 = 0) (hf2 : q_z f src 2 = 0) (hf3 : q_z f src 3 = (-1)) (hf4 : q_z f hist 1 = 0) (hf5 : q_z f hist 2 = 0) (hf6 : q_z f rep 1 = 0) (hf7 : q_z f now 3 = 0) (hf8 : q_z f now 4 = 0) (hf9 : q_z f now 5 = 0) (hf10 : q_z f now 6 = 12) (hf11 : q_z f now 10 = 3) (hf12 : q_z f now 11 = 0) (hf13 : q_z f now 12 = 0) (hr0 : q_r f x 0 = src) (hr1 : q_r f x 1 = rdr) (hr2 : q_r f x 2 = scr) (hr3 : q_r f x 3 = fc) (hr4 : q_r f x 4 = hist) (hr5 : q_r f x 5 = rep) (hr6 : q_r f x 6 = now) (hr7 : q_r f x 7 = dr) (hr8 : q_r f x 8 = sv) (hr9 : q_r f fc 0 = tr) : q_Wt l g K L yL_tick cL_tick 4 (some .int) [(0, 9, 12, 19), (0, 9, 15, 13)] 7 103 1 6 [.ref x, .int (q_i a0), .ref out] f [] (q_Pi (fun (z : Int) (f1 : Nat → va_E) => z = 1)) := by
  refine q_wofb (by decide +kernel) hN hT (Nat.le_of_ble_eq_true rfl) ?_
  intro p e s m below meth c ls cx hr hlk htab hX hB hl
  have hl : lv_has ls 4 [(0, .ref x), (1, .int (q_i a0)), (2, .ref out)] := hl
  obtain ⟨H, hH⟩ : ∃ H : Heap, H = s.heap := ⟨_, rfl⟩
  obtain ⟨locs, hlocs⟩ : ∃ z : List Loc, z = [] := ⟨_, rfl⟩
  rw [← hH, ← hlocs] at hB
  rw [← hH, ← hlocs]
  refine q_ald_n cx dL_tick_0 rfl (lv_at hl 2 rfl) ?_
  refine q_iconst cx dL_tick_1 ?_
  refine q_ald_n cx dL_tick_2 rfl (lv_at hl 0 rfl) ?_
  refine q_ild_n cx dL_tick_3 rfl (lv_at hl 1 rfl) ?_
  refine q_cXV (As := [.int (q_i a0)]) (rest := [.int (q_i 0), .ref out]) cx hX hB (fun _ h => h) (fun _ h _ => h) hN hx kx (by decide) rfl (x_ticka l g hN hB.2.1 hfl x hx kx a0 (by omega) (by omega) src hsrc ksrc rdr hrdr krdr scr hscr kscr fc hfc kfc hist hhist khist rep hrep krep now hnow know dr hdr kdr sv hsv ksv tr htr ktr hf0 hf1 hf2 hf3 hf4 hf5 hf6 hf7 hf8 hf9 hf10 hf11 hf12 hf13 hr0 hr1 hr2 hr3 hr4 hr5 hr6 hr7 hr8 hr9) q_cL_85 q_dX11_tick (by decide) rfl rfl hl.1 rfl (Nat.le_of_ble_eq_true rfl) dL_tick_4 (fun E9 ce9 q9 H locs f8 hex hF hB hcell hcv hcl => ?_) (fun v9 H locs f5 h7 hF hB => ?_)
  · rcases hex with ⟨rfl, rfl⟩
    · refine vx_catch (E := "java/lang/IllegalArgumentException") (name := "java/lang/IllegalArgumentException") cx.2.2.2.1 [] ⟨0, 9, 12, 19⟩ [⟨0, 9, 15, 13⟩] (htab.trans rfl) (q_pnil) (by decide) (by decide) (cx.2.2.2.2 _ q_h875) (va_Nw.use rfl (hX.2.2.2.1 (.castable "java/lang/IllegalArgumentException" "java/lang/IllegalArgumentException") (by decide +kernel))) hcell hcv hcl ?_
      refine lv_astore_n (lv' := [(3, .ref q9), (0, .ref x), (1, .int (q_i a0)), (2, .ref out)]) cx.1 cx.2.1 dL_tick_12 rfl hl (by decide) rfl (fun ls hl => ?_)
      refine q_iconst cx dL_tick_13 ?_
      refine W.widen (k := 1) (n := 6) (by decide) (by decide) ?_
      refine q_iret cx hr hlk hB dL_tick_14 ⟨by decide, by decide⟩ ?_
      exact rfl
  · obtain ⟨y6, rfl, ry6, h7⟩ := h7
    exact h7.elim
set_option maxHeartbeats 4000000 in
set_option maxRecDepth 100000 in
theorem w_tickb (l : Launch) (g : q_G) {K : Nat → Nat} {L : List Nat} (hN : L.Nodup) {f : Nat → va_E} (hT : q_Ty g K L f) (hfl : l.stackTraces = false) (x : Nat) (hx : x ∈ L) (kx : K x = 11) (a0 : Int) (la0 : 1 ≤ a0) (ua0 : a0 ≤ 99) (out : Nat) (hout : out ∈ L) (kout : K out = 168) (src : Nat) (hsrc : src ∈ L) (ksrc : K src = 8) (rdr : Nat) (hrdr : rdr ∈ L) (krdr : K rdr = 9) (scr : Nat) (hscr : scr ∈ L) (kscr : K scr = 7) (fc : Nat) (hfc : fc ∈ L) (kfc : K fc = 1) (hist : Nat) (hhist : hist ∈ L) (khist : K hist = 2) (rep : Nat) (hrep : rep ∈ L) (krep : K rep = 6) (now : Nat) (hnow : now ∈ L) (know : K now = 10) (dr : Nat) (hdr : dr ∈ L) (kdr : K dr = 13) (sv : Nat) (hsv : sv ∈ L) (ksv : K sv = 14) (tr : Nat) (htr : tr ∈ L) (ktr : K tr = 15) (hf0 : q_z f x 9 = 0) (hf1 : q_z f src 1 = 0) (hf2 : q_z f src 2 = 0) (hf3 : q_z f src 3 = (-1)) (hf4 : q_z f hist 1 = 0) (hf5 : q_z f hist 2 = 0) (hf6 : q_z f rep 1 = 0) (hf7 : q_z f now 3 = 0) (hf8 : q_z f now 4 = 0) (hf9 : q_z f now 5 = 0) (hf10 : q_z f now 6 = 12) (hf11 : q_z f now 10 = 3) (hf12 : q_z f now 11 = 0) (hf13 : q_z f now 12 = 0) (hr0 : q_r f x 0 = src) (hr1 : q_r f x 1 = rdr) (hr2 : q_r f x 2 = scr) (hr3 : q_r f x 3 = fc) (hr4 : q_r f x 4 = hist) (hr5 : q_r f x 5 = rep) (hr6 : q_r f x 6 = now) (hr7 : q_r f x 7 = dr) (hr8 : q_r f x 8 = sv) (hr9 : q_r f fc 0 = tr) : q_Wt l g K L yL_tick cL_tick 4 (some .int) [(0, 9, 12, 19), (0, 9, 15, 13)] 3 69 0 0 [.ref x, .int (q_i a0), .ref out] f [(11, 9, 9), (8, 1, 9), (9, 0, 2), (7, 1, 4), (2, 1, 2), (6, 1, 1), (10, 3, 15), (13, 3, 15), (14, 3, 15), (15, 3, 15), (16, 3, 15), (142, 0, 599), (168, 0, 0)] (q_Pi (fun (z : Int) (f1 : Nat → va_E) => z = 0 ∧ q_j f1 out 0 = (q_l 0))) := by
  refine q_wofb (by decide +kernel) hN hT (Nat.le_of_ble_eq_true rfl) ?_
  intro p e s m below meth c ls cx hr hlk htab hX hB hl
  have hl : lv_has ls 4 [(0, .ref x), (1, .int (q_i a0)), (2, .ref out)] := hl
  obtain ⟨H, hH⟩ : ∃ H : Heap, H = s.heap := ⟨_, rfl⟩
  obtain ⟨locs, hlocs⟩ : ∃ z : List Loc, z = [] := ⟨_, rfl⟩
  rw [← hH, ← hlocs] at hB
  rw [← hH, ← hlocs]
  refine q_ald_n cx dL_tick_0 rfl (lv_at hl 2 rfl) ?_
  refine q_iconst cx dL_tick_1 ?_
  refine q_ald_n cx dL_tick_2 rfl (lv_at hl 0 rfl) ?_
  refine q_ild_n cx dL_tick_3 rfl (lv_at hl 1 rfl) ?_
  refine q_cVi (As := [.int (q_i a0)]) (rest := [.int (q_i 0), .ref out]) cx hB (fun _ h => h) hN hx kx (by decide) rfl (x_tickb l g hN hB.2.1 x hx kx a0 (by omega) (by omega) src hsrc ksrc rdr hrdr krdr scr hscr kscr fc hfc kfc hist hhist khist rep hrep krep now hnow know dr hdr kdr sv hsv ksv tr htr ktr hf0 hf1 hf2 hf3 hf4 hf5 hf6 hf7 hf8 hf9 hf10 hf11 hf12 hf13 hr0 hr1 hr2 hr3 hr4 hr5 hr6 hr7 hr8 hr9) q_cL_85 q_dX11_tick (by decide) rfl rfl hl.1 rfl (Nat.le_of_ble_eq_true rfl) dL_tick_4 (fun y27 H locs f26 ry27 h28 hF hB => ?_)
  have qy27 := h28
  have z29 : q_r f26 x 0 = src := (hF.r hx (by rw [kx]; rfl)).trans hr0
  have z30 : q_r f26 x 1 = rdr := (hF.r hx (by rw [kx]; rfl)).trans hr1
  have z31 : q_r f26 x 2 = scr := (hF.r hx (by rw [kx]; rfl)).trans hr2
  have z32 : q_r f26 x 3 = fc := (hF.r hx (by rw [kx]; rfl)).trans hr3
  have z33 : q_r f26 x 4 = hist := (hF.r hx (by rw [kx]; rfl)).trans hr4
  have z34 : q_r f26 x 5 = rep := (hF.r hx (by rw [kx]; rfl)).trans hr5
  have z35 : q_r f26 x 6 = now := (hF.r hx (by rw [kx]; rfl)).trans hr6
  have z36 : q_r f26 x 7 = dr := (hF.r hx (by rw [kx]; rfl)).trans hr7
  have z37 : q_r f26 x 8 = sv := (hF.r hx (by rw [kx]; rfl)).trans hr8
  have z38 : q_r f26 fc 0 = tr := (hF.r hfc (by rw [kfc]; rfl)).trans hr9
  subst qy27
  refine q_i2l cx ⟨by decide, by decide⟩ dL_tick_7 ?_
  refine q_last (n := 1) cx hB hout kout (by decide) rfl rfl (by decide) (by decide) (by decide) rfl rfl dL_tick_8 (fun H locs f39 ef39 z40 hB => ?_)
  have z41 : q_r f39 x 0 = src := by rw [ef39, q_setr (Or.inl (fun q => by rw [q, kout] at kx; exact absurd kx (by decide)))]; exact z29
  have z42 : q_r f39 x 1 = rdr := by rw [ef39, q_setr (Or.inr (by decide))]; exact z30
  have z43 : q_r f39 x 2 = scr := by rw [ef39, q_setr (Or.inr (by decide))]; exact z31
  have z44 : q_r f39 x 3 = fc := by rw [ef39, q_setr (Or.inr (by decide))]; exact z32
  have z45 : q_r f39 x 4 = hist := by rw [ef39, q_setr (Or.inr (by decide))]; exact z33
  have z46 : q_r f39 x 5 = rep := by rw [ef39, q_setr (Or.inr (by decide))]; exact z34
  have z47 : q_r f39 x 6 = now := by rw [ef39, q_setr (Or.inr (by decide))]; exact z35
  have z48 : q_r f39 x 7 = dr := by rw [ef39, q_setr (Or.inr (by decide))]; exact z36
  have z49 : q_r f39 x 8 = sv := by rw [ef39, q_setr (Or.inr (by decide))]; exact z37
  have z50 : q_r f39 fc 0 = tr := by rw [ef39, q_setr (Or.inl (fun q => by rw [q, kout] at kfc; exact absurd kfc (by decide)))]; exact z38
  refine lv_goto (tgt := 18) cx.1 cx.2.1 dL_tick_9 (by decide) ?_
  refine q_iconst cx dL_tick_18 ?_
  refine W.widen (k := 0) (n := 0) (by decide) (by decide) ?_
  refine q_iret cx hr hlk hB dL_tick_19 ⟨by decide, by decide⟩ ?_
  exact ⟨rfl, z40⟩
set_option maxHeartbeats 4000000 in
set_option maxRecDepth 100000 in
theorem w_tickc (l : Launch) (g : q_G) {K : Nat → Nat} {L : List Nat} (hN : L.Nodup) {f : Nat → va_E} (hT : q_Ty g K L f) (hfl : l.stackTraces = false) (x : Nat) (hx : x ∈ L) (kx : K x = 11) (a0 : Int) (la0 : 100 ≤ a0) (ua0 : a0 ≤ 2147483647) (out : Nat) (hout : out ∈ L) (kout : K out = 168) (src : Nat) (hsrc : src ∈ L) (ksrc : K src = 8) (rdr : Nat) (hrdr : rdr ∈ L) (krdr : K rdr = 9) (scr : Nat) (hscr : scr ∈ L) (kscr : K scr = 7) (fc : Nat) (hfc : fc ∈ L) (kfc : K fc = 1) (hist : Nat) (hhist : hist ∈ L) (khist : K hist = 2) (rep : Nat) (hrep : rep ∈ L) (krep : K rep = 6) (now : Nat) (hnow : now ∈ L) (know : K now = 10) (dr : Nat) (hdr : dr ∈ L) (kdr : K dr = 13) (sv : Nat) (hsv : sv ∈ L) (ksv : K sv = 14) (tr : Nat) (htr : tr ∈ L) (ktr : K tr = 15) (hf0 : q_z f x 9 = 0) (hf1 : q_z f src 1 = 0) (hf2 : q_z f src 2 = 0) (hf3 : q_z f src 3 = (-1)) (hf4 : q_z f hist 1 = 0) (hf5 : q_z f hist 2 = 0) (hf6 : q_z f rep 1 = 0) (hf7 : q_z f now 3 = 0) (hf8 : q_z f now 4 = 0) (hf9 : q_z f now 5 = 0) (hf10 : q_z f now 6 = 12) (hf11 : q_z f now 10 = 3) (hf12 : q_z f now 11 = 0) (hf13 : q_z f now 12 = 0) (hr0 : q_r f x 0 = src) (hr1 : q_r f x 1 = rdr) (hr2 : q_r f x 2 = scr) (hr3 : q_r f x 3 = fc) (hr4 : q_r f x 4 = hist) (hr5 : q_r f x 5 = rep) (hr6 : q_r f x 6 = now) (hr7 : q_r f x 7 = dr) (hr8 : q_r f x 8 = sv) (hr9 : q_r f fc 0 = tr) : q_Wt l g K L yL_tick cL_tick 4 (some .int) [(0, 9, 12, 19), (0, 9, 15, 13)] 7 103 1 6 [.ref x, .int (q_i a0), .ref out] f [] (q_Pi (fun (z : Int) (f1 : Nat → va_E) => z = 1)) := by
  refine q_wofb (by decide +kernel) hN hT (Nat.le_of_ble_eq_true rfl) ?_
  intro p e s m below meth c ls cx hr hlk htab hX hB hl
  have hl : lv_has ls 4 [(0, .ref x), (1, .int (q_i a0)), (2, .ref out)] := hl
  obtain ⟨H, hH⟩ : ∃ H : Heap, H = s.heap := ⟨_, rfl⟩
  obtain ⟨locs, hlocs⟩ : ∃ z : List Loc, z = [] := ⟨_, rfl⟩
  rw [← hH, ← hlocs] at hB
  rw [← hH, ← hlocs]
  refine q_ald_n cx dL_tick_0 rfl (lv_at hl 2 rfl) ?_
  refine q_iconst cx dL_tick_1 ?_
  refine q_ald_n cx dL_tick_2 rfl (lv_at hl 0 rfl) ?_
  refine q_ild_n cx dL_tick_3 rfl (lv_at hl 1 rfl) ?_
  refine q_cXV (As := [.int (q_i a0)]) (rest := [.int (q_i 0), .ref out]) cx hX hB (fun _ h => h) (fun _ h _ => h) hN hx kx (by decide) rfl (x_tickc l g hN hB.2.1 hfl x hx kx a0 (by omega) (by omega) src hsrc ksrc rdr hrdr krdr scr hscr kscr fc hfc kfc hist hhist khist rep hrep krep now hnow know dr hdr kdr sv hsv ksv tr htr ktr hf0 hf1 hf2 hf3 hf4 hf5 hf6 hf7 hf8 hf9 hf10 hf11 hf12 hf13 hr0 hr1 hr2 hr3 hr4 hr5 hr6 hr7 hr8 hr9) q_cL_85 q_dX11_tick (by decide) rfl rfl hl.1 rfl (Nat.le_of_ble_eq_true rfl) dL_tick_4 (fun E9 ce9 q9 H locs f8 hex hF hB hcell hcv hcl => ?_) (fun v9 H locs f5 h7 hF hB => ?_)
  · rcases hex with ⟨rfl, rfl⟩
    · refine vx_catch (E := "java/lang/IllegalArgumentException") (name := "java/lang/IllegalArgumentException") cx.2.2.2.1 [] ⟨0, 9, 12, 19⟩ [⟨0, 9, 15, 13⟩] (htab.trans rfl) (q_pnil) (by decide) (by decide) (cx.2.2.2.2 _ q_h875) (va_Nw.use rfl (hX.2.2.2.1 (.castable "java/lang/IllegalArgumentException" "java/lang/IllegalArgumentException") (by decide +kernel))) hcell hcv hcl ?_
      refine lv_astore_n (lv' := [(3, .ref q9), (0, .ref x), (1, .int (q_i a0)), (2, .ref out)]) cx.1 cx.2.1 dL_tick_12 rfl hl (by decide) rfl (fun ls hl => ?_)
      refine q_iconst cx dL_tick_13 ?_
      refine W.widen (k := 1) (n := 6) (by decide) (by decide) ?_
      refine q_iret cx hr hlk hB dL_tick_14 ⟨by decide, by decide⟩ ?_
      exact rfl
  · obtain ⟨y6, rfl, ry6, h7⟩ := h7
    exact h7.elim
set_option maxHeartbeats 4000000 in
set_option maxRecDepth 100000 in
theorem w_setMissa (l : Launch) (g : q_G) {K : Nat → Nat} {L : List Nat} (hN : L.Nodup) {f : Nat → va_E} (hT : q_Ty g K L f) (hfl : l.stackTraces = false) (x : Nat) (hx : x ∈ L) (kx : K x = 11) (a0 : Int) (la0 : (-2147483648) ≤ a0) (ua0 : a0 ≤ 0) (out : Nat) (hout : out ∈ L) (kout : K out = 168) (src : Nat) (hsrc : src ∈ L) (ksrc : K src = 8) (rdr : Nat) (hrdr : rdr ∈ L) (krdr : K rdr = 9) (scr : Nat) (hscr : scr ∈ L) (kscr : K scr = 7) (fc : Nat) (hfc : fc ∈ L) (kfc : K fc = 1) (hist : Nat) (hhist : hist ∈ L) (khist : K hist = 2) (rep : Nat) (hrep : rep ∈ L) (krep : K rep = 6) (now : Nat) (hnow : now ∈ L) (know : K now = 10) (dr : Nat) (hdr : dr ∈ L) (kdr : K dr = 13) (sv : Nat) (hsv : sv ∈ L) (ksv : K sv = 14) (tr : Nat) (htr : tr ∈ L) (ktr : K tr = 15) (hf0 : q_z f x 9 = 0) (hf1 : q_z f src 1 = 0) (hf2 : q_z f src 2 = 0) (hf3 : q_z f src 3 = (-1)) (hf4 : q_z f hist 1 = 0) (hf5 : q_z f hist 2 = 0) (hf6 : q_z f rep 1 = 0) (hf7 : q_z f now 3 = 0) (hf8 : q_z f now 4 = 0) (hf9 : q_z f now 5 = 0) (hf10 : q_z f now 6 = 12) (hf11 : q_z f now 10 = 3) (hf12 : q_z f now 11 = 0) (hf13 : q_z f now 12 = 0) (hr0 : q_r f x 0 = src) (hr1 : q_r f x 1 = rdr) (hr2 : q_r f x 2 = scr) (hr3 : q_r f x 3 = fc) (hr4 : q_r f x 4 = hist) (hr5 : q_r f x 5 = rep) (hr6 : q_r f x 6 = now) (hr7 : q_r f x 7 = dr) (hr8 : q_r f x 8 = sv) (hr9 : q_r f fc 0 = tr) : q_Wt l g K L yL_setMiss cL_setMiss 4 (some .int) [(0, 9, 12, 19)] 7 104 1 6 [.ref x, .int (q_i a0), .ref out] f [] (q_Pi (fun (z : Int) (f1 : Nat → va_E) => z = 1)) := by
  refine q_wofb (by decide +kernel) hN hT (Nat.le_of_ble_eq_true rfl) ?_
  intro p e s m below meth c ls cx hr hlk htab hX hB hl
  have hl : lv_has ls 4 [(0, .ref x), (1, .int (q_i a0)), (2, .ref out)] := hl
  obtain ⟨H, hH⟩ : ∃ H : Heap, H = s.heap := ⟨_, rfl⟩
  obtain ⟨locs, hlocs⟩ : ∃ z : List Loc, z = [] := ⟨_, rfl⟩
  rw [← hH, ← hlocs] at hB
  rw [← hH, ← hlocs]
  refine q_ald_n cx dL_setMiss_0 rfl (lv_at hl 2 rfl) ?_
  refine q_iconst cx dL_setMiss_1 ?_
  refine q_ald_n cx dL_setMiss_2 rfl (lv_at hl 0 rfl) ?_
  refine q_ild_n cx dL_setMiss_3 rfl (lv_at hl 1 rfl) ?_
  refine q_cXV (As := [.int (q_i a0)]) (rest := [.int (q_i 0), .ref out]) cx hX hB (fun _ h => h) (fun _ h _ => h) hN hx kx (by decide) rfl (x_setMissa l g hN hB.2.1 hfl x hx kx a0 (by omega) (by omega) src hsrc ksrc rdr hrdr krdr scr hscr kscr fc hfc kfc hist hhist khist rep hrep krep now hnow know dr hdr kdr sv hsv ksv tr htr ktr hf0 hf1 hf2 hf3 hf4 hf5 hf6 hf7 hf8 hf9 hf10 hf11 hf12 hf13 hr0 hr1 hr2 hr3 hr4 hr5 hr6 hr7 hr8 hr9) q_cL_105 q_dX11_setMiss (by decide) rfl rfl hl.1 rfl (Nat.le_of_ble_eq_true rfl) dL_setMiss_4 (fun E9 ce9 q9 H locs f8 hex hF hB hcell hcv hcl => ?_) (fun v9 H locs f5 h7 hF hB => ?_)
  · rcases hex with ⟨rfl, rfl⟩
    · refine vx_catch (E := "java/lang/IllegalArgumentException") (name := "java/lang/IllegalArgumentException") cx.2.2.2.1 [] ⟨0, 9, 12, 19⟩ [] (htab.trans rfl) (q_pnil) (by decide) (by decide) (cx.2.2.2.2 _ q_h875) (va_Nw.use rfl (hX.2.2.2.1 (.castable "java/lang/IllegalArgumentException" "java/lang/IllegalArgumentException") (by decide +kernel))) hcell hcv hcl ?_
      refine lv_astore_n (lv' := [(3, .ref q9), (0, .ref x), (1, .int (q_i a0)), (2, .ref out)]) cx.1 cx.2.1 dL_setMiss_12 rfl hl (by decide) rfl (fun ls hl => ?_)
      refine q_iconst cx dL_setMiss_13 ?_
      refine W.widen (k := 1) (n := 6) (by decide) (by decide) ?_
      refine q_iret cx hr hlk hB dL_setMiss_14 ⟨by decide, by decide⟩ ?_
      exact rfl
  · obtain ⟨y6, rfl, ry6, h7⟩ := h7
    exact h7.elim
set_option maxHeartbeats 4000000 in
set_option maxRecDepth 100000 in
theorem w_setMissb (l : Launch) (g : q_G) {K : Nat → Nat} {L : List Nat} (hN : L.Nodup) {f : Nat → va_E} (hT : q_Ty g K L f) (hfl : l.stackTraces = false) (x : Nat) (hx : x ∈ L) (kx : K x = 11) (a0 : Int) (la0 : 1 ≤ a0) (ua0 : a0 ≤ 9) (out : Nat) (hout : out ∈ L) (kout : K out = 168) (src : Nat) (hsrc : src ∈ L) (ksrc : K src = 8) (rdr : Nat) (hrdr : rdr ∈ L) (krdr : K rdr = 9) (scr : Nat) (hscr : scr ∈ L) (kscr : K scr = 7) (fc : Nat) (hfc : fc ∈ L) (kfc : K fc = 1) (hist : Nat) (hhist : hist ∈ L) (khist : K hist = 2) (rep : Nat) (hrep : rep ∈ L) (krep : K rep = 6) (now : Nat) (hnow : now ∈ L) (know : K now = 10) (dr : Nat) (hdr : dr ∈ L) (kdr : K dr = 13) (sv : Nat) (hsv : sv ∈ L) (ksv : K sv = 14) (tr : Nat) (htr : tr ∈ L) (ktr : K tr = 15) (hf0 : q_z f x 9 = 0) (hf1 : q_z f src 1 = 0) (hf2 : q_z f src 2 = 0) (hf3 : q_z f src 3 = (-1)) (hf4 : q_z f hist 1 = 0) (hf5 : q_z f hist 2 = 0) (hf6 : q_z f rep 1 = 0) (hf7 : q_z f now 3 = 0) (hf8 : q_z f now 4 = 0) (hf9 : q_z f now 5 = 0) (hf10 : q_z f now 6 = 12) (hf11 : q_z f now 10 = 3) (hf12 : q_z f now 11 = 0) (hf13 : q_z f now 12 = 0) (hr0 : q_r f x 0 = src) (hr1 : q_r f x 1 = rdr) (hr2 : q_r f x 2 = scr) (hr3 : q_r f x 3 = fc) (hr4 : q_r f x 4 = hist) (hr5 : q_r f x 5 = rep) (hr6 : q_r f x 6 = now) (hr7 : q_r f x 7 = dr) (hr8 : q_r f x 8 = sv) (hr9 : q_r f fc 0 = tr) : q_Wt l g K L yL_setMiss cL_setMiss 4 (some .int) [(0, 9, 12, 19)] 3 65 0 0 [.ref x, .int (q_i a0), .ref out] f [(11, 9, 9), (8, 1, 9), (9, 0, 2), (7, 1, 4), (2, 1, 2), (6, 1, 1), (10, 3, 15), (13, 3, 15), (14, 3, 15), (15, 3, 15), (16, 3, 15), (142, 0, 599), (168, 0, 0)] (q_Pi (fun (z : Int) (f1 : Nat → va_E) => z = 0 ∧ q_j f1 out 0 = (q_l 3))) := by
  refine q_wofb (by decide +kernel) hN hT (Nat.le_of_ble_eq_true rfl) ?_
  intro p e s m below meth c ls cx hr hlk htab hX hB hl
  have hl : lv_has ls 4 [(0, .ref x), (1, .int (q_i a0)), (2, .ref out)] := hl
  obtain ⟨H, hH⟩ : ∃ H : Heap, H = s.heap := ⟨_, rfl⟩
  obtain ⟨locs, hlocs⟩ : ∃ z : List Loc, z = [] := ⟨_, rfl⟩
  rw [← hH, ← hlocs] at hB
  rw [← hH, ← hlocs]
  refine q_ald_n cx dL_setMiss_0 rfl (lv_at hl 2 rfl) ?_
  refine q_iconst cx dL_setMiss_1 ?_
  refine q_ald_n cx dL_setMiss_2 rfl (lv_at hl 0 rfl) ?_
  refine q_ild_n cx dL_setMiss_3 rfl (lv_at hl 1 rfl) ?_
  refine q_cVi (As := [.int (q_i a0)]) (rest := [.int (q_i 0), .ref out]) cx hB (fun _ h => h) hN hx kx (by decide) rfl (x_setMissb l g hN hB.2.1 x hx kx a0 (by omega) (by omega) src hsrc ksrc rdr hrdr krdr scr hscr kscr fc hfc kfc hist hhist khist rep hrep krep now hnow know dr hdr kdr sv hsv ksv tr htr ktr hf0 hf1 hf2 hf3 hf4 hf5 hf6 hf7 hf8 hf9 hf10 hf11 hf12 hf13 hr0 hr1 hr2 hr3 hr4 hr5 hr6 hr7 hr8 hr9) q_cL_105 q_dX11_setMiss (by decide) rfl rfl hl.1 rfl (Nat.le_of_ble_eq_true rfl) dL_setMiss_4 (fun y27 H locs f26 ry27 h28 hF hB => ?_)
  have qy27 := h28
  have z29 : q_r f26 x 0 = src := (hF.r hx (by rw [kx]; rfl)).trans hr0
  have z30 : q_r f26 x 1 = rdr := (hF.r hx (by rw [kx]; rfl)).trans hr1
  have z31 : q_r f26 x 2 = scr := (hF.r hx (by rw [kx]; rfl)).trans hr2
  have z32 : q_r f26 x 3 = fc := (hF.r hx (by rw [kx]; rfl)).trans hr3
  have z33 : q_r f26 x 4 = hist := (hF.r hx (by rw [kx]; rfl)).trans hr4
  have z34 : q_r f26 x 5 = rep := (hF.r hx (by rw [kx]; rfl)).trans hr5
  have z35 : q_r f26 x 6 = now := (hF.r hx (by rw [kx]; rfl)).trans hr6
  have z36 : q_r f26 x 7 = dr := (hF.r hx (by rw [kx]; rfl)).trans hr7
  have z37 : q_r f26 x 8 = sv := (hF.r hx (by rw [kx]; rfl)).trans hr8
  have z38 : q_r f26 fc 0 = tr := (hF.r hfc (by rw [kfc]; rfl)).trans hr9
  subst qy27
  refine q_i2l cx ⟨by decide, by decide⟩ dL_setMiss_7 ?_
  refine q_last (n := 1) cx hB hout kout (by decide) rfl rfl (by decide) (by decide) (by decide) rfl rfl dL_setMiss_8 (fun H locs f39 ef39 z40 hB => ?_)
  have z41 : q_r f39 x 0 = src := by rw [ef39, q_setr (Or.inl (fun q => by rw [q, kout] at kx; exact absurd kx (by decide)))]; exact z29
  have z42 : q_r f39 x 1 = rdr := by rw [ef39, q_setr (Or.inr (by decide))]; exact z30
  have z43 : q_r f39 x 2 = scr := by rw [ef39, q_setr (Or.inr (by decide))]; exact z31
  have z44 : q_r f39 x 3 = fc := by rw [ef39, q_setr (Or.inr (by decide))]; exact z32
  have z45 : q_r f39 x 4 = hist := by rw [ef39, q_setr (Or.inr (by decide))]; exact z33
  have z46 : q_r f39 x 5 = rep := by rw [ef39, q_setr (Or.inr (by decide))]; exact z34
  have z47 : q_r f39 x 6 = now := by rw [ef39, q_setr (Or.inr (by decide))]; exact z35
  have z48 : q_r f39 x 7 = dr := by rw [ef39, q_setr (Or.inr (by decide))]; exact z36
  have z49 : q_r f39 x 8 = sv := by rw [ef39, q_setr (Or.inr (by decide))]; exact z37
  have z50 : q_r f39 fc 0 = tr := by rw [ef39, q_setr (Or.inl (fun q => by rw [q, kout] at kfc; exact absurd kfc (by decide)))]; exact z38
  refine lv_goto (tgt := 15) cx.1 cx.2.1 dL_setMiss_9 (by decide) ?_
  refine q_iconst cx dL_setMiss_15 ?_
  refine W.widen (k := 0) (n := 0) (by decide) (by decide) ?_
  refine q_iret cx hr hlk hB dL_setMiss_16 ⟨by decide, by decide⟩ ?_
  exact ⟨rfl, z40⟩
set_option maxHeartbeats 4000000 in
set_option maxRecDepth 100000 in
theorem w_setMissc (l : Launch) (g : q_G) {K : Nat → Nat} {L : List Nat} (hN : L.Nodup) {f : Nat → va_E} (hT : q_Ty g K L f) (hfl : l.stackTraces = false) (x : Nat) (hx : x ∈ L) (kx : K x = 11) (a0 : Int) (la0 : 10 ≤ a0) (ua0 : a0 ≤ 2147483647) (out : Nat) (hout : out ∈ L) (kout : K out = 168) (src : Nat) (hsrc : src ∈ L) (ksrc : K src = 8) (rdr : Nat) (hrdr : rdr ∈ L) (krdr : K rdr = 9) (scr : Nat) (hscr : scr ∈ L) (kscr : K scr = 7) (fc : Nat) (hfc : fc ∈ L) (kfc : K fc = 1) (hist : Nat) (hhist : hist ∈ L) (khist : K hist = 2) (rep : Nat) (hrep : rep ∈ L) (krep : K rep = 6) (now : Nat) (hnow : now ∈ L) (know : K now = 10) (dr : Nat) (hdr : dr ∈ L) (kdr : K dr = 13) (sv : Nat) (hsv : sv ∈ L) (ksv : K sv = 14) (tr : Nat) (htr : tr ∈ L) (ktr : K tr = 15) (hf0 : q_z f x 9 = 0) (hf1 : q_z f src 1 = 0) (hf2 : q_z f src 2 = 0) (hf3 : q_z f src 3 = (-1)) (hf4 : q_z f hist 1 = 0) (hf5 : q_z f hist 2 = 0) (hf6 : q_z f rep 1 = 0) (hf7 : q_z f now 3 = 0) (hf8 : q_z f now 4 = 0) (hf9 : q_z f now 5 = 0) (hf10 : q_z f now 6 = 12) (hf11 : q_z f now 10 = 3) (hf12 : q_z f now 11 = 0) (hf13 : q_z f now 12 = 0) (hr0 : q_r f x 0 = src) (hr1 : q_r f x 1 = rdr) (hr2 : q_r f x 2 = scr) (hr3 : q_r f x 3 = fc) (hr4 : q_r f x 4 = hist) (hr5 : q_r f x 5 = rep) (hr6 : q_r f x 6 = now) (hr7 : q_r f x 7 = dr) (hr8 : q_r f x 8 = sv) (hr9 : q_r f fc 0 = tr) : q_Wt l g K L yL_setMiss cL_setMiss 4 (some .int) [(0, 9, 12, 19)] 7 104 1 6 [.ref x, .int (q_i a0), .ref out] f [] (q_Pi (fun (z : Int) (f1 : Nat → va_E) => z = 1)) := by
  refine q_wofb (by decide +kernel) hN hT (Nat.le_of_ble_eq_true rfl) ?_
  intro p e s m below meth c ls cx hr hlk htab hX hB hl
  have hl : lv_has ls 4 [(0, .ref x), (1, .int (q_i a0)), (2, .ref out)] := hl
  obtain ⟨H, hH⟩ : ∃ H : Heap, H = s.heap := ⟨_, rfl⟩
  obtain ⟨locs, hlocs⟩ : ∃ z : List Loc, z = [] := ⟨_, rfl⟩
  rw [← hH, ← hlocs] at hB
  rw [← hH, ← hlocs]
  refine q_ald_n cx dL_setMiss_0 rfl (lv_at hl 2 rfl) ?_
  refine q_iconst cx dL_setMiss_1 ?_
  refine q_ald_n cx dL_setMiss_2 rfl (lv_at hl 0 rfl) ?_
  refine q_ild_n cx dL_setMiss_3 rfl (lv_at hl 1 rfl) ?_
  refine q_cXV (As := [.int (q_i a0)]) (rest := [.int (q_i 0), .ref out]) cx hX hB (fun _ h => h) (fun _ h _ => h) hN hx kx (by decide) rfl (x_setMissc l g hN hB.2.1 hfl x hx kx a0 (by omega) (by omega) src hsrc ksrc rdr hrdr krdr scr hscr kscr fc hfc kfc hist hhist khist rep hrep krep now hnow know dr hdr kdr sv hsv ksv tr htr ktr hf0 hf1 hf2 hf3 hf4 hf5 hf6 hf7 hf8 hf9 hf10 hf11 hf12 hf13 hr0 hr1 hr2 hr3 hr4 hr5 hr6 hr7 hr8 hr9) q_cL_105 q_dX11_setMiss (by decide) rfl rfl hl.1 rfl (Nat.le_of_ble_eq_true rfl) dL_setMiss_4 (fun E9 ce9 q9 H locs f8 hex hF hB hcell hcv hcl => ?_) (fun v9 H locs f5 h7 hF hB => ?_)
  · rcases hex with ⟨rfl, rfl⟩
    · refine vx_catch (E := "java/lang/IllegalArgumentException") (name := "java/lang/IllegalArgumentException") cx.2.2.2.1 [] ⟨0, 9, 12, 19⟩ [] (htab.trans rfl) (q_pnil) (by decide) (by decide) (cx.2.2.2.2 _ q_h875) (va_Nw.use rfl (hX.2.2.2.1 (.castable "java/lang/IllegalArgumentException" "java/lang/IllegalArgumentException") (by decide +kernel))) hcell hcv hcl ?_
      refine lv_astore_n (lv' := [(3, .ref q9), (0, .ref x), (1, .int (q_i a0)), (2, .ref out)]) cx.1 cx.2.1 dL_setMiss_12 rfl hl (by decide) rfl (fun ls hl => ?_)
      refine q_iconst cx dL_setMiss_13 ?_
      refine W.widen (k := 1) (n := 6) (by decide) (by decide) ?_
      refine q_iret cx hr hlk hB dL_setMiss_14 ⟨by decide, by decide⟩ ?_
      exact rfl
  · obtain ⟨y6, rfl, ry6, h7⟩ := h7
    exact h7.elim
set_option maxHeartbeats 4000000 in
set_option maxRecDepth 100000 in
theorem w_reportBytea (l : Launch) (g : q_G) {K : Nat → Nat} {L : List Nat} (hN : L.Nodup) {f : Nat → va_E} (hT : q_Ty g K L f) (hfl : l.stackTraces = false) (x : Nat) (hx : x ∈ L) (kx : K x = 11) (a0 : Int) (la0 : (-2147483648) ≤ a0) (ua0 : a0 ≤ (-1)) (out : Nat) (hout : out ∈ L) (kout : K out = 168) (src : Nat) (hsrc : src ∈ L) (ksrc : K src = 8) (rdr : Nat) (hrdr : rdr ∈ L) (krdr : K rdr = 9) (scr : Nat) (hscr : scr ∈ L) (kscr : K scr = 7) (fc : Nat) (hfc : fc ∈ L) (kfc : K fc = 1) (hist : Nat) (hhist : hist ∈ L) (khist : K hist = 2) (rep : Nat) (hrep : rep ∈ L) (krep : K rep = 6) (now : Nat) (hnow : now ∈ L) (know : K now = 10) (dr : Nat) (hdr : dr ∈ L) (kdr : K dr = 13) (sv : Nat) (hsv : sv ∈ L) (ksv : K sv = 14) (tr : Nat) (htr : tr ∈ L) (ktr : K tr = 15) (hf0 : q_z f x 9 = 0) (hf1 : q_z f src 1 = 0) (hf2 : q_z f src 2 = 0) (hf3 : q_z f src 3 = (-1)) (hf4 : q_z f hist 1 = 0) (hf5 : q_z f hist 2 = 0) (hf6 : q_z f rep 1 = 0) (hf7 : q_z f now 3 = 0) (hf8 : q_z f now 4 = 0) (hf9 : q_z f now 5 = 0) (hf10 : q_z f now 6 = 12) (hf11 : q_z f now 10 = 3) (hf12 : q_z f now 11 = 0) (hf13 : q_z f now 12 = 0) (hr0 : q_r f x 0 = src) (hr1 : q_r f x 1 = rdr) (hr2 : q_r f x 2 = scr) (hr3 : q_r f x 3 = fc) (hr4 : q_r f x 4 = hist) (hr5 : q_r f x 5 = rep) (hr6 : q_r f x 6 = now) (hr7 : q_r f x 7 = dr) (hr8 : q_r f x 8 = sv) (hr9 : q_r f fc 0 = tr) : q_Wt l g K L yL_reportByte cL_reportByte 4 (some .int) [(0, 9, 12, 35)] 7 103 1 6 [.ref x, .int (q_i a0), .ref out] f [] (q_Pi (fun (z : Int) (f1 : Nat → va_E) => z = 1)) := by
  refine q_wofb (by decide +kernel) hN hT (Nat.le_of_ble_eq_true rfl) ?_
  intro p e s m below meth c ls cx hr hlk htab hX hB hl
  have hl : lv_has ls 4 [(0, .ref x), (1, .int (q_i a0)), (2, .ref out)] := hl
  obtain ⟨H, hH⟩ : ∃ H : Heap, H = s.heap := ⟨_, rfl⟩
  obtain ⟨locs, hlocs⟩ : ∃ z : List Loc, z = [] := ⟨_, rfl⟩
  rw [← hH, ← hlocs] at hB
  rw [← hH, ← hlocs]
  refine q_ald_n cx dL_reportByte_0 rfl (lv_at hl 2 rfl) ?_
  refine q_iconst cx dL_reportByte_1 ?_
  refine q_ald_n cx dL_reportByte_2 rfl (lv_at hl 0 rfl) ?_
  refine q_ild_n cx dL_reportByte_3 rfl (lv_at hl 1 rfl) ?_
  refine q_cXV (As := [.int (q_i a0)]) (rest := [.int (q_i 0), .ref out]) cx hX hB (fun _ h => h) (fun _ h _ => h) hN hx kx (by decide) rfl (x_reportBytea l g hN hB.2.1 hfl x hx kx a0 (by omega) (by omega) src hsrc ksrc rdr hrdr krdr scr hscr kscr fc hfc kfc hist hhist khist rep hrep krep now hnow know dr hdr kdr sv hsv ksv tr htr ktr hf0 hf1 hf2 hf3 hf4 hf5 hf6 hf7 hf8 hf9 hf10 hf11 hf12 hf13 hr0 hr1 hr2 hr3 hr4 hr5 hr6 hr7 hr8 hr9) q_cL_108 q_dX11_reportByte (by decide) rfl rfl hl.1 rfl (Nat.le_of_ble_eq_true rfl) dL_reportByte_4 (fun E9 ce9 q9 H locs f8 hex hF hB hcell hcv hcl => ?_) (fun v9 H locs f5 h7 hF hB => ?_)
  · rcases hex with ⟨rfl, rfl⟩
    · refine vx_catch (E := "java/lang/IndexOutOfBoundsException") (name := "java/lang/IndexOutOfBoundsException") cx.2.2.2.1 [] ⟨0, 9, 12, 35⟩ [] (htab.trans rfl) (q_pnil) (by decide) (by decide) (cx.2.2.2.2 _ q_h1225) (va_Nw.use rfl (hX.2.2.2.1 (.castable "java/lang/IndexOutOfBoundsException" "java/lang/IndexOutOfBoundsException") (by decide +kernel))) hcell hcv hcl ?_
      refine lv_astore_n (lv' := [(3, .ref q9), (0, .ref x), (1, .int (q_i a0)), (2, .ref out)]) cx.1 cx.2.1 dL_reportByte_12 rfl hl (by decide) rfl (fun ls hl => ?_)
      refine q_iconst cx dL_reportByte_13 ?_
      refine W.widen (k := 1) (n := 6) (by decide) (by decide) ?_
      refine q_iret cx hr hlk hB dL_reportByte_14 ⟨by decide, by decide⟩ ?_
      exact rfl
  · obtain ⟨y6, rfl, ry6, h7⟩ := h7
    exact h7.elim
set_option maxHeartbeats 4000000 in
set_option maxRecDepth 100000 in
theorem w_reportByteb (l : Launch) (g : q_G) {K : Nat → Nat} {L : List Nat} (hN : L.Nodup) {f : Nat → va_E} (hT : q_Ty g K L f) (hfl : l.stackTraces = false) (x : Nat) (hx : x ∈ L) (kx : K x = 11) (a0 : Int) (la0 : 0 ≤ a0) (ua0 : a0 ≤ 2147483647) (out : Nat) (hout : out ∈ L) (kout : K out = 168) (src : Nat) (hsrc : src ∈ L) (ksrc : K src = 8) (rdr : Nat) (hrdr : rdr ∈ L) (krdr : K rdr = 9) (scr : Nat) (hscr : scr ∈ L) (kscr : K scr = 7) (fc : Nat) (hfc : fc ∈ L) (kfc : K fc = 1) (hist : Nat) (hhist : hist ∈ L) (khist : K hist = 2) (rep : Nat) (hrep : rep ∈ L) (krep : K rep = 6) (now : Nat) (hnow : now ∈ L) (know : K now = 10) (dr : Nat) (hdr : dr ∈ L) (kdr : K dr = 13) (sv : Nat) (hsv : sv ∈ L) (ksv : K sv = 14) (tr : Nat) (htr : tr ∈ L) (ktr : K tr = 15) (hf0 : q_z f x 9 = 0) (hf1 : q_z f src 1 = 0) (hf2 : q_z f src 2 = 0) (hf3 : q_z f src 3 = (-1)) (hf4 : q_z f hist 1 = 0) (hf5 : q_z f hist 2 = 0) (hf6 : q_z f rep 1 = 0) (hf7 : q_z f now 3 = 0) (hf8 : q_z f now 4 = 0) (hf9 : q_z f now 5 = 0) (hf10 : q_z f now 6 = 12) (hf11 : q_z f now 10 = 3) (hf12 : q_z f now 11 = 0) (hf13 : q_z f now 12 = 0) (hr0 : q_r f x 0 = src) (hr1 : q_r f x 1 = rdr) (hr2 : q_r f x 2 = scr) (hr3 : q_r f x 3 = fc) (hr4 : q_r f x 4 = hist) (hr5 : q_r f x 5 = rep) (hr6 : q_r f x 6 = now) (hr7 : q_r f x 7 = dr) (hr8 : q_r f x 8 = sv) (hr9 : q_r f fc 0 = tr) : q_Wt l g K L yL_reportByte cL_reportByte 4 (some .int) [(0, 9, 12, 35)] 7 103 1 6 [.ref x, .int (q_i a0), .ref out] f [] (q_Pi (fun (z : Int) (f1 : Nat → va_E) => z = 1)) := by
  refine q_wofb (by decide +kernel) hN hT (Nat.le_of_ble_eq_true rfl) ?_
  intro p e s m below meth c ls cx hr hlk htab hX hB hl
  have hl : lv_has ls 4 [(0, .ref x), (1, .int (q_i a0)), (2, .ref out)] := hl
  obtain ⟨H, hH⟩ : ∃ H : Heap, H = s.heap := ⟨_, rfl⟩
  obtain ⟨locs, hlocs⟩ : ∃ z : List Loc, z = [] := ⟨_, rfl⟩
  rw [← hH, ← hlocs] at hB
  rw [← hH, ← hlocs]
  refine q_ald_n cx dL_reportByte_0 rfl (lv_at hl 2 rfl) ?_
  refine q_iconst cx dL_reportByte_1 ?_
  refine q_ald_n cx dL_reportByte_2 rfl (lv_at hl 0 rfl) ?_
  refine q_ild_n cx dL_reportByte_3 rfl (lv_at hl 1 rfl) ?_
  refine q_cXV (As := [.int (q_i a0)]) (rest := [.int (q_i 0), .ref out]) cx hX hB (fun _ h => h) (fun _ h _ => h) hN hx kx (by decide) rfl (x_reportByteb l g hN hB.2.1 hfl x hx kx a0 (by omega) (by omega) src hsrc ksrc rdr hrdr krdr scr hscr kscr fc hfc kfc hist hhist khist rep hrep krep now hnow know dr hdr kdr sv hsv ksv tr htr ktr hf0 hf1 hf2 hf3 hf4 hf5 hf6 hf7 hf8 hf9 hf10 hf11 hf12 hf13 hr0 hr1 hr2 hr3 hr4 hr5 hr6 hr7 hr8 hr9) q_cL_108 q_dX11_reportByte (by decide) rfl rfl hl.1 rfl (Nat.le_of_ble_eq_true rfl) dL_reportByte_4 (fun E9 ce9 q9 H locs f8 hex hF hB hcell hcv hcl => ?_) (fun v9 H locs f5 h7 hF hB => ?_)
  · rcases hex with ⟨rfl, rfl⟩
    · refine vx_catch (E := "java/lang/IndexOutOfBoundsException") (name := "java/lang/IndexOutOfBoundsException") cx.2.2.2.1 [] ⟨0, 9, 12, 35⟩ [] (htab.trans rfl) (q_pnil) (by decide) (by decide) (cx.2.2.2.2 _ q_h1225) (va_Nw.use rfl (hX.2.2.2.1 (.castable "java/lang/IndexOutOfBoundsException" "java/lang/IndexOutOfBoundsException") (by decide +kernel))) hcell hcv hcl ?_
      refine lv_astore_n (lv' := [(3, .ref q9), (0, .ref x), (1, .int (q_i a0)), (2, .ref out)]) cx.1 cx.2.1 dL_reportByte_12 rfl hl (by decide) rfl (fun ls hl => ?_)
      refine q_iconst cx dL_reportByte_13 ?_
      refine W.widen (k := 1) (n := 6) (by decide) (by decide) ?_
      refine q_iret cx hr hlk hB dL_reportByte_14 ⟨by decide, by decide⟩ ?_
      exact rfl
  · obtain ⟨y6, rfl, ry6, h7⟩ := h7
    exact h7.elim
set_option maxHeartbeats 4000000 in
set_option maxRecDepth 100000 in
theorem w_restore (l : Launch) (g : q_G) {K : Nat → Nat} {L : List Nat} (hN : L.Nodup) {f : Nat → va_E} (hT : q_Ty g K L f) (hfl : l.stackTraces = false) (x : Nat) (hx : x ∈ L) (kx : K x = 11) (out : Nat) (hout : out ∈ L) (kout : K out = 168) (src : Nat) (hsrc : src ∈ L) (ksrc : K src = 8) (rdr : Nat) (hrdr : rdr ∈ L) (krdr : K rdr = 9) (scr : Nat) (hscr : scr ∈ L) (kscr : K scr = 7) (fc : Nat) (hfc : fc ∈ L) (kfc : K fc = 1) (hist : Nat) (hhist : hist ∈ L) (khist : K hist = 2) (rep : Nat) (hrep : rep ∈ L) (krep : K rep = 6) (now : Nat) (hnow : now ∈ L) (know : K now = 10) (dr : Nat) (hdr : dr ∈ L) (kdr : K dr = 13) (sv : Nat) (hsv : sv ∈ L) (ksv : K sv = 14) (tr : Nat) (htr : tr ∈ L) (ktr : K tr = 15) (hf0 : q_z f x 9 = 0) (hf1 : q_z f src 1 = 0) (hf2 : q_z f src 2 = 0) (hf3 : q_z f src 3 = (-1)) (hf4 : q_z f hist 1 = 0) (hf5 : q_z f hist 2 = 0) (hf6 : q_z f rep 1 = 0) (hf7 : q_z f now 3 = 0) (hf8 : q_z f now 4 = 0) (hf9 : q_z f now 5 = 0) (hf10 : q_z f now 6 = 12) (hf11 : q_z f now 10 = 3) (hf12 : q_z f now 11 = 0) (hf13 : q_z f now 12 = 0) (hr0 : q_r f x 0 = src) (hr1 : q_r f x 1 = rdr) (hr2 : q_r f x 2 = scr) (hr3 : q_r f x 3 = fc) (hr4 : q_r f x 4 = hist) (hr5 : q_r f x 5 = rep) (hr6 : q_r f x 6 = now) (hr7 : q_r f x 7 = dr) (hr8 : q_r f x 8 = sv) (hr9 : q_r f fc 0 = tr) : q_Wt l g K L yL_restore cL_restore 3 (some .int) [(0, 8, 11, 13)] 7 102 1 6 [.ref x, .ref out] f [] (q_Pi (fun (z : Int) (f1 : Nat → va_E) => z = 1)) := by
  refine q_wofb (by decide +kernel) hN hT (Nat.le_of_ble_eq_true rfl) ?_
  intro p e s m below meth c ls cx hr hlk htab hX hB hl
  have hl : lv_has ls 3 [(0, .ref x), (1, .ref out)] := hl
  obtain ⟨H, hH⟩ : ∃ H : Heap, H = s.heap := ⟨_, rfl⟩
  obtain ⟨locs, hlocs⟩ : ∃ z : List Loc, z = [] := ⟨_, rfl⟩
  rw [← hH, ← hlocs] at hB
  rw [← hH, ← hlocs]
  refine q_ald_n cx dL_restore_0 rfl (lv_at hl 1 rfl) ?_
  refine q_iconst cx dL_restore_1 ?_
  refine q_ald_n cx dL_restore_2 rfl (lv_at hl 0 rfl) ?_
  refine q_cXV (As := []) (rest := [.int (q_i 0), .ref out]) cx hX hB (fun _ h => h) (fun _ h _ => h) hN hx kx (by decide) rfl (x_restore l g hN hB.2.1 hfl x hx kx src hsrc ksrc rdr hrdr krdr scr hscr kscr fc hfc kfc hist hhist khist rep hrep krep now hnow know dr hdr kdr sv hsv ksv tr htr ktr hf0 hf1 hf2 hf3 hf4 hf5 hf6 hf7 hf8 hf9 hf10 hf11 hf12 hf13 hr0 hr1 hr2 hr3 hr4 hr5 hr6 hr7 hr8 hr9) q_cL_111 q_dX11_restore (by decide) rfl rfl hl.1 rfl (Nat.le_of_ble_eq_true rfl) dL_restore_3 (fun E9 ce9 q9 H locs f8 hex hF hB hcell hcv hcl => ?_) (fun v9 H locs f5 h7 hF hB => ?_)
  · rcases hex with ⟨rfl, rfl⟩
    · refine vx_catch (E := "java/lang/IllegalStateException") (name := "java/lang/IllegalStateException") cx.2.2.2.1 [] ⟨0, 8, 11, 13⟩ [] (htab.trans rfl) (q_pnil) (by decide) (by decide) (cx.2.2.2.2 _ q_h792) (va_Nw.use rfl (hX.2.2.2.1 (.castable "java/lang/IllegalStateException" "java/lang/IllegalStateException") (by decide +kernel))) hcell hcv hcl ?_
      refine lv_astore_n (lv' := [(2, .ref q9), (0, .ref x), (1, .ref out)]) cx.1 cx.2.1 dL_restore_11 rfl hl (by decide) rfl (fun ls hl => ?_)
      refine q_iconst cx dL_restore_12 ?_
      refine W.widen (k := 1) (n := 6) (by decide) (by decide) ?_
      refine q_iret cx hr hlk hB dL_restore_13 ⟨by decide, by decide⟩ ?_
      exact rfl
  · obtain ⟨y6, rfl, ry6, h7⟩ := h7
    exact h7.elim
