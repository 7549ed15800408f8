set_option maxHeartbeats 4000000 in
set_option maxRecDepth 100000 in
theorem x_requireNode (l : Launch) (g : q_G) (ad : Nat → Nat) {K : Nat → Nat} {L : List Nat} (hN : L.Nodup) {f : Nat → va_E} (hT : q_Ty g K L f) (hfl : l.stackTraces = false) (x : Nat) (hx : x ∈ L) (kx : K x = 11) (a0 : Int) (la0 : (-2147483648) ≤ a0) (ua0 : a0 ≤ 2147483647) (src : Nat) (hsrc : src ∈ L) (ksrc : K src = 8) (rdr : Nat) (hrdr : rdr ∈ L) (krdr : K rdr = 9) (scr : Nat) (hscr : scr ∈ L) (kscr : K scr = 7) (fc : Nat) (hfc : fc ∈ L) (kfc : K fc = 1) (hist : Nat) (hhist : hist ∈ L) (khist : K hist = 2) (rep : Nat) (hrep : rep ∈ L) (krep : K rep = 6) (now : Nat) (hnow : now ∈ L) (know : K now = 10) (dr : Nat) (hdr : dr ∈ L) (kdr : K dr = 13) (sv : Nat) (hsv : sv ∈ L) (ksv : K sv = 14) (tr : Nat) (htr : tr ∈ L) (ktr : K tr = 15) (hr0 : q_ir (q_r f x 0) src) (hr1 : q_ir (q_r f x 1) rdr) (hr2 : q_ir (q_r f x 2) scr) (hr3 : q_ir (q_r f x 3) fc) (hr4 : q_ir (q_r f x 4) hist) (hr5 : q_ir (q_r f x 5) rep) (hr6 : q_ir (q_r f x 6) now) (hr7 : q_ir (q_r f x 7) dr) (hr8 : q_ir (q_r f x 8) sv) (hr9 : q_ir (q_r f fc 0) tr) : q_Xt l g ad K L yX11_requireNode cX11_requireNode 2 none 6 82 1 6 [.ref x, .int (q_i a0)] f [] (q_Pv (fun (f1 : Nat → va_E) => f = f1)) (fun (E : String) (f1 : Nat → va_E) => E = "java/lang/IndexOutOfBoundsException" ∧ f = f1) := by
  refine q_xofb (by decide +kernel) hN hT (Nat.le_of_ble_eq_true rfl) ?_
  intro p e s m below meth c ls cx hr hlk htab hX hB hl
  have hl : lv_has ls 2 [(0, .ref x), (1, .int (q_i a0))] := hl
  obtain ⟨H, hH⟩ : ∃ H : Heap, H = s.heap := ⟨_, rfl⟩
  obtain ⟨locs, hlocs⟩ : ∃ z : List Loc, z = [] := ⟨_, rfl⟩
  rw [← hH, ← hlocs] at hB
  rw [← hH, ← hlocs]
  refine q_ild_n cx dX11_requireNode_0 rfl (lv_at hl 1 rfl) ?_
  refine q_iflt (tgt := 15) cx ⟨by omega, by omega⟩ dX11_requireNode_1 (by decide) (fun c6 => ?_) (fun c6 => ?_)
  · exact q_throw (text := "no such node") hfl cx hlk htab hX hB hl.1 (by decide +kernel) q_h1234 q_h159 (by decide +kernel) q_xl145a q_xl145b q_xl145c dX11_requireNode_15 dX11_requireNode_18 (Or.inr ⟨dX11_requireNode_19, dX11_requireNode_22, dX11_requireNode_25⟩) (by decide) (by decide) ⟨rfl, rfl⟩
  · refine q_ild_n cx dX11_requireNode_4 rfl (lv_at hl 1 rfl) ?_
    refine q_ald_n cx dX11_requireNode_5 rfl (lv_at hl 0 rfl) ?_
    refine q_gX11_54 cx hB hx kx hr6 dX11_requireNode_6 (fun hb7 kb7 => ?_)
    obtain ⟨x8, ex8⟩ : ∃ zz, q_is (q_z f now 3) zz := ⟨_, q_isr _⟩
    refine q_gX11_101 cx hB hnow know ex8 dX11_requireNode_9 (fun lb9 ub9 => ?_)
    refine q_iclt (tgt := 26) cx ⟨by omega, by omega⟩ ⟨by omega, by omega⟩ dX11_requireNode_12 (by decide) (fun c10 => ?_) (fun c10 => ?_)
    · refine W.widen (k := 1) (n := 6) (by decide) (by decide) ?_
      refine vx_ret ?_
      refine q_vret cx hr hlk hB dX11_requireNode_26 ?_
      exact rfl
    · exact q_throw (text := "no such node") hfl cx hlk htab hX hB hl.1 (by decide +kernel) q_h1234 q_h159 (by decide +kernel) q_xl145a q_xl145b q_xl145c dX11_requireNode_15 dX11_requireNode_18 (Or.inr ⟨dX11_requireNode_19, dX11_requireNode_22, dX11_requireNode_25⟩) (by decide) (by decide) ⟨rfl, rfl⟩
set_option maxHeartbeats 4000000 in
set_option maxRecDepth 100000 in
theorem x_requireMessage (l : Launch) (g : q_G) (ad : Nat → Nat) {K : Nat → Nat} {L : List Nat} (hN : L.Nodup) {f : Nat → va_E} (hT : q_Ty g K L f) (hfl : l.stackTraces = false) (x : Nat) (hx : x ∈ L) (kx : K x = 11) (a0 : Int) (la0 : (-2147483648) ≤ a0) (ua0 : a0 ≤ 2147483647) (src : Nat) (hsrc : src ∈ L) (ksrc : K src = 8) (rdr : Nat) (hrdr : rdr ∈ L) (krdr : K rdr = 9) (scr : Nat) (hscr : scr ∈ L) (kscr : K scr = 7) (fc : Nat) (hfc : fc ∈ L) (kfc : K fc = 1) (hist : Nat) (hhist : hist ∈ L) (khist : K hist = 2) (rep : Nat) (hrep : rep ∈ L) (krep : K rep = 6) (now : Nat) (hnow : now ∈ L) (know : K now = 10) (dr : Nat) (hdr : dr ∈ L) (kdr : K dr = 13) (sv : Nat) (hsv : sv ∈ L) (ksv : K sv = 14) (tr : Nat) (htr : tr ∈ L) (ktr : K tr = 15) (hr0 : q_ir (q_r f x 0) src) (hr1 : q_ir (q_r f x 1) rdr) (hr2 : q_ir (q_r f x 2) scr) (hr3 : q_ir (q_r f x 3) fc) (hr4 : q_ir (q_r f x 4) hist) (hr5 : q_ir (q_r f x 5) rep) (hr6 : q_ir (q_r f x 6) now) (hr7 : q_ir (q_r f x 7) dr) (hr8 : q_ir (q_r f x 8) sv) (hr9 : q_ir (q_r f fc 0) tr) : q_Xt l g ad K L yX11_requireMessage cX11_requireMessage 2 none 6 82 1 6 [.ref x, .int (q_i a0)] f [] (q_Pv (fun (f1 : Nat → va_E) => f = f1)) (fun (E : String) (f1 : Nat → va_E) => E = "java/lang/IndexOutOfBoundsException" ∧ f = f1) := by
  refine q_xofb (by decide +kernel) hN hT (Nat.le_of_ble_eq_true rfl) ?_
  intro p e s m below meth c ls cx hr hlk htab hX hB hl
  have hl : lv_has ls 2 [(0, .ref x), (1, .int (q_i a0))] := hl
  obtain ⟨H, hH⟩ : ∃ H : Heap, H = s.heap := ⟨_, rfl⟩
  obtain ⟨locs, hlocs⟩ : ∃ z : List Loc, z = [] := ⟨_, rfl⟩
  rw [← hH, ← hlocs] at hB
  rw [← hH, ← hlocs]
  refine q_ild_n cx dX11_requireMessage_0 rfl (lv_at hl 1 rfl) ?_
  refine q_iflt (tgt := 15) cx ⟨by omega, by omega⟩ dX11_requireMessage_1 (by decide) (fun c6 => ?_) (fun c6 => ?_)
  · exact q_throw (text := "no such message") hfl cx hlk htab hX hB hl.1 (by decide +kernel) q_h1234 q_h159 (by decide +kernel) q_xl145a q_xl145b q_xl145c dX11_requireMessage_15 dX11_requireMessage_18 (Or.inr ⟨dX11_requireMessage_19, dX11_requireMessage_22, dX11_requireMessage_25⟩) (by decide) (by decide) ⟨rfl, rfl⟩
  · refine q_ild_n cx dX11_requireMessage_4 rfl (lv_at hl 1 rfl) ?_
    refine q_ald_n cx dX11_requireMessage_5 rfl (lv_at hl 0 rfl) ?_
    refine q_gX11_54 cx hB hx kx hr6 dX11_requireMessage_6 (fun hb7 kb7 => ?_)
    obtain ⟨x8, ex8⟩ : ∃ zz, q_is (q_z f now 5) zz := ⟨_, q_isr _⟩
    refine q_gX11_340 cx hB hnow know ex8 dX11_requireMessage_9 (fun lb9 ub9 => ?_)
    refine q_iclt (tgt := 26) cx ⟨by omega, by omega⟩ ⟨by omega, by omega⟩ dX11_requireMessage_12 (by decide) (fun c10 => ?_) (fun c10 => ?_)
    · refine W.widen (k := 1) (n := 6) (by decide) (by decide) ?_
      refine vx_ret ?_
      refine q_vret cx hr hlk hB dX11_requireMessage_26 ?_
      exact rfl
    · exact q_throw (text := "no such message") hfl cx hlk htab hX hB hl.1 (by decide +kernel) q_h1234 q_h159 (by decide +kernel) q_xl145a q_xl145b q_xl145c dX11_requireMessage_15 dX11_requireMessage_18 (Or.inr ⟨dX11_requireMessage_19, dX11_requireMessage_22, dX11_requireMessage_25⟩) (by decide) (by decide) ⟨rfl, rfl⟩
set_option maxHeartbeats 4000000 in
set_option maxRecDepth 100000 in
theorem x_requireDay (l : Launch) (g : q_G) (ad : Nat → Nat) {K : Nat → Nat} {L : List Nat} (hN : L.Nodup) {f : Nat → va_E} (hT : q_Ty g K L f) (hfl : l.stackTraces = false) (x : Nat) (hx : x ∈ L) (kx : K x = 11) (a0 : Int) (la0 : (-2147483648) ≤ a0) (ua0 : a0 ≤ 2147483647) (src : Nat) (hsrc : src ∈ L) (ksrc : K src = 8) (rdr : Nat) (hrdr : rdr ∈ L) (krdr : K rdr = 9) (scr : Nat) (hscr : scr ∈ L) (kscr : K scr = 7) (fc : Nat) (hfc : fc ∈ L) (kfc : K fc = 1) (hist : Nat) (hhist : hist ∈ L) (khist : K hist = 2) (rep : Nat) (hrep : rep ∈ L) (krep : K rep = 6) (now : Nat) (hnow : now ∈ L) (know : K now = 10) (dr : Nat) (hdr : dr ∈ L) (kdr : K dr = 13) (sv : Nat) (hsv : sv ∈ L) (ksv : K sv = 14) (tr : Nat) (htr : tr ∈ L) (ktr : K tr = 15) (hr0 : q_ir (q_r f x 0) src) (hr1 : q_ir (q_r f x 1) rdr) (hr2 : q_ir (q_r f x 2) scr) (hr3 : q_ir (q_r f x 3) fc) (hr4 : q_ir (q_r f x 4) hist) (hr5 : q_ir (q_r f x 5) rep) (hr6 : q_ir (q_r f x 6) now) (hr7 : q_ir (q_r f x 7) dr) (hr8 : q_ir (q_r f x 8) sv) (hr9 : q_ir (q_r f fc 0) tr) : q_Xt l g ad K L yX11_requireDay cX11_requireDay 2 none 6 82 1 6 [.ref x, .int (q_i a0)] f [] (q_Pv (fun (f1 : Nat → va_E) => f = f1)) (fun (E : String) (f1 : Nat → va_E) => E = "java/lang/IllegalArgumentException" ∧ f = f1) := by
  refine q_xofb (by decide +kernel) hN hT (Nat.le_of_ble_eq_true rfl) ?_
  intro p e s m below meth c ls cx hr hlk htab hX hB hl
  have hl : lv_has ls 2 [(0, .ref x), (1, .int (q_i a0))] := hl
  obtain ⟨H, hH⟩ : ∃ H : Heap, H = s.heap := ⟨_, rfl⟩
  obtain ⟨locs, hlocs⟩ : ∃ z : List Loc, z = [] := ⟨_, rfl⟩
  rw [← hH, ← hlocs] at hB
  rw [← hH, ← hlocs]
  refine q_ald_n cx dX11_requireDay_0 rfl (lv_at hl 0 rfl) ?_
  refine q_gX11_54 cx hB hx kx hr6 dX11_requireDay_1 (fun hb6 kb6 => ?_)
  refine q_ild_n cx dX11_requireDay_4 rfl (lv_at hl 1 rfl) ?_
  refine q_cVi (As := [.int (q_i a0)]) (rest := []) cx hB (fun _ h => h) hN hnow know (by decide) rfl (g_X10_isDay l g hN hB.2.1 now hnow know a0 (by omega) (by omega)) q_cX11_345 q_dX10_isDay (by decide) rfl rfl hl.1 rfl (Nat.le_of_ble_eq_true rfl) dX11_requireDay_5 (fun y8 H locs f7 ry8 h9 hF hB => ?_)
  obtain ⟨rfl, ly8, uy8⟩ := h9
  refine q_ifne (tgt := 22) cx ⟨by omega, by omega⟩ dX11_requireDay_8 (by decide) (fun c10 => ?_) (fun c10 => ?_)
  · refine W.widen (k := 1) (n := 6) (by decide) (by decide) ?_
    refine vx_ret ?_
    refine q_vret cx hr hlk hB dX11_requireDay_22 ?_
    exact rfl
  · exact q_throw (text := "the year has no such day") hfl cx hlk htab hX hB hl.1 (by decide +kernel) q_h880 q_h152 (by decide +kernel) q_xl87a q_xl87b q_xl87c dX11_requireDay_11 dX11_requireDay_14 (Or.inr ⟨dX11_requireDay_15, dX11_requireDay_18, dX11_requireDay_21⟩) (by decide) (by decide) ⟨rfl, rfl⟩
set_option maxHeartbeats 4000000 in
set_option maxRecDepth 100000 in
theorem x_requireDifferent (l : Launch) (g : q_G) (ad : Nat → Nat) {K : Nat → Nat} {L : List Nat} (hN : L.Nodup) {f : Nat → va_E} (hT : q_Ty g K L f) (hfl : l.stackTraces = false) (x : Nat) (hx : x ∈ L) (kx : K x = 11) (a0 : Int) (la0 : (-2147483648) ≤ a0) (ua0 : a0 ≤ 2147483647) (b0 : Int) (lb0 : (-2147483648) ≤ b0) (ub0 : b0 ≤ 2147483647) (src : Nat) (hsrc : src ∈ L) (ksrc : K src = 8) (rdr : Nat) (hrdr : rdr ∈ L) (krdr : K rdr = 9) (scr : Nat) (hscr : scr ∈ L) (kscr : K scr = 7) (fc : Nat) (hfc : fc ∈ L) (kfc : K fc = 1) (hist : Nat) (hhist : hist ∈ L) (khist : K hist = 2) (rep : Nat) (hrep : rep ∈ L) (krep : K rep = 6) (now : Nat) (hnow : now ∈ L) (know : K now = 10) (dr : Nat) (hdr : dr ∈ L) (kdr : K dr = 13) (sv : Nat) (hsv : sv ∈ L) (ksv : K sv = 14) (tr : Nat) (htr : tr ∈ L) (ktr : K tr = 15) (hr0 : q_ir (q_r f x 0) src) (hr1 : q_ir (q_r f x 1) rdr) (hr2 : q_ir (q_r f x 2) scr) (hr3 : q_ir (q_r f x 3) fc) (hr4 : q_ir (q_r f x 4) hist) (hr5 : q_ir (q_r f x 5) rep) (hr6 : q_ir (q_r f x 6) now) (hr7 : q_ir (q_r f x 7) dr) (hr8 : q_ir (q_r f x 8) sv) (hr9 : q_ir (q_r f fc 0) tr) : q_Xt l g ad K L yX11_requireDifferent cX11_requireDifferent 3 none 6 82 1 6 [.ref x, .int (q_i a0), .int (q_i b0)] f [] (q_Pv (fun (f1 : Nat → va_E) => f = f1)) (fun (E : String) (f1 : Nat → va_E) => E = "java/lang/IllegalArgumentException" ∧ f = f1) := by
  refine q_xofb (by decide +kernel) hN hT (Nat.le_of_ble_eq_true rfl) ?_
  intro p e s m below meth c ls cx hr hlk htab hX hB hl
  have hl : lv_has ls 3 [(0, .ref x), (1, .int (q_i a0)), (2, .int (q_i b0))] := hl
  obtain ⟨H, hH⟩ : ∃ H : Heap, H = s.heap := ⟨_, rfl⟩
  obtain ⟨locs, hlocs⟩ : ∃ z : List Loc, z = [] := ⟨_, rfl⟩
  rw [← hH, ← hlocs] at hB
  rw [← hH, ← hlocs]
  refine q_ild_n cx dX11_requireDifferent_0 rfl (lv_at hl 1 rfl) ?_
  refine q_ild_n cx dX11_requireDifferent_1 rfl (lv_at hl 2 rfl) ?_
  refine q_icne (tgt := 16) cx ⟨by omega, by omega⟩ ⟨by omega, by omega⟩ dX11_requireDifferent_2 (by decide) (fun c2 => ?_) (fun c2 => ?_)
  · refine W.widen (k := 1) (n := 6) (by decide) (by decide) ?_
    refine vx_ret ?_
    refine q_vret cx hr hlk hB dX11_requireDifferent_16 ?_
    exact rfl
  · exact q_throw (text := "both nodes are the same") hfl cx hlk htab hX hB hl.1 (by decide +kernel) q_h880 q_h152 (by decide +kernel) q_xl87a q_xl87b q_xl87c dX11_requireDifferent_5 dX11_requireDifferent_8 (Or.inr ⟨dX11_requireDifferent_9, dX11_requireDifferent_12, dX11_requireDifferent_15⟩) (by decide) (by decide) ⟨rfl, rfl⟩
set_option maxHeartbeats 4000000 in
set_option maxRecDepth 100000 in
theorem x_feed_a (l : Launch) (g : q_G) {K : Nat → Nat} {L : List Nat} (hN : L.Nodup) {f : Nat → va_E} (hT : q_Ty g K L f) (x : Nat) (hx : x ∈ L) (kx : K x = 11) (a0 : Int) (la0 : (-2147483648) ≤ a0) (ua0 : a0 ≤ 2147483647) (b0 : Int) (lb0 : (-2147483648) ≤ b0) (ub0 : b0 ≤ 2147483647) (c0 : Int) (lc0 : (-2147483648) ≤ c0) (uc0 : c0 ≤ 2147483647) (d0 : Int) (ld0 : (-2147483648) ≤ d0) (ud0 : d0 ≤ 2147483647) (e0 : Int) (le0 : (-2147483648) ≤ e0) (ue0 : e0 ≤ 2147483647) (src : Nat) (hsrc : src ∈ L) (ksrc : K src = 8) (rdr : Nat) (hrdr : rdr ∈ L) (krdr : K rdr = 9) (scr : Nat) (hscr : scr ∈ L) (kscr : K scr = 7) (fc : Nat) (hfc : fc ∈ L) (kfc : K fc = 1) (hist : Nat) (hhist : hist ∈ L) (khist : K hist = 2) (rep : Nat) (hrep : rep ∈ L) (krep : K rep = 6) (now : Nat) (hnow : now ∈ L) (know : K now = 10) (dr : Nat) (hdr : dr ∈ L) (kdr : K dr = 13) (sv : Nat) (hsv : sv ∈ L) (ksv : K sv = 14) (tr : Nat) (htr : tr ∈ L) (ktr : K tr = 15) (xn : Int) (lxn : 0 ≤ xn) (uxn : xn ≤ 580) (hf0 : q_is (q_z f src 1) xn) (hr0 : q_ir (q_r f x 0) src) (hr1 : q_ir (q_r f x 1) rdr) (hr2 : q_ir (q_r f x 2) scr) (hr3 : q_ir (q_r f x 3) fc) (hr4 : q_ir (q_r f x 4) hist) (hr5 : q_ir (q_r f x 5) rep) (hr6 : q_ir (q_r f x 6) now) (hr7 : q_ir (q_r f x 7) dr) (hr8 : q_ir (q_r f x 8) sv) (hr9 : q_ir (q_r f fc 0) tr) : q_Ct l g K L yX11_feed cX11_feed 6 (some .int) 1 22 [.ref x, .int (q_i a0), .int (q_i b0), .int (q_i c0), .int (q_i d0), .int (q_i e0)] f [(8, 1, 1), (142, 0, 599)] (q_Pi (fun (z : Int) (f1 : Nat → va_E) => z = (xn + 20) ∧ q_is (q_z f1 src 1) (xn + 20))) := by
  refine q_ofb (by decide +kernel) hN hT (Nat.le_of_ble_eq_true rfl) ?_
  intro p e s m below meth c ls cx hr hlk hB hl
  have hl : lv_has ls 6 [(0, .ref x), (1, .int (q_i a0)), (2, .int (q_i b0)), (3, .int (q_i c0)), (4, .int (q_i d0)), (5, .int (q_i e0))] := hl
  obtain ⟨H, hH⟩ : ∃ H : Heap, H = s.heap := ⟨_, rfl⟩
  obtain ⟨locs, hlocs⟩ : ∃ z : List Loc, z = [] := ⟨_, rfl⟩
  rw [← hH, ← hlocs] at hB
  rw [← hH, ← hlocs]
  refine q_ald_n cx dX11_feed_0 rfl (lv_at hl 0 rfl) ?_
  refine q_gX11_10 cx hB hx kx hr0 dX11_feed_1 (fun hb83 kb83 => ?_)
  refine q_cVi (As := []) (rest := []) cx hB (fun _ h => h) hN hsrc ksrc (by decide) rfl (g_hasRoom_a l g hN hB.2.1 src hsrc ksrc xn (by omega) (by omega) hf0) q_cX11_64 q_dX8_hasRoomForFeed (by decide) rfl rfl hl.1 rfl (Nat.le_of_ble_eq_true rfl) dX11_feed_4 (fun y85 H locs f84 ry85 h86 hF hB => ?_)
  obtain ⟨rfl, qy85⟩ := h86
  subst qy85
  refine q_ifne (tgt := 20) cx ⟨by decide, by decide⟩ dX11_feed_7 (by decide) (fun c87 => ?_) (fun c87 => ?_)
  · refine q_ald_n cx dX11_feed_20 rfl (lv_at hl 0 rfl) ?_
    refine q_gX11_10 cx hB hx kx hr0 dX11_feed_21 (fun hb88 kb88 => ?_)
    refine q_ild_n cx dX11_feed_24 rfl (lv_at hl 1 rfl) ?_
    refine q_cVv (As := [.int (q_i a0)]) (rest := []) cx hB (fun _ h => h) hN hsrc ksrc (by decide) rfl (g_append l g hN hB.2.1 src hsrc ksrc a0 (by omega) (by omega) xn (by omega) (by omega) hf0) q_cX11_75 q_dX8_append (by decide) rfl rfl hl.1 rfl (Nat.le_of_ble_eq_true rfl) dX11_feed_25 (fun H locs f89 h91 hF hB => ?_)
    have z92 := h91
    have z93 : q_ir (q_r f89 x 0) src := Eq.trans (hF.r hx (by rw [kx]; rfl)) hr0
    have z94 : q_ir (q_r f89 x 1) rdr := Eq.trans (hF.r hx (by rw [kx]; rfl)) hr1
    have z95 : q_ir (q_r f89 x 2) scr := Eq.trans (hF.r hx (by rw [kx]; rfl)) hr2
    have z96 : q_ir (q_r f89 x 3) fc := Eq.trans (hF.r hx (by rw [kx]; rfl)) hr3
    have z97 : q_ir (q_r f89 x 4) hist := Eq.trans (hF.r hx (by rw [kx]; rfl)) hr4
    have z98 : q_ir (q_r f89 x 5) rep := Eq.trans (hF.r hx (by rw [kx]; rfl)) hr5
    have z99 : q_ir (q_r f89 x 6) now := Eq.trans (hF.r hx (by rw [kx]; rfl)) hr6
    have z100 : q_ir (q_r f89 x 7) dr := Eq.trans (hF.r hx (by rw [kx]; rfl)) hr7
    have z101 : q_ir (q_r f89 x 8) sv := Eq.trans (hF.r hx (by rw [kx]; rfl)) hr8
    have z102 : q_ir (q_r f89 fc 0) tr := Eq.trans (hF.r hfc (by rw [kfc]; rfl)) hr9
    refine q_ald_n cx dX11_feed_28 rfl (lv_at hl 0 rfl) ?_
    refine q_gX11_10 cx hB hx kx z93 dX11_feed_29 (fun hb103 kb103 => ?_)
    refine q_ild_n cx dX11_feed_32 rfl (lv_at hl 2 rfl) ?_
    refine q_cVv (As := [.int (q_i b0)]) (rest := []) cx hB (fun _ h => h) hN hsrc ksrc (by decide) rfl (g_append l g hN hB.2.1 src hsrc ksrc b0 (by omega) (by omega) (xn + 4) (by omega) (by omega) z92) q_cX11_75 q_dX8_append (by decide) rfl rfl hl.1 rfl (Nat.le_of_ble_eq_true rfl) dX11_feed_33 (fun H locs f104 h106 hF hB => ?_)
    have z107 := h106
    have z108 : q_ir (q_r f104 x 0) src := Eq.trans (hF.r hx (by rw [kx]; rfl)) z93
    have z109 : q_ir (q_r f104 x 1) rdr := Eq.trans (hF.r hx (by rw [kx]; rfl)) z94
    have z110 : q_ir (q_r f104 x 2) scr := Eq.trans (hF.r hx (by rw [kx]; rfl)) z95
    have z111 : q_ir (q_r f104 x 3) fc := Eq.trans (hF.r hx (by rw [kx]; rfl)) z96
    have z112 : q_ir (q_r f104 x 4) hist := Eq.trans (hF.r hx (by rw [kx]; rfl)) z97
    have z113 : q_ir (q_r f104 x 5) rep := Eq.trans (hF.r hx (by rw [kx]; rfl)) z98
    have z114 : q_ir (q_r f104 x 6) now := Eq.trans (hF.r hx (by rw [kx]; rfl)) z99
    have z115 : q_ir (q_r f104 x 7) dr := Eq.trans (hF.r hx (by rw [kx]; rfl)) z100
    have z116 : q_ir (q_r f104 x 8) sv := Eq.trans (hF.r hx (by rw [kx]; rfl)) z101
    have z117 : q_ir (q_r f104 fc 0) tr := Eq.trans (hF.r hfc (by rw [kfc]; rfl)) z102
    refine q_ald_n cx dX11_feed_36 rfl (lv_at hl 0 rfl) ?_
    refine q_gX11_10 cx hB hx kx z108 dX11_feed_37 (fun hb118 kb118 => ?_)
    refine q_ild_n cx dX11_feed_40 rfl (lv_at hl 3 rfl) ?_
    refine q_cVv (As := [.int (q_i c0)]) (rest := []) cx hB (fun _ h => h) hN hsrc ksrc (by decide) rfl (g_append l g hN hB.2.1 src hsrc ksrc c0 (by omega) (by omega) ((xn + 4) + 4) (by omega) (by omega) z107) q_cX11_75 q_dX8_append (by decide) rfl rfl hl.1 rfl (Nat.le_of_ble_eq_true rfl) dX11_feed_41 (fun H locs f119 h121 hF hB => ?_)
    have z122 := h121
    have z123 : q_ir (q_r f119 x 0) src := Eq.trans (hF.r hx (by rw [kx]; rfl)) z108
    have z124 : q_ir (q_r f119 x 1) rdr := Eq.trans (hF.r hx (by rw [kx]; rfl)) z109
    have z125 : q_ir (q_r f119 x 2) scr := Eq.trans (hF.r hx (by rw [kx]; rfl)) z110
    have z126 : q_ir (q_r f119 x 3) fc := Eq.trans (hF.r hx (by rw [kx]; rfl)) z111
    have z127 : q_ir (q_r f119 x 4) hist := Eq.trans (hF.r hx (by rw [kx]; rfl)) z112
    have z128 : q_ir (q_r f119 x 5) rep := Eq.trans (hF.r hx (by rw [kx]; rfl)) z113
    have z129 : q_ir (q_r f119 x 6) now := Eq.trans (hF.r hx (by rw [kx]; rfl)) z114
    have z130 : q_ir (q_r f119 x 7) dr := Eq.trans (hF.r hx (by rw [kx]; rfl)) z115
    have z131 : q_ir (q_r f119 x 8) sv := Eq.trans (hF.r hx (by rw [kx]; rfl)) z116
    have z132 : q_ir (q_r f119 fc 0) tr := Eq.trans (hF.r hfc (by rw [kfc]; rfl)) z117
    refine q_ald_n cx dX11_feed_44 rfl (lv_at hl 0 rfl) ?_
    refine q_gX11_10 cx hB hx kx z123 dX11_feed_45 (fun hb133 kb133 => ?_)
    refine lv_iload cx.1 cx.2.1 dX11_feed_48 (lv_at hl 4 rfl) ?_
    refine q_cVv (As := [.int (q_i d0)]) (rest := []) cx hB (fun _ h => h) hN hsrc ksrc (by decide) rfl (g_append l g hN hB.2.1 src hsrc ksrc d0 (by omega) (by omega) (((xn + 4) + 4) + 4) (by omega) (by omega) z122) q_cX11_75 q_dX8_append (by decide) rfl rfl hl.1 rfl (Nat.le_of_ble_eq_true rfl) dX11_feed_50 (fun H locs f134 h136 hF hB => ?_)
    have z137 := h136
    have z138 : q_ir (q_r f134 x 0) src := Eq.trans (hF.r hx (by rw [kx]; rfl)) z123
    have z139 : q_ir (q_r f134 x 1) rdr := Eq.trans (hF.r hx (by rw [kx]; rfl)) z124
    have z140 : q_ir (q_r f134 x 2) scr := Eq.trans (hF.r hx (by rw [kx]; rfl)) z125
    have z141 : q_ir (q_r f134 x 3) fc := Eq.trans (hF.r hx (by rw [kx]; rfl)) z126
    have z142 : q_ir (q_r f134 x 4) hist := Eq.trans (hF.r hx (by rw [kx]; rfl)) z127
    have z143 : q_ir (q_r f134 x 5) rep := Eq.trans (hF.r hx (by rw [kx]; rfl)) z128
    have z144 : q_ir (q_r f134 x 6) now := Eq.trans (hF.r hx (by rw [kx]; rfl)) z129
    have z145 : q_ir (q_r f134 x 7) dr := Eq.trans (hF.r hx (by rw [kx]; rfl)) z130
    have z146 : q_ir (q_r f134 x 8) sv := Eq.trans (hF.r hx (by rw [kx]; rfl)) z131
    have z147 : q_ir (q_r f134 fc 0) tr := Eq.trans (hF.r hfc (by rw [kfc]; rfl)) z132
    refine q_ald_n cx dX11_feed_53 rfl (lv_at hl 0 rfl) ?_
    refine q_gX11_10 cx hB hx kx z138 dX11_feed_54 (fun hb148 kb148 => ?_)
    refine lv_iload cx.1 cx.2.1 dX11_feed_57 (lv_at hl 5 rfl) ?_
    refine q_cVv (As := [.int (q_i e0)]) (rest := []) cx hB (fun _ h => h) hN hsrc ksrc (by decide) rfl (g_append l g hN hB.2.1 src hsrc ksrc e0 (by omega) (by omega) ((((xn + 4) + 4) + 4) + 4) (by omega) (by omega) z137) q_cX11_75 q_dX8_append (by decide) rfl rfl hl.1 rfl (Nat.le_of_ble_eq_true rfl) dX11_feed_59 (fun H locs f149 h151 hF hB => ?_)
    have z152 := h151
    have z153 : q_ir (q_r f149 x 0) src := Eq.trans (hF.r hx (by rw [kx]; rfl)) z138
    have z154 : q_ir (q_r f149 x 1) rdr := Eq.trans (hF.r hx (by rw [kx]; rfl)) z139
    have z155 : q_ir (q_r f149 x 2) scr := Eq.trans (hF.r hx (by rw [kx]; rfl)) z140
    have z156 : q_ir (q_r f149 x 3) fc := Eq.trans (hF.r hx (by rw [kx]; rfl)) z141
    have z157 : q_ir (q_r f149 x 4) hist := Eq.trans (hF.r hx (by rw [kx]; rfl)) z142
    have z158 : q_ir (q_r f149 x 5) rep := Eq.trans (hF.r hx (by rw [kx]; rfl)) z143
    have z159 : q_ir (q_r f149 x 6) now := Eq.trans (hF.r hx (by rw [kx]; rfl)) z144
    have z160 : q_ir (q_r f149 x 7) dr := Eq.trans (hF.r hx (by rw [kx]; rfl)) z145
    have z161 : q_ir (q_r f149 x 8) sv := Eq.trans (hF.r hx (by rw [kx]; rfl)) z146
    have z162 : q_ir (q_r f149 fc 0) tr := Eq.trans (hF.r hfc (by rw [kfc]; rfl)) z147
    refine q_ald_n cx dX11_feed_62 rfl (lv_at hl 0 rfl) ?_
    refine q_gX11_10 cx hB hx kx z153 dX11_feed_63 (fun hb163 kb163 => ?_)
    refine q_gX11_79 cx hB hsrc ksrc z152 dX11_feed_66 (fun lb164 ub164 => ?_)
    refine q_iret cx hr hlk hB dX11_feed_69 ⟨by omega, by omega⟩ ?_
    exact ⟨(by omega), (Eq.trans z152 (by omega))⟩
  · exact absurd c87 (by omega)
set_option maxHeartbeats 4000000 in
set_option maxRecDepth 100000 in
theorem x_feed_b (l : Launch) (g : q_G) (ad : Nat → Nat) {K : Nat → Nat} {L : List Nat} (hN : L.Nodup) {f : Nat → va_E} (hT : q_Ty g K L f) (hfl : l.stackTraces = false) (x : Nat) (hx : x ∈ L) (kx : K x = 11) (a0 : Int) (la0 : (-2147483648) ≤ a0) (ua0 : a0 ≤ 2147483647) (b0 : Int) (lb0 : (-2147483648) ≤ b0) (ub0 : b0 ≤ 2147483647) (c0 : Int) (lc0 : (-2147483648) ≤ c0) (uc0 : c0 ≤ 2147483647) (d0 : Int) (ld0 : (-2147483648) ≤ d0) (ud0 : d0 ≤ 2147483647) (e0 : Int) (le0 : (-2147483648) ≤ e0) (ue0 : e0 ≤ 2147483647) (src : Nat) (hsrc : src ∈ L) (ksrc : K src = 8) (rdr : Nat) (hrdr : rdr ∈ L) (krdr : K rdr = 9) (scr : Nat) (hscr : scr ∈ L) (kscr : K scr = 7) (fc : Nat) (hfc : fc ∈ L) (kfc : K fc = 1) (hist : Nat) (hhist : hist ∈ L) (khist : K hist = 2) (rep : Nat) (hrep : rep ∈ L) (krep : K rep = 6) (now : Nat) (hnow : now ∈ L) (know : K now = 10) (dr : Nat) (hdr : dr ∈ L) (kdr : K dr = 13) (sv : Nat) (hsv : sv ∈ L) (ksv : K sv = 14) (tr : Nat) (htr : tr ∈ L) (ktr : K tr = 15) (xn : Int) (lxn : 581 ≤ xn) (uxn : xn ≤ 600) (hf0 : q_is (q_z f src 1) xn) (hr0 : q_ir (q_r f x 0) src) (hr1 : q_ir (q_r f x 1) rdr) (hr2 : q_ir (q_r f x 2) scr) (hr3 : q_ir (q_r f x 3) fc) (hr4 : q_ir (q_r f x 4) hist) (hr5 : q_ir (q_r f x 5) rep) (hr6 : q_ir (q_r f x 6) now) (hr7 : q_ir (q_r f x 7) dr) (hr8 : q_ir (q_r f x 8) sv) (hr9 : q_ir (q_r f fc 0) tr) : q_Xt l g ad K L yX11_feed cX11_feed 6 (some .int) 6 82 1 6 [.ref x, .int (q_i a0), .int (q_i b0), .int (q_i c0), .int (q_i d0), .int (q_i e0)] f [] (q_Pi (fun (z : Int) (f1 : Nat → va_E) => False)) (fun (E : String) (f1 : Nat → va_E) => E = "java/lang/IllegalStateException" ∧ f = f1) := by
  refine q_xofb (by decide +kernel) hN hT (Nat.le_of_ble_eq_true rfl) ?_
  intro p e s m below meth c ls cx hr hlk htab hX hB hl
  have hl : lv_has ls 6 [(0, .ref x), (1, .int (q_i a0)), (2, .int (q_i b0)), (3, .int (q_i c0)), (4, .int (q_i d0)), (5, .int (q_i e0))] := hl
  obtain ⟨H, hH⟩ : ∃ H : Heap, H = s.heap := ⟨_, rfl⟩
  obtain ⟨locs, hlocs⟩ : ∃ z : List Loc, z = [] := ⟨_, rfl⟩
  rw [← hH, ← hlocs] at hB
  rw [← hH, ← hlocs]
  refine q_ald_n cx dX11_feed_0 rfl (lv_at hl 0 rfl) ?_
  refine q_gX11_10 cx hB hx kx hr0 dX11_feed_1 (fun hb6 kb6 => ?_)
  refine q_cVi (As := []) (rest := []) cx hB (fun _ h => h) hN hsrc ksrc (by decide) rfl (g_hasRoom_b l g hN hB.2.1 src hsrc ksrc xn (by omega) (by omega) hf0) q_cX11_64 q_dX8_hasRoomForFeed (by decide) rfl rfl hl.1 rfl (Nat.le_of_ble_eq_true rfl) dX11_feed_4 (fun y8 H locs f7 ry8 h9 hF hB => ?_)
  obtain ⟨rfl, qy8⟩ := h9
  subst qy8
  refine q_ifne (tgt := 20) cx ⟨by decide, by decide⟩ dX11_feed_7 (by decide) (fun c10 => ?_) (fun c10 => ?_)
  · exact absurd c10 (by omega)
  · exact q_throw (text := "the buffer is full") hfl cx hlk htab hX hB hl.1 (by decide +kernel) q_h801 q_h151 (by decide +kernel) q_xl72a q_xl72b q_xl72c dX11_feed_10 dX11_feed_13 (Or.inl ⟨dX11_feed_14, dX11_feed_16, dX11_feed_19⟩) (by decide) (by decide) ⟨rfl, rfl⟩
set_option maxHeartbeats 4000000 in
set_option maxRecDepth 100000 in
theorem x_truncate_a (l : Launch) (g : q_G) (ad : Nat → Nat) {K : Nat → Nat} {L : List Nat} (hN : L.Nodup) {f : Nat → va_E} (hT : q_Ty g K L f) (hfl : l.stackTraces = false) (x : Nat) (hx : x ∈ L) (kx : K x = 11) (a0 : Int) (la0 : (-2147483648) ≤ a0) (ua0 : a0 ≤ (-1)) (src : Nat) (hsrc : src ∈ L) (ksrc : K src = 8) (rdr : Nat) (hrdr : rdr ∈ L) (krdr : K rdr = 9) (scr : Nat) (hscr : scr ∈ L) (kscr : K scr = 7) (fc : Nat) (hfc : fc ∈ L) (kfc : K fc = 1) (hist : Nat) (hhist : hist ∈ L) (khist : K hist = 2) (rep : Nat) (hrep : rep ∈ L) (krep : K rep = 6) (now : Nat) (hnow : now ∈ L) (know : K now = 10) (dr : Nat) (hdr : dr ∈ L) (kdr : K dr = 13) (sv : Nat) (hsv : sv ∈ L) (ksv : K sv = 14) (tr : Nat) (htr : tr ∈ L) (ktr : K tr = 15) (xn : Int) (lxn : 0 ≤ xn) (uxn : xn ≤ 600) (hf0 : q_is (q_z f src 1) xn) (hr0 : q_ir (q_r f x 0) src) (hr1 : q_ir (q_r f x 1) rdr) (hr2 : q_ir (q_r f x 2) scr) (hr3 : q_ir (q_r f x 3) fc) (hr4 : q_ir (q_r f x 4) hist) (hr5 : q_ir (q_r f x 5) rep) (hr6 : q_ir (q_r f x 6) now) (hr7 : q_ir (q_r f x 7) dr) (hr8 : q_ir (q_r f x 8) sv) (hr9 : q_ir (q_r f fc 0) tr) : q_Xt l g ad K L yX11_truncate cX11_truncate 2 (some .int) 6 82 1 6 [.ref x, .int (q_i a0)] f [] (q_Pi (fun (z : Int) (f1 : Nat → va_E) => False)) (fun (E : String) (f1 : Nat → va_E) => E = "java/lang/IllegalArgumentException" ∧ f = f1) := by
  refine q_xofb (by decide +kernel) hN hT (Nat.le_of_ble_eq_true rfl) ?_
  intro p e s m below meth c ls cx hr hlk htab hX hB hl
  have hl : lv_has ls 2 [(0, .ref x), (1, .int (q_i a0))] := hl
  obtain ⟨H, hH⟩ : ∃ H : Heap, H = s.heap := ⟨_, rfl⟩
  obtain ⟨locs, hlocs⟩ : ∃ z : List Loc, z = [] := ⟨_, rfl⟩
  rw [← hH, ← hlocs] at hB
  rw [← hH, ← hlocs]
  refine q_ild_n cx dX11_truncate_0 rfl (lv_at hl 1 rfl) ?_
  refine q_iflt (tgt := 15) cx ⟨by omega, by omega⟩ dX11_truncate_1 (by decide) (fun c2 => ?_) (fun c2 => ?_)
  · exact q_throw (text := "no such length") hfl cx hlk htab hX hB hl.1 (by decide +kernel) q_h880 q_h152 (by decide +kernel) q_xl87a q_xl87b q_xl87c dX11_truncate_15 dX11_truncate_18 (Or.inl ⟨dX11_truncate_19, dX11_truncate_21, dX11_truncate_24⟩) (by decide) (by decide) ⟨rfl, rfl⟩
  · exact absurd c2 (by omega)
set_option maxHeartbeats 4000000 in
set_option maxRecDepth 100000 in
theorem x_truncate_b (l : Launch) (g : q_G) {K : Nat → Nat} {L : List Nat} (hN : L.Nodup) {f : Nat → va_E} (hT : q_Ty g K L f) (x : Nat) (hx : x ∈ L) (kx : K x = 11) (a0 : Int) (la0 : 0 ≤ a0) (ua0 : a0 ≤ 600) (src : Nat) (hsrc : src ∈ L) (ksrc : K src = 8) (rdr : Nat) (hrdr : rdr ∈ L) (krdr : K rdr = 9) (scr : Nat) (hscr : scr ∈ L) (kscr : K scr = 7) (fc : Nat) (hfc : fc ∈ L) (kfc : K fc = 1) (hist : Nat) (hhist : hist ∈ L) (khist : K hist = 2) (rep : Nat) (hrep : rep ∈ L) (krep : K rep = 6) (now : Nat) (hnow : now ∈ L) (know : K now = 10) (dr : Nat) (hdr : dr ∈ L) (kdr : K dr = 13) (sv : Nat) (hsv : sv ∈ L) (ksv : K sv = 14) (tr : Nat) (htr : tr ∈ L) (ktr : K tr = 15) (xn : Int) (lxn : 0 ≤ xn) (uxn : xn ≤ 600) (hf0 : q_is (q_z f src 1) xn) (hr0 : q_ir (q_r f x 0) src) (hr1 : q_ir (q_r f x 1) rdr) (hr2 : q_ir (q_r f x 2) scr) (hr3 : q_ir (q_r f x 3) fc) (hr4 : q_ir (q_r f x 4) hist) (hr5 : q_ir (q_r f x 5) rep) (hr6 : q_ir (q_r f x 6) now) (hr7 : q_ir (q_r f x 7) dr) (hr8 : q_ir (q_r f x 8) sv) (hr9 : q_ir (q_r f fc 0) tr) (hp0 : a0 ≤ xn) : q_Ct l g K L yX11_truncate cX11_truncate 2 (some .int) 0 0 [.ref x, .int (q_i a0)] f [(8, 1, 1)] (q_Pi (fun (z : Int) (f1 : Nat → va_E) => z = a0 ∧ q_is (q_z f1 src 1) a0)) := by
  refine q_ofb (by decide +kernel) hN hT (Nat.le_of_ble_eq_true rfl) ?_
  intro p e s m below meth c ls cx hr hlk hB hl
  have hl : lv_has ls 2 [(0, .ref x), (1, .int (q_i a0))] := hl
  obtain ⟨H, hH⟩ : ∃ H : Heap, H = s.heap := ⟨_, rfl⟩
  obtain ⟨locs, hlocs⟩ : ∃ z : List Loc, z = [] := ⟨_, rfl⟩
  rw [← hH, ← hlocs] at hB
  rw [← hH, ← hlocs]
  refine q_ild_n cx dX11_truncate_0 rfl (lv_at hl 1 rfl) ?_
  refine q_iflt (tgt := 15) cx ⟨by omega, by omega⟩ dX11_truncate_1 (by decide) (fun c18 => ?_) (fun c18 => ?_)
  · exact absurd c18 (by omega)
  · refine q_ild_n cx dX11_truncate_4 rfl (lv_at hl 1 rfl) ?_
    refine q_ald_n cx dX11_truncate_5 rfl (lv_at hl 0 rfl) ?_
    refine q_gX11_10 cx hB hx kx hr0 dX11_truncate_6 (fun hb19 kb19 => ?_)
    refine q_gX11_79 cx hB hsrc ksrc hf0 dX11_truncate_9 (fun lb20 ub20 => ?_)
    refine q_icle (tgt := 25) cx ⟨by omega, by omega⟩ ⟨by omega, by omega⟩ dX11_truncate_12 (by decide) (fun c21 => ?_) (fun c21 => ?_)
    · refine q_ald_n cx dX11_truncate_25 rfl (lv_at hl 0 rfl) ?_
      refine q_gX11_10 cx hB hx kx hr0 dX11_truncate_26 (fun hb22 kb22 => ?_)
      refine q_ild_n cx dX11_truncate_29 rfl (lv_at hl 1 rfl) ?_
      refine q_pX11_79 cx hB hsrc ksrc ⟨by omega, by omega⟩ (by omega) (by omega) rfl dX11_truncate_30 (fun H locs f23 ef23 z24 hB => ?_)
      have z25 : q_ir (q_r f23 x 0) src := by rw [ef23, q_setr (Or.inr (by decide))]; exact hr0
      have z26 : q_ir (q_r f23 x 1) rdr := by rw [ef23, q_setr (Or.inl (fun q => by rw [q, ksrc] at kx; exact absurd kx (by decide)))]; exact hr1
      have z27 : q_ir (q_r f23 x 2) scr := by rw [ef23, q_setr (Or.inr (by decide))]; exact hr2
      have z28 : q_ir (q_r f23 x 3) fc := by rw [ef23, q_setr (Or.inr (by decide))]; exact hr3
      have z29 : q_ir (q_r f23 x 4) hist := by rw [ef23, q_setr (Or.inr (by decide))]; exact hr4
      have z30 : q_ir (q_r f23 x 5) rep := by rw [ef23, q_setr (Or.inr (by decide))]; exact hr5
      have z31 : q_ir (q_r f23 x 6) now := by rw [ef23, q_setr (Or.inr (by decide))]; exact hr6
      have z32 : q_ir (q_r f23 x 7) dr := by rw [ef23, q_setr (Or.inr (by decide))]; exact hr7
      have z33 : q_ir (q_r f23 x 8) sv := by rw [ef23, q_setr (Or.inr (by decide))]; exact hr8
      have z34 : q_ir (q_r f23 fc 0) tr := by rw [ef23, q_setr (Or.inr (by decide))]; exact hr9
      refine q_ild_n cx dX11_truncate_33 rfl (lv_at hl 1 rfl) ?_
      refine q_iret cx hr hlk hB dX11_truncate_34 ⟨by omega, by omega⟩ ?_
      exact ⟨rfl, z24⟩
    · exact absurd c21 (by omega)
set_option maxHeartbeats 4000000 in
set_option maxRecDepth 100000 in
theorem x_truncate_c (l : Launch) (g : q_G) (ad : Nat → Nat) {K : Nat → Nat} {L : List Nat} (hN : L.Nodup) {f : Nat → va_E} (hT : q_Ty g K L f) (hfl : l.stackTraces = false) (x : Nat) (hx : x ∈ L) (kx : K x = 11) (a0 : Int) (la0 : 0 ≤ a0) (ua0 : a0 ≤ 2147483647) (src : Nat) (hsrc : src ∈ L) (ksrc : K src = 8) (rdr : Nat) (hrdr : rdr ∈ L) (krdr : K rdr = 9) (scr : Nat) (hscr : scr ∈ L) (kscr : K scr = 7) (fc : Nat) (hfc : fc ∈ L) (kfc : K fc = 1) (hist : Nat) (hhist : hist ∈ L) (khist : K hist = 2) (rep : Nat) (hrep : rep ∈ L) (krep : K rep = 6) (now : Nat) (hnow : now ∈ L) (know : K now = 10) (dr : Nat) (hdr : dr ∈ L) (kdr : K dr = 13) (sv : Nat) (hsv : sv ∈ L) (ksv : K sv = 14) (tr : Nat) (htr : tr ∈ L) (ktr : K tr = 15) (xn : Int) (lxn : 0 ≤ xn) (uxn : xn ≤ 600) (hf0 : q_is (q_z f src 1) xn) (hr0 : q_ir (q_r f x 0) src) (hr1 : q_ir (q_r f x 1) rdr) (hr2 : q_ir (q_r f x 2) scr) (hr3 : q_ir (q_r f x 3) fc) (hr4 : q_ir (q_r f x 4) hist) (hr5 : q_ir (q_r f x 5) rep) (hr6 : q_ir (q_r f x 6) now) (hr7 : q_ir (q_r f x 7) dr) (hr8 : q_ir (q_r f x 8) sv) (hr9 : q_ir (q_r f fc 0) tr) (hp0 : xn < a0) : q_Xt l g ad K L yX11_truncate cX11_truncate 2 (some .int) 6 82 1 6 [.ref x, .int (q_i a0)] f [] (q_Pi (fun (z : Int) (f1 : Nat → va_E) => False)) (fun (E : String) (f1 : Nat → va_E) => E = "java/lang/IllegalArgumentException" ∧ f = f1) := by
  refine q_xofb (by decide +kernel) hN hT (Nat.le_of_ble_eq_true rfl) ?_
  intro p e s m below meth c ls cx hr hlk htab hX hB hl
  have hl : lv_has ls 2 [(0, .ref x), (1, .int (q_i a0))] := hl
  obtain ⟨H, hH⟩ : ∃ H : Heap, H = s.heap := ⟨_, rfl⟩
  obtain ⟨locs, hlocs⟩ : ∃ z : List Loc, z = [] := ⟨_, rfl⟩
  rw [← hH, ← hlocs] at hB
  rw [← hH, ← hlocs]
  refine q_ild_n cx dX11_truncate_0 rfl (lv_at hl 1 rfl) ?_
  refine q_iflt (tgt := 15) cx ⟨by omega, by omega⟩ dX11_truncate_1 (by decide) (fun c5 => ?_) (fun c5 => ?_)
  · exact absurd c5 (by omega)
  · refine q_ild_n cx dX11_truncate_4 rfl (lv_at hl 1 rfl) ?_
    refine q_ald_n cx dX11_truncate_5 rfl (lv_at hl 0 rfl) ?_
    refine q_gX11_10 cx hB hx kx hr0 dX11_truncate_6 (fun hb6 kb6 => ?_)
    refine q_gX11_79 cx hB hsrc ksrc hf0 dX11_truncate_9 (fun lb7 ub7 => ?_)
    refine q_icle (tgt := 25) cx ⟨by omega, by omega⟩ ⟨by omega, by omega⟩ dX11_truncate_12 (by decide) (fun c8 => ?_) (fun c8 => ?_)
    · exact absurd c8 (by omega)
    · exact q_throw (text := "no such length") hfl cx hlk htab hX hB hl.1 (by decide +kernel) q_h880 q_h152 (by decide +kernel) q_xl87a q_xl87b q_xl87c dX11_truncate_15 dX11_truncate_18 (Or.inl ⟨dX11_truncate_19, dX11_truncate_21, dX11_truncate_24⟩) (by decide) (by decide) ⟨rfl, rfl⟩
set_option maxHeartbeats 4000000 in
set_option maxRecDepth 100000 in
theorem x_readText (l : Launch) (g : q_G) (ad : Nat → Nat) {K : Nat → Nat} {L : List Nat} (hN : L.Nodup) {f : Nat → va_E} (hT : q_Ty g K L f) (hfl : l.stackTraces = false) (x : Nat) (hx : x ∈ L) (kx : K x = 11) (src : Nat) (hsrc : src ∈ L) (ksrc : K src = 8) (rdr : Nat) (hrdr : rdr ∈ L) (krdr : K rdr = 9) (scr : Nat) (hscr : scr ∈ L) (kscr : K scr = 7) (fc : Nat) (hfc : fc ∈ L) (kfc : K fc = 1) (hist : Nat) (hhist : hist ∈ L) (khist : K hist = 2) (rep : Nat) (hrep : rep ∈ L) (krep : K rep = 6) (now : Nat) (hnow : now ∈ L) (know : K now = 10) (dr : Nat) (hdr : dr ∈ L) (kdr : K dr = 13) (sv : Nat) (hsv : sv ∈ L) (ksv : K sv = 14) (tr : Nat) (htr : tr ∈ L) (ktr : K tr = 15) (hr0 : q_ir (q_r f x 0) src) (hr1 : q_ir (q_r f x 1) rdr) (hr2 : q_ir (q_r f x 2) scr) (hr3 : q_ir (q_r f x 3) fc) (hr4 : q_ir (q_r f x 4) hist) (hr5 : q_ir (q_r f x 5) rep) (hr6 : q_ir (q_r f x 6) now) (hr7 : q_ir (q_r f x 7) dr) (hr8 : q_ir (q_r f x 8) sv) (hr9 : q_ir (q_r f fc 0) tr) : q_Xt l g ad K L yX11_readText cX11_readText 2 (some .int) 9 199 1 6 [.ref x] f [(2, 2, 2), (3, 0, 4), (4, 0, 7), (5, 0, 8), (8, 1, 9), (9, 0, 2), (10, 3, 12), (13, 3, 12), (17, 0, 8), (21, 0, 4)] (q_Pi (fun (z : Int) (f1 : Nat → va_E) => q_is (q_z f1 src 1) 0)) (fun (E : String) (f1 : Nat → va_E) => E = "java/lang/IllegalArgumentException" ∧ q_is (q_z f1 src 1) 0) := by
  refine q_xofb (by decide +kernel) hN hT (Nat.le_of_ble_eq_true rfl) ?_
  intro p e s m below meth c ls cx hr hlk htab hX hB hl
  have hl : lv_has ls 2 [(0, .ref x)] := hl
  obtain ⟨H, hH⟩ : ∃ H : Heap, H = s.heap := ⟨_, rfl⟩
  obtain ⟨locs, hlocs⟩ : ∃ z : List Loc, z = [] := ⟨_, rfl⟩
  rw [← hH, ← hlocs] at hB
  rw [← hH, ← hlocs]
  refine q_ald_n cx dX11_readText_0 rfl (lv_at hl 0 rfl) ?_
  refine q_gX11_19 cx hB hx kx hr1 dX11_readText_1 (fun hb66 kb66 => ?_)
  refine q_ald_n cx dX11_readText_4 rfl (lv_at hl 0 rfl) ?_
  refine q_gX11_10 cx hB hx kx hr0 dX11_readText_5 (fun hb67 kb67 => ?_)
  refine q_ald_n cx dX11_readText_8 rfl (lv_at hl 0 rfl) ?_
  refine q_gX11_58 cx hB hx kx hr7 dX11_readText_9 (fun hb68 kb68 => ?_)
  refine q_cXV (As := [.ref src, .ref dr]) (rest := []) cx hX hB (fun _ h => h) (fun _ h _ => h) hN hrdr krdr (by decide) rfl (g_X9_readAll l g ad hN hB.2.1 hfl rdr hrdr krdr src hsrc ksrc dr hdr kdr) q_cX11_88 q_dX9_readAll (by decide) rfl rfl hl.1 rfl (Nat.le_of_ble_eq_true rfl) dX11_readText_12 (fun E9 ce9 q9 H locs f72 hex hF hB hcell hcv hcl => ?_) (fun v9 H locs f69 h71 hF hB => ?_)
  · exact hex.elim
  · obtain ⟨y70, rfl, ry70, h71⟩ := h71
    refine W.eq (g2 := F0 m 15 ls [.int (q_i y70)]) rfl ?_
    obtain ⟨ly70, uy70⟩ := h71
    have z73 : q_ir (q_r f69 x 0) src := Eq.trans (hF.r hx (by rw [kx]; rfl)) hr0
    have z74 : q_ir (q_r f69 x 1) rdr := Eq.trans (hF.r hx (by rw [kx]; rfl)) hr1
    have z75 : q_ir (q_r f69 x 2) scr := Eq.trans (hF.r hx (by rw [kx]; rfl)) hr2
    have z76 : q_ir (q_r f69 x 3) fc := Eq.trans (hF.r hx (by rw [kx]; rfl)) hr3
    have z77 : q_ir (q_r f69 x 4) hist := Eq.trans (hF.r hx (by rw [kx]; rfl)) hr4
    have z78 : q_ir (q_r f69 x 5) rep := Eq.trans (hF.r hx (by rw [kx]; rfl)) hr5
    have z79 : q_ir (q_r f69 x 6) now := Eq.trans (hF.r hx (by rw [kx]; rfl)) hr6
    have z80 : q_ir (q_r f69 x 7) dr := Eq.trans (hF.r hx (by rw [kx]; rfl)) hr7
    have z81 : q_ir (q_r f69 x 8) sv := Eq.trans (hF.r hx (by rw [kx]; rfl)) hr8
    have z82 : q_ir (q_r f69 fc 0) tr := Eq.trans (hF.r hfc (by rw [kfc]; rfl)) hr9
    refine lv_istore_n (lv' := [(1, .int (q_i y70)), (0, .ref x)]) cx.1 cx.2.1 dX11_readText_15 rfl hl (by decide) rfl (fun ls hl => ?_)
    refine q_ald_n cx dX11_readText_16 rfl (lv_at hl 1 rfl) ?_
    refine q_gX11_10 cx hB hx kx z73 dX11_readText_17 (fun hb83 kb83 => ?_)
    refine q_iconst cx dX11_readText_20 ?_
    refine q_pX11_79 cx hB hsrc ksrc ⟨by decide, by decide⟩ (by decide) (by decide) rfl dX11_readText_21 (fun H locs f84 ef84 z85 hB => ?_)
    have z86 : q_ir (q_r f84 x 0) src := by rw [ef84, q_setr (Or.inr (by decide))]; exact z73
    have z87 : q_ir (q_r f84 x 1) rdr := by rw [ef84, q_setr (Or.inl (fun q => by rw [q, ksrc] at kx; exact absurd kx (by decide)))]; exact z74
    have z88 : q_ir (q_r f84 x 2) scr := by rw [ef84, q_setr (Or.inr (by decide))]; exact z75
    have z89 : q_ir (q_r f84 x 3) fc := by rw [ef84, q_setr (Or.inr (by decide))]; exact z76
    have z90 : q_ir (q_r f84 x 4) hist := by rw [ef84, q_setr (Or.inr (by decide))]; exact z77
    have z91 : q_ir (q_r f84 x 5) rep := by rw [ef84, q_setr (Or.inr (by decide))]; exact z78
    have z92 : q_ir (q_r f84 x 6) now := by rw [ef84, q_setr (Or.inr (by decide))]; exact z79
    have z93 : q_ir (q_r f84 x 7) dr := by rw [ef84, q_setr (Or.inr (by decide))]; exact z80
    have z94 : q_ir (q_r f84 x 8) sv := by rw [ef84, q_setr (Or.inr (by decide))]; exact z81
    have z95 : q_ir (q_r f84 fc 0) tr := by rw [ef84, q_setr (Or.inr (by decide))]; exact z82
    refine q_ild_n cx dX11_readText_24 rfl (lv_at hl 0 rfl) ?_
    refine q_ifne (tgt := 38) cx ⟨by omega, by omega⟩ dX11_readText_25 (by decide) (fun c96 => ?_) (fun c96 => ?_)
    · refine q_ald_n cx dX11_readText_38 rfl (lv_at hl 1 rfl) ?_
      refine q_gX11_54 cx hB hx kx z92 dX11_readText_39 (fun hb97 kb97 => ?_)
      refine q_ald_n cx dX11_readText_42 rfl (lv_at hl 1 rfl) ?_
      refine q_gX11_58 cx hB hx kx z93 dX11_readText_43 (fun hb98 kb98 => ?_)
      refine q_cVv (As := [.ref dr]) (rest := []) cx hB (fun _ h => h) hN hnow know (by decide) rfl (g_X10_copyFrom_01 l g hN hB.2.1 now hnow know dr hdr kdr) q_cX11_94 q_dX10_copyFrom (by decide) rfl rfl hl.1 rfl (Nat.le_of_ble_eq_true rfl) dX11_readText_46 (fun H locs f99 h101 hF hB => ?_)
      have z102 : q_is (q_z f99 src 1) 0 := Eq.trans (hF.z hsrc (by rw [ksrc]; rfl)) z85
      have z103 : q_ir (q_r f99 x 0) src := Eq.trans (hF.r hx (by rw [kx]; rfl)) z86
      have z104 : q_ir (q_r f99 x 1) rdr := Eq.trans (hF.r hx (by rw [kx]; rfl)) z87
      have z105 : q_ir (q_r f99 x 2) scr := Eq.trans (hF.r hx (by rw [kx]; rfl)) z88
      have z106 : q_ir (q_r f99 x 3) fc := Eq.trans (hF.r hx (by rw [kx]; rfl)) z89
      have z107 : q_ir (q_r f99 x 4) hist := Eq.trans (hF.r hx (by rw [kx]; rfl)) z90
      have z108 : q_ir (q_r f99 x 5) rep := Eq.trans (hF.r hx (by rw [kx]; rfl)) z91
      have z109 : q_ir (q_r f99 x 6) now := Eq.trans (hF.r hx (by rw [kx]; rfl)) z92
      have z110 : q_ir (q_r f99 x 7) dr := Eq.trans (hF.r hx (by rw [kx]; rfl)) z93
      have z111 : q_ir (q_r f99 x 8) sv := Eq.trans (hF.r hx (by rw [kx]; rfl)) z94
      have z112 : q_ir (q_r f99 fc 0) tr := Eq.trans (hF.r hfc (by rw [kfc]; rfl)) z95
      refine q_ald_n cx dX11_readText_49 rfl (lv_at hl 1 rfl) ?_
      refine q_gX11_40 cx hB hx kx z107 dX11_readText_50 (fun hb113 kb113 => ?_)
      refine q_cVv (As := []) (rest := []) cx hB (fun _ h => h) hN hhist khist (by decide) rfl (g_X2_forget l g hN hB.2.1 hist hhist khist) q_cX11_98 q_dX2_forget (by decide) rfl rfl hl.1 rfl (Nat.le_of_ble_eq_true rfl) dX11_readText_53 (fun H locs f114 h116 hF hB => ?_)
      have z117 : q_is (q_z f114 src 1) 0 := Eq.trans (hF.z hsrc (by rw [ksrc]; rfl)) z102
      have z118 : q_ir (q_r f114 x 0) src := Eq.trans (hF.r hx (by rw [kx]; rfl)) z103
      have z119 : q_ir (q_r f114 x 1) rdr := Eq.trans (hF.r hx (by rw [kx]; rfl)) z104
      have z120 : q_ir (q_r f114 x 2) scr := Eq.trans (hF.r hx (by rw [kx]; rfl)) z105
      have z121 : q_ir (q_r f114 x 3) fc := Eq.trans (hF.r hx (by rw [kx]; rfl)) z106
      have z122 : q_ir (q_r f114 x 4) hist := Eq.trans (hF.r hx (by rw [kx]; rfl)) z107
      have z123 : q_ir (q_r f114 x 5) rep := Eq.trans (hF.r hx (by rw [kx]; rfl)) z108
      have z124 : q_ir (q_r f114 x 6) now := Eq.trans (hF.r hx (by rw [kx]; rfl)) z109
      have z125 : q_ir (q_r f114 x 7) dr := Eq.trans (hF.r hx (by rw [kx]; rfl)) z110
      have z126 : q_ir (q_r f114 x 8) sv := Eq.trans (hF.r hx (by rw [kx]; rfl)) z111
      have z127 : q_ir (q_r f114 fc 0) tr := Eq.trans (hF.r hfc (by rw [kfc]; rfl)) z112
      refine q_ald_n cx dX11_readText_56 rfl (lv_at hl 1 rfl) ?_
      refine q_gX11_54 cx hB hx kx z124 dX11_readText_57 (fun hb128 kb128 => ?_)
      obtain ⟨x129, ex129⟩ : ∃ zz, q_is (q_z f114 now 3) zz := ⟨_, q_isr _⟩
      refine q_gX11_101 cx hB hnow know ex129 dX11_readText_60 (fun lb130 ub130 => ?_)
      refine W.widen (k := 1) (n := 6) (by decide) (by decide) ?_
      refine vx_ret ?_
      refine q_iret cx hr hlk hB dX11_readText_63 ⟨by omega, by omega⟩ ?_
      exact z117
    · exact q_throw (text := "the text has an error") hfl cx hlk htab hX hB hl.1 (by decide +kernel) q_h880 q_h152 (by decide +kernel) q_xl87a q_xl87b q_xl87c dX11_readText_28 dX11_readText_31 (Or.inl ⟨dX11_readText_32, dX11_readText_34, dX11_readText_37⟩) (by decide) (by decide) ⟨rfl, z85⟩
set_option maxHeartbeats 4000000 in
set_option maxRecDepth 100000 in
theorem x_runScript (l : Launch) (g : q_G) (ad : Nat → Nat) {K : Nat → Nat} {L : List Nat} (hN : L.Nodup) {f : Nat → va_E} (hT : q_Ty g K L f) (hfl : l.stackTraces = false) (x : Nat) (hx : x ∈ L) (kx : K x = 11) (src : Nat) (hsrc : src ∈ L) (ksrc : K src = 8) (rdr : Nat) (hrdr : rdr ∈ L) (krdr : K rdr = 9) (scr : Nat) (hscr : scr ∈ L) (kscr : K scr = 7) (fc : Nat) (hfc : fc ∈ L) (kfc : K fc = 1) (hist : Nat) (hhist : hist ∈ L) (khist : K hist = 2) (rep : Nat) (hrep : rep ∈ L) (krep : K rep = 6) (now : Nat) (hnow : now ∈ L) (know : K now = 10) (dr : Nat) (hdr : dr ∈ L) (kdr : K dr = 13) (sv : Nat) (hsv : sv ∈ L) (ksv : K sv = 14) (tr : Nat) (htr : tr ∈ L) (ktr : K tr = 15) (hr0 : q_ir (q_r f x 0) src) (hr1 : q_ir (q_r f x 1) rdr) (hr2 : q_ir (q_r f x 2) scr) (hr3 : q_ir (q_r f x 3) fc) (hr4 : q_ir (q_r f x 4) hist) (hr5 : q_ir (q_r f x 5) rep) (hr6 : q_ir (q_r f x 6) now) (hr7 : q_ir (q_r f x 7) dr) (hr8 : q_ir (q_r f x 8) sv) (hr9 : q_ir (q_r f fc 0) tr) : q_Xt l g ad K L yX11_runScript cX11_runScript 2 (some .int) 8 175 1 6 [.ref x] f [(0, 0, 6), (2, 1, 2), (3, 2, 4), (4, 0, 7), (5, 1, 1), (5, 3, 4), (5, 6, 9), (7, 1, 4), (8, 1, 9), (10, 5, 5), (10, 11, 15), (16, 3, 12), (20, 0, 8), (24, 0, 4), (28, 0, 7)] (q_Pi (fun (z : Int) (f1 : Nat → va_E) => q_is (q_z f1 src 1) 0)) (fun (E : String) (f1 : Nat → va_E) => E = "java/lang/IllegalArgumentException" ∧ q_is (q_z f1 src 1) 0) := by
  refine q_xofb (by decide +kernel) hN hT (Nat.le_of_ble_eq_true rfl) ?_
  intro p e s m below meth c ls cx hr hlk htab hX hB hl
  have hl : lv_has ls 2 [(0, .ref x)] := hl
  obtain ⟨H, hH⟩ : ∃ H : Heap, H = s.heap := ⟨_, rfl⟩
  obtain ⟨locs, hlocs⟩ : ∃ z : List Loc, z = [] := ⟨_, rfl⟩
  rw [← hH, ← hlocs] at hB
  rw [← hH, ← hlocs]
  refine q_ald_n cx dX11_runScript_0 rfl (lv_at hl 0 rfl) ?_
  refine q_gX11_26 cx hB hx kx hr2 dX11_runScript_1 (fun hb64 kb64 => ?_)
  refine q_ald_n cx dX11_runScript_4 rfl (lv_at hl 0 rfl) ?_
  refine q_gX11_10 cx hB hx kx hr0 dX11_runScript_5 (fun hb65 kb65 => ?_)
  refine q_ald_n cx dX11_runScript_8 rfl (lv_at hl 0 rfl) ?_
  refine q_gX11_54 cx hB hx kx hr6 dX11_runScript_9 (fun hb66 kb66 => ?_)
  refine q_cXV (As := [.ref src, .ref now]) (rest := []) cx hX hB (fun _ h => h) (fun _ h _ => h) hN hscr kscr (by decide) rfl (g_X7_readAll l g ad hN hB.2.1 hfl scr hscr kscr src hsrc ksrc now hnow know) q_cX11_104 q_dX7_readAll (by decide) rfl rfl hl.1 rfl (Nat.le_of_ble_eq_true rfl) dX11_runScript_12 (fun E9 ce9 q9 H locs f70 hex hF hB hcell hcv hcl => ?_) (fun v9 H locs f67 h69 hF hB => ?_)
  · exact hex.elim
  · obtain ⟨y68, rfl, ry68, h69⟩ := h69
    refine W.eq (g2 := F0 m 15 ls [.int (q_i y68)]) rfl ?_
    obtain ⟨ly68, uy68⟩ := h69
    have z71 : q_ir (q_r f67 x 0) src := Eq.trans (hF.r hx (by rw [kx]; rfl)) hr0
    have z72 : q_ir (q_r f67 x 1) rdr := Eq.trans (hF.r hx (by rw [kx]; rfl)) hr1
    have z73 : q_ir (q_r f67 x 2) scr := Eq.trans (hF.r hx (by rw [kx]; rfl)) hr2
    have z74 : q_ir (q_r f67 x 3) fc := Eq.trans (hF.r hx (by rw [kx]; rfl)) hr3
    have z75 : q_ir (q_r f67 x 4) hist := Eq.trans (hF.r hx (by rw [kx]; rfl)) hr4
    have z76 : q_ir (q_r f67 x 5) rep := Eq.trans (hF.r hx (by rw [kx]; rfl)) hr5
    have z77 : q_ir (q_r f67 x 6) now := Eq.trans (hF.r hx (by rw [kx]; rfl)) hr6
    have z78 : q_ir (q_r f67 x 7) dr := Eq.trans (hF.r hx (by rw [kx]; rfl)) hr7
    have z79 : q_ir (q_r f67 x 8) sv := Eq.trans (hF.r hx (by rw [kx]; rfl)) hr8
    have z80 : q_ir (q_r f67 fc 0) tr := Eq.trans (hF.r hfc (by rw [kfc]; rfl)) hr9
    refine lv_istore_n (lv' := [(1, .int (q_i y68)), (0, .ref x)]) cx.1 cx.2.1 dX11_runScript_15 rfl hl (by decide) rfl (fun ls hl => ?_)
    refine q_ald_n cx dX11_runScript_16 rfl (lv_at hl 1 rfl) ?_
    refine q_gX11_10 cx hB hx kx z71 dX11_runScript_17 (fun hb81 kb81 => ?_)
    refine q_iconst cx dX11_runScript_20 ?_
    refine q_pX11_79 cx hB hsrc ksrc ⟨by decide, by decide⟩ (by decide) (by decide) rfl dX11_runScript_21 (fun H locs f82 ef82 z83 hB => ?_)
    have z84 : q_ir (q_r f82 x 0) src := by rw [ef82, q_setr (Or.inr (by decide))]; exact z71
    have z85 : q_ir (q_r f82 x 1) rdr := by rw [ef82, q_setr (Or.inl (fun q => by rw [q, ksrc] at kx; exact absurd kx (by decide)))]; exact z72
    have z86 : q_ir (q_r f82 x 2) scr := by rw [ef82, q_setr (Or.inr (by decide))]; exact z73
    have z87 : q_ir (q_r f82 x 3) fc := by rw [ef82, q_setr (Or.inr (by decide))]; exact z74
    have z88 : q_ir (q_r f82 x 4) hist := by rw [ef82, q_setr (Or.inr (by decide))]; exact z75
    have z89 : q_ir (q_r f82 x 5) rep := by rw [ef82, q_setr (Or.inr (by decide))]; exact z76
    have z90 : q_ir (q_r f82 x 6) now := by rw [ef82, q_setr (Or.inr (by decide))]; exact z77
    have z91 : q_ir (q_r f82 x 7) dr := by rw [ef82, q_setr (Or.inr (by decide))]; exact z78
    have z92 : q_ir (q_r f82 x 8) sv := by rw [ef82, q_setr (Or.inr (by decide))]; exact z79
    have z93 : q_ir (q_r f82 fc 0) tr := by rw [ef82, q_setr (Or.inr (by decide))]; exact z80
    refine q_ild_n cx dX11_runScript_24 rfl (lv_at hl 0 rfl) ?_
    refine q_ifne (tgt := 38) cx ⟨by omega, by omega⟩ dX11_runScript_25 (by decide) (fun c94 => ?_) (fun c94 => ?_)
    · refine q_ald_n cx dX11_runScript_38 rfl (lv_at hl 1 rfl) ?_
      refine q_gX11_40 cx hB hx kx z88 dX11_runScript_39 (fun hb95 kb95 => ?_)
      refine q_ald_n cx dX11_runScript_42 rfl (lv_at hl 1 rfl) ?_
      refine q_gX11_54 cx hB hx kx z90 dX11_runScript_43 (fun hb96 kb96 => ?_)
      refine q_cVv (As := [.ref now]) (rest := []) cx hB (fun _ h => h) hN hhist khist (by decide) rfl (g_X2_keep l g hN hB.2.1 hist hhist khist now hnow know) q_cX11_107 q_dX2_keep (by decide) rfl rfl hl.1 rfl (Nat.le_of_ble_eq_true rfl) dX11_runScript_46 (fun H locs f97 h99 hF hB => ?_)
      have z100 : q_is (q_z f97 src 1) 0 := Eq.trans (hF.z hsrc (by rw [ksrc]; rfl)) z83
      have z101 : q_ir (q_r f97 x 0) src := Eq.trans (hF.r hx (by rw [kx]; rfl)) z84
      have z102 : q_ir (q_r f97 x 1) rdr := Eq.trans (hF.r hx (by rw [kx]; rfl)) z85
      have z103 : q_ir (q_r f97 x 2) scr := Eq.trans (hF.r hx (by rw [kx]; rfl)) z86
      have z104 : q_ir (q_r f97 x 3) fc := Eq.trans (hF.r hx (by rw [kx]; rfl)) z87
      have z105 : q_ir (q_r f97 x 4) hist := Eq.trans (hF.r hx (by rw [kx]; rfl)) z88
      have z106 : q_ir (q_r f97 x 5) rep := Eq.trans (hF.r hx (by rw [kx]; rfl)) z89
      have z107 : q_ir (q_r f97 x 6) now := Eq.trans (hF.r hx (by rw [kx]; rfl)) z90
      have z108 : q_ir (q_r f97 x 7) dr := Eq.trans (hF.r hx (by rw [kx]; rfl)) z91
      have z109 : q_ir (q_r f97 x 8) sv := Eq.trans (hF.r hx (by rw [kx]; rfl)) z92
      have z110 : q_ir (q_r f97 fc 0) tr := Eq.trans (hF.r hfc (by rw [kfc]; rfl)) z93
      refine q_ald_n cx dX11_runScript_49 rfl (lv_at hl 1 rfl) ?_
      refine q_gX11_26 cx hB hx kx z103 dX11_runScript_50 (fun hb111 kb111 => ?_)
      refine q_ald_n cx dX11_runScript_53 rfl (lv_at hl 1 rfl) ?_
      refine q_gX11_54 cx hB hx kx z107 dX11_runScript_54 (fun hb112 kb112 => ?_)
      refine q_cVi (As := [.ref now]) (rest := []) cx hB (fun _ h => h) hN hscr kscr (by decide) rfl (g_X7_runOn l g hN hB.2.1 scr hscr kscr now hnow know) q_cX11_110 q_dX7_runOn (by decide) rfl rfl hl.1 rfl (Nat.le_of_ble_eq_true rfl) dX11_runScript_57 (fun y114 H locs f113 ry114 h115 hF hB => ?_)
      have z116 : q_is (q_z f113 src 1) 0 := Eq.trans (hF.z hsrc (by rw [ksrc]; rfl)) z100
      have z117 : q_ir (q_r f113 x 0) src := Eq.trans (hF.r hx (by rw [kx]; rfl)) z101
      have z118 : q_ir (q_r f113 x 1) rdr := Eq.trans (hF.r hx (by rw [kx]; rfl)) z102
      have z119 : q_ir (q_r f113 x 2) scr := Eq.trans (hF.r hx (by rw [kx]; rfl)) z103
      have z120 : q_ir (q_r f113 x 3) fc := Eq.trans (hF.r hx (by rw [kx]; rfl)) z104
      have z121 : q_ir (q_r f113 x 4) hist := Eq.trans (hF.r hx (by rw [kx]; rfl)) z105
      have z122 : q_ir (q_r f113 x 5) rep := Eq.trans (hF.r hx (by rw [kx]; rfl)) z106
      have z123 : q_ir (q_r f113 x 6) now := Eq.trans (hF.r hx (by rw [kx]; rfl)) z107
      have z124 : q_ir (q_r f113 x 7) dr := Eq.trans (hF.r hx (by rw [kx]; rfl)) z108
      have z125 : q_ir (q_r f113 x 8) sv := Eq.trans (hF.r hx (by rw [kx]; rfl)) z109
      have z126 : q_ir (q_r f113 fc 0) tr := Eq.trans (hF.r hfc (by rw [kfc]; rfl)) z110
      refine W.widen (k := 1) (n := 6) (by decide) (by decide) ?_
      refine vx_ret ?_
      refine q_iret cx hr hlk hB dX11_runScript_60 ⟨by omega, by omega⟩ ?_
      exact z116
    · exact q_throw (text := "the script has an error") hfl cx hlk htab hX hB hl.1 (by decide +kernel) q_h880 q_h152 (by decide +kernel) q_xl87a q_xl87b q_xl87c dX11_runScript_28 dX11_runScript_31 (Or.inl ⟨dX11_runScript_32, dX11_runScript_34, dX11_runScript_37⟩) (by decide) (by decide) ⟨rfl, z83⟩
set_option maxHeartbeats 4000000 in
set_option maxRecDepth 100000 in
theorem x_errorCode (l : Launch) (g : q_G) {K : Nat → Nat} {L : List Nat} (hN : L.Nodup) {f : Nat → va_E} (hT : q_Ty g K L f) (x : Nat) (hx : x ∈ L) (kx : K x = 11) (src : Nat) (hsrc : src ∈ L) (ksrc : K src = 8) (rdr : Nat) (hrdr : rdr ∈ L) (krdr : K rdr = 9) (scr : Nat) (hscr : scr ∈ L) (kscr : K scr = 7) (fc : Nat) (hfc : fc ∈ L) (kfc : K fc = 1) (hist : Nat) (hhist : hist ∈ L) (khist : K hist = 2) (rep : Nat) (hrep : rep ∈ L) (krep : K rep = 6) (now : Nat) (hnow : now ∈ L) (know : K now = 10) (dr : Nat) (hdr : dr ∈ L) (kdr : K dr = 13) (sv : Nat) (hsv : sv ∈ L) (ksv : K sv = 14) (tr : Nat) (htr : tr ∈ L) (ktr : K tr = 15) (hr0 : q_ir (q_r f x 0) src) (hr1 : q_ir (q_r f x 1) rdr) (hr2 : q_ir (q_r f x 2) scr) (hr3 : q_ir (q_r f x 3) fc) (hr4 : q_ir (q_r f x 4) hist) (hr5 : q_ir (q_r f x 5) rep) (hr6 : q_ir (q_r f x 6) now) (hr7 : q_ir (q_r f x 7) dr) (hr8 : q_ir (q_r f x 8) sv) (hr9 : q_ir (q_r f fc 0) tr) : q_Ct l g K L yX11_errorCode cX11_errorCode 1 (some .int) 0 0 [.ref x] f [] (q_Pi (fun (z : Int) (f1 : Nat → va_E) => f = f1)) := by
  refine q_ofb (by decide +kernel) hN hT (Nat.le_of_ble_eq_true rfl) ?_
  intro p e s m below meth c ls cx hr hlk hB hl
  have hl : lv_has ls 1 [(0, .ref x)] := hl
  obtain ⟨H, hH⟩ : ∃ H : Heap, H = s.heap := ⟨_, rfl⟩
  obtain ⟨locs, hlocs⟩ : ∃ z : List Loc, z = [] := ⟨_, rfl⟩
  rw [← hH, ← hlocs] at hB
  rw [← hH, ← hlocs]
  refine q_ald_n cx dX11_errorCode_0 rfl (lv_at hl 0 rfl) ?_
  refine q_gX11_10 cx hB hx kx hr0 dX11_errorCode_1 (fun hb4 kb4 => ?_)
  obtain ⟨x5, ex5⟩ : ∃ zz, q_is (q_z f src 2) zz := ⟨_, q_isr _⟩
  refine q_gX11_114 cx hB hsrc ksrc ex5 dX11_errorCode_4 (fun lb6 ub6 => ?_)
  refine q_iret cx hr hlk hB dX11_errorCode_7 ⟨by omega, by omega⟩ ?_
  exact rfl
set_option maxHeartbeats 4000000 in
set_option maxRecDepth 100000 in
theorem x_errorPosition (l : Launch) (g : q_G) {K : Nat → Nat} {L : List Nat} (hN : L.Nodup) {f : Nat → va_E} (hT : q_Ty g K L f) (x : Nat) (hx : x ∈ L) (kx : K x = 11) (src : Nat) (hsrc : src ∈ L) (ksrc : K src = 8) (rdr : Nat) (hrdr : rdr ∈ L) (krdr : K rdr = 9) (scr : Nat) (hscr : scr ∈ L) (kscr : K scr = 7) (fc : Nat) (hfc : fc ∈ L) (kfc : K fc = 1) (hist : Nat) (hhist : hist ∈ L) (khist : K hist = 2) (rep : Nat) (hrep : rep ∈ L) (krep : K rep = 6) (now : Nat) (hnow : now ∈ L) (know : K now = 10) (dr : Nat) (hdr : dr ∈ L) (kdr : K dr = 13) (sv : Nat) (hsv : sv ∈ L) (ksv : K sv = 14) (tr : Nat) (htr : tr ∈ L) (ktr : K tr = 15) (hr0 : q_ir (q_r f x 0) src) (hr1 : q_ir (q_r f x 1) rdr) (hr2 : q_ir (q_r f x 2) scr) (hr3 : q_ir (q_r f x 3) fc) (hr4 : q_ir (q_r f x 4) hist) (hr5 : q_ir (q_r f x 5) rep) (hr6 : q_ir (q_r f x 6) now) (hr7 : q_ir (q_r f x 7) dr) (hr8 : q_ir (q_r f x 8) sv) (hr9 : q_ir (q_r f fc 0) tr) : q_Ct l g K L yX11_errorPosition cX11_errorPosition 1 (some .int) 0 0 [.ref x] f [] (q_Pi (fun (z : Int) (f1 : Nat → va_E) => f = f1)) := by
  refine q_ofb (by decide +kernel) hN hT (Nat.le_of_ble_eq_true rfl) ?_
  intro p e s m below meth c ls cx hr hlk hB hl
  have hl : lv_has ls 1 [(0, .ref x)] := hl
  obtain ⟨H, hH⟩ : ∃ H : Heap, H = s.heap := ⟨_, rfl⟩
  obtain ⟨locs, hlocs⟩ : ∃ z : List Loc, z = [] := ⟨_, rfl⟩
  rw [← hH, ← hlocs] at hB
  rw [← hH, ← hlocs]
  refine q_ald_n cx dX11_errorPosition_0 rfl (lv_at hl 0 rfl) ?_
  refine q_gX11_10 cx hB hx kx hr0 dX11_errorPosition_1 (fun hb4 kb4 => ?_)
  obtain ⟨x5, ex5⟩ : ∃ zz, q_is (q_z f src 3) zz := ⟨_, q_isr _⟩
  refine q_gX11_117 cx hB hsrc ksrc ex5 dX11_errorPosition_4 (fun lb6 ub6 => ?_)
  refine q_iret cx hr hlk hB dX11_errorPosition_7 ⟨by omega, by omega⟩ ?_
  exact rfl
set_option maxHeartbeats 4000000 in
set_option maxRecDepth 100000 in
theorem x_setting (l : Launch) (g : q_G) (ad : Nat → Nat) {K : Nat → Nat} {L : List Nat} (hN : L.Nodup) {f : Nat → va_E} (hT : q_Ty g K L f) (hfl : l.stackTraces = false) (x : Nat) (hx : x ∈ L) (kx : K x = 11) (a0 : Int) (la0 : (-2147483648) ≤ a0) (ua0 : a0 ≤ 2147483647) (src : Nat) (hsrc : src ∈ L) (ksrc : K src = 8) (rdr : Nat) (hrdr : rdr ∈ L) (krdr : K rdr = 9) (scr : Nat) (hscr : scr ∈ L) (kscr : K scr = 7) (fc : Nat) (hfc : fc ∈ L) (kfc : K fc = 1) (hist : Nat) (hhist : hist ∈ L) (khist : K hist = 2) (rep : Nat) (hrep : rep ∈ L) (krep : K rep = 6) (now : Nat) (hnow : now ∈ L) (know : K now = 10) (dr : Nat) (hdr : dr ∈ L) (kdr : K dr = 13) (sv : Nat) (hsv : sv ∈ L) (ksv : K sv = 14) (tr : Nat) (htr : tr ∈ L) (ktr : K tr = 15) (hr0 : q_ir (q_r f x 0) src) (hr1 : q_ir (q_r f x 1) rdr) (hr2 : q_ir (q_r f x 2) scr) (hr3 : q_ir (q_r f x 3) fc) (hr4 : q_ir (q_r f x 4) hist) (hr5 : q_ir (q_r f x 5) rep) (hr6 : q_ir (q_r f x 6) now) (hr7 : q_ir (q_r f x 7) dr) (hr8 : q_ir (q_r f x 8) sv) (hr9 : q_ir (q_r f fc 0) tr) : q_Xt l g ad K L yX11_setting cX11_setting 2 (some .int) 6 82 1 6 [.ref x, .int (q_i a0)] f [] (q_Pi (fun (z : Int) (f1 : Nat → va_E) => f = f1)) (fun (E : String) (f1 : Nat → va_E) => E = "java/lang/IllegalArgumentException" ∧ f = f1) := by
  refine q_xofb (by decide +kernel) hN hT (Nat.le_of_ble_eq_true rfl) ?_
  intro p e s m below meth c ls cx hr hlk htab hX hB hl
  have hl : lv_has ls 2 [(0, .ref x), (1, .int (q_i a0))] := hl
  obtain ⟨H, hH⟩ : ∃ H : Heap, H = s.heap := ⟨_, rfl⟩
  obtain ⟨locs, hlocs⟩ : ∃ z : List Loc, z = [] := ⟨_, rfl⟩
  rw [← hH, ← hlocs] at hB
  rw [← hH, ← hlocs]
  refine q_ild_n cx dX11_setting_0 rfl (lv_at hl 1 rfl) ?_
  refine q_iflt (tgt := 10) cx ⟨by omega, by omega⟩ dX11_setting_1 (by decide) (fun c11 => ?_) (fun c11 => ?_)
  · exact q_throw (text := "no such setting") hfl cx hlk htab hX hB hl.1 (by decide +kernel) q_h880 q_h152 (by decide +kernel) q_xl87a q_xl87b q_xl87c dX11_setting_10 dX11_setting_13 (Or.inl ⟨dX11_setting_14, dX11_setting_16, dX11_setting_19⟩) (by decide) (by decide) ⟨rfl, rfl⟩
  · refine q_ild_n cx dX11_setting_4 rfl (lv_at hl 1 rfl) ?_
    refine q_bipush cx dX11_setting_5 rfl ?_
    refine q_iclt (tgt := 20) cx ⟨by omega, by omega⟩ ⟨by decide, by decide⟩ dX11_setting_7 (by decide) (fun c12 => ?_) (fun c12 => ?_)
    · refine q_ild_n cx dX11_setting_20 rfl (lv_at hl 1 rfl) ?_
      refine q_bipush cx dX11_setting_21 rfl ?_
      refine q_icne (tgt := 36) cx ⟨by omega, by omega⟩ ⟨by decide, by decide⟩ dX11_setting_23 (by decide) (fun c13 => ?_) (fun c13 => ?_)
      · refine q_ald_n cx dX11_setting_36 rfl (lv_at hl 0 rfl) ?_
        refine q_gX11_54 cx hB hx kx hr6 dX11_setting_37 (fun hb14 kb14 => ?_)
        refine q_ild_n cx dX11_setting_40 rfl (lv_at hl 1 rfl) ?_
        refine q_cVi (As := [.int (q_i a0)]) (rest := []) cx hB (fun _ h => h) hN hnow know (by decide) rfl (g_X10_figure l g hN hB.2.1 now hnow know a0 (by omega) (by omega)) q_cX11_125 q_dX10_figure (by decide) rfl rfl hl.1 rfl (Nat.le_of_ble_eq_true rfl) dX11_setting_41 (fun y16 H locs f15 ry16 h17 hF hB => ?_)
        obtain rfl := h17
        refine W.widen (k := 1) (n := 6) (by decide) (by decide) ?_
        refine vx_ret ?_
        refine q_iret cx hr hlk hB dX11_setting_44 ⟨by omega, by omega⟩ ?_
        exact rfl
      · refine q_ald_n cx dX11_setting_26 rfl (lv_at hl 0 rfl) ?_
        refine q_gX11_40 cx hB hx kx hr4 dX11_setting_27 (fun hb18 kb18 => ?_)
        obtain ⟨x19, ex19⟩ : ∃ zz, q_is (q_z f hist 2) zz := ⟨_, q_isr _⟩
        refine q_gX11_122 cx hB hhist khist ex19 dX11_setting_30 (fun lb20 ub20 => ?_)
        refine lv_goto (tgt := 44) cx.1 cx.2.1 dX11_setting_33 (by decide) ?_
        refine W.widen (k := 1) (n := 6) (by decide) (by decide) ?_
        refine vx_ret ?_
        refine q_iret cx hr hlk hB dX11_setting_44 ⟨by omega, by omega⟩ ?_
        exact rfl
    · exact q_throw (text := "no such setting") hfl cx hlk htab hX hB hl.1 (by decide +kernel) q_h880 q_h152 (by decide +kernel) q_xl87a q_xl87b q_xl87c dX11_setting_10 dX11_setting_13 (Or.inl ⟨dX11_setting_14, dX11_setting_16, dX11_setting_19⟩) (by decide) (by decide) ⟨rfl, rfl⟩
set_option maxHeartbeats 4000000 in
set_option maxRecDepth 100000 in
theorem x_node (l : Launch) (g : q_G) (ad : Nat → Nat) {K : Nat → Nat} {L : List Nat} (hN : L.Nodup) {f : Nat → va_E} (hT : q_Ty g K L f) (hfl : l.stackTraces = false) (x : Nat) (hx : x ∈ L) (kx : K x = 11) (a0 : Int) (la0 : (-2147483648) ≤ a0) (ua0 : a0 ≤ 2147483647) (b0 : Int) (lb0 : (-2147483648) ≤ b0) (ub0 : b0 ≤ 2147483647) (src : Nat) (hsrc : src ∈ L) (ksrc : K src = 8) (rdr : Nat) (hrdr : rdr ∈ L) (krdr : K rdr = 9) (scr : Nat) (hscr : scr ∈ L) (kscr : K scr = 7) (fc : Nat) (hfc : fc ∈ L) (kfc : K fc = 1) (hist : Nat) (hhist : hist ∈ L) (khist : K hist = 2) (rep : Nat) (hrep : rep ∈ L) (krep : K rep = 6) (now : Nat) (hnow : now ∈ L) (know : K now = 10) (dr : Nat) (hdr : dr ∈ L) (kdr : K dr = 13) (sv : Nat) (hsv : sv ∈ L) (ksv : K sv = 14) (tr : Nat) (htr : tr ∈ L) (ktr : K tr = 15) (hr0 : q_ir (q_r f x 0) src) (hr1 : q_ir (q_r f x 1) rdr) (hr2 : q_ir (q_r f x 2) scr) (hr3 : q_ir (q_r f x 3) fc) (hr4 : q_ir (q_r f x 4) hist) (hr5 : q_ir (q_r f x 5) rep) (hr6 : q_ir (q_r f x 6) now) (hr7 : q_ir (q_r f x 7) dr) (hr8 : q_ir (q_r f x 8) sv) (hr9 : q_ir (q_r f fc 0) tr) : q_Xt l g ad K L yX11_node cX11_node 3 (some .int) 7 103 2 12 [.ref x, .int (q_i a0), .int (q_i b0)] f [] (q_Pi (fun (z : Int) (f1 : Nat → va_E) => f = f1)) (fun (E : String) (f1 : Nat → va_E) => (E = "java/lang/IndexOutOfBoundsException" ∧ f = f1) ∨ (E = "java/lang/IllegalArgumentException" ∧ f = f1)) := by
  refine q_xofb (by decide +kernel) hN hT (Nat.le_of_ble_eq_true rfl) ?_
  intro p e s m below meth c ls cx hr hlk htab hX hB hl
  have hl : lv_has ls 3 [(0, .ref x), (1, .int (q_i a0)), (2, .int (q_i b0))] := hl
  obtain ⟨H, hH⟩ : ∃ H : Heap, H = s.heap := ⟨_, rfl⟩
  obtain ⟨locs, hlocs⟩ : ∃ z : List Loc, z = [] := ⟨_, rfl⟩
  rw [← hH, ← hlocs] at hB
  rw [← hH, ← hlocs]
  refine q_ald_n cx dX11_node_0 rfl (lv_at hl 0 rfl) ?_
  refine q_ild_n cx dX11_node_1 rfl (lv_at hl 1 rfl) ?_
  refine q_cXV (As := [.int (q_i a0)]) (rest := []) cx hX hB (fun _ h => h) (fun _ h _ => h) hN hx kx (by decide) rfl (x_requireNode l g ad hN hB.2.1 hfl x hx kx a0 (by omega) (by omega) src hsrc ksrc rdr hrdr krdr scr hscr kscr fc hfc kfc hist hhist khist rep hrep krep now hnow know dr hdr kdr sv hsv ksv tr htr ktr hr0 hr1 hr2 hr3 hr4 hr5 hr6 hr7 hr8 hr9) q_cX11_129 q_dX11_requireNode (by decide) rfl rfl hl.1 rfl (Nat.le_of_ble_eq_true rfl) dX11_node_2 (fun E9 ce9 q9 H locs f14 hex hF hB hcell hcv hcl => ?_) (fun v9 H locs f11 h13 hF hB => ?_)
  · rcases hex with ⟨rfl, rfl⟩
    · exact q_xout hlk htab hB hcell hcv hcl (by decide) (Or.inl ⟨rfl, rfl⟩)
  · obtain ⟨rfl, h13⟩ := h13
    refine W.eq (g2 := F0 m 5 ls []) rfl ?_
    obtain rfl := h13
    refine q_ild_n cx dX11_node_5 rfl (lv_at hl 2 rfl) ?_
    refine q_iflt (tgt := 15) cx ⟨by omega, by omega⟩ dX11_node_6 (by decide) (fun c15 => ?_) (fun c15 => ?_)
    · exact q_throw (text := "no such number of a node") hfl cx hlk htab hX hB hl.1 (by decide +kernel) q_h880 q_h152 (by decide +kernel) q_xl87a q_xl87b q_xl87c dX11_node_15 dX11_node_18 (Or.inl ⟨dX11_node_19, dX11_node_21, dX11_node_24⟩) (by decide) (by decide) (Or.inr ⟨rfl, rfl⟩)
    · refine q_ild_n cx dX11_node_9 rfl (lv_at hl 2 rfl) ?_
      refine q_bipush cx dX11_node_10 rfl ?_
      refine q_iclt (tgt := 25) cx ⟨by omega, by omega⟩ ⟨by decide, by decide⟩ dX11_node_12 (by decide) (fun c16 => ?_) (fun c16 => ?_)
      · refine q_ald_n cx dX11_node_25 rfl (lv_at hl 0 rfl) ?_
        refine q_gX11_54 cx hB hx kx hr6 dX11_node_26 (fun hb17 kb17 => ?_)
        refine q_ild_n cx dX11_node_29 rfl (lv_at hl 1 rfl) ?_
        refine q_ild_n cx dX11_node_30 rfl (lv_at hl 2 rfl) ?_
        refine q_cVi (As := [.int (q_i a0), .int (q_i b0)]) (rest := []) cx hB (fun _ h => h) hN hnow know (by decide) rfl (g_X10_nodeFigure l g hN hB.2.1 now hnow know a0 (by omega) (by omega) b0 (by omega) (by omega)) q_cX11_134 q_dX10_nodeFigure (by decide) rfl rfl hl.1 rfl (Nat.le_of_ble_eq_true rfl) dX11_node_31 (fun y19 H locs f18 ry19 h20 hF hB => ?_)
        obtain rfl := h20
        refine W.widen (k := 2) (n := 12) (by decide) (by decide) ?_
        refine vx_ret ?_
        refine q_iret cx hr hlk hB dX11_node_34 ⟨by omega, by omega⟩ ?_
        exact rfl
      · exact q_throw (text := "no such number of a node") hfl cx hlk htab hX hB hl.1 (by decide +kernel) q_h880 q_h152 (by decide +kernel) q_xl87a q_xl87b q_xl87c dX11_node_15 dX11_node_18 (Or.inl ⟨dX11_node_19, dX11_node_21, dX11_node_24⟩) (by decide) (by decide) (Or.inr ⟨rfl, rfl⟩)
set_option maxHeartbeats 4000000 in
set_option maxRecDepth 100000 in
theorem x_link (l : Launch) (g : q_G) (ad : Nat → Nat) {K : Nat → Nat} {L : List Nat} (hN : L.Nodup) {f : Nat → va_E} (hT : q_Ty g K L f) (hfl : l.stackTraces = false) (x : Nat) (hx : x ∈ L) (kx : K x = 11) (a0 : Int) (la0 : (-2147483648) ≤ a0) (ua0 : a0 ≤ 2147483647) (b0 : Int) (lb0 : (-2147483648) ≤ b0) (ub0 : b0 ≤ 2147483647) (src : Nat) (hsrc : src ∈ L) (ksrc : K src = 8) (rdr : Nat) (hrdr : rdr ∈ L) (krdr : K rdr = 9) (scr : Nat) (hscr : scr ∈ L) (kscr : K scr = 7) (fc : Nat) (hfc : fc ∈ L) (kfc : K fc = 1) (hist : Nat) (hhist : hist ∈ L) (khist : K hist = 2) (rep : Nat) (hrep : rep ∈ L) (krep : K rep = 6) (now : Nat) (hnow : now ∈ L) (know : K now = 10) (dr : Nat) (hdr : dr ∈ L) (kdr : K dr = 13) (sv : Nat) (hsv : sv ∈ L) (ksv : K sv = 14) (tr : Nat) (htr : tr ∈ L) (ktr : K tr = 15) (hr0 : q_ir (q_r f x 0) src) (hr1 : q_ir (q_r f x 1) rdr) (hr2 : q_ir (q_r f x 2) scr) (hr3 : q_ir (q_r f x 3) fc) (hr4 : q_ir (q_r f x 4) hist) (hr5 : q_ir (q_r f x 5) rep) (hr6 : q_ir (q_r f x 6) now) (hr7 : q_ir (q_r f x 7) dr) (hr8 : q_ir (q_r f x 8) sv) (hr9 : q_ir (q_r f fc 0) tr) : q_Xt l g ad K L yX11_link cX11_link 3 (some .int) 6 82 1 6 [.ref x, .int (q_i a0), .int (q_i b0)] f [] (q_Pi (fun (z : Int) (f1 : Nat → va_E) => f = f1)) (fun (E : String) (f1 : Nat → va_E) => (E = "java/lang/IndexOutOfBoundsException" ∧ f = f1) ∨ (E = "java/lang/IllegalArgumentException" ∧ f = f1)) := by
  refine q_xofb (by decide +kernel) hN hT (Nat.le_of_ble_eq_true rfl) ?_
  intro p e s m below meth c ls cx hr hlk htab hX hB hl
  have hl : lv_has ls 3 [(0, .ref x), (1, .int (q_i a0)), (2, .int (q_i b0))] := hl
  obtain ⟨H, hH⟩ : ∃ H : Heap, H = s.heap := ⟨_, rfl⟩
  obtain ⟨locs, hlocs⟩ : ∃ z : List Loc, z = [] := ⟨_, rfl⟩
  rw [← hH, ← hlocs] at hB
  rw [← hH, ← hlocs]
  refine q_ild_n cx dX11_link_0 rfl (lv_at hl 1 rfl) ?_
  refine q_iflt (tgt := 15) cx ⟨by omega, by omega⟩ dX11_link_1 (by decide) (fun c15 => ?_) (fun c15 => ?_)
  · exact q_throw (text := "no such link") hfl cx hlk htab hX hB hl.1 (by decide +kernel) q_h1234 q_h159 (by decide +kernel) q_xl145a q_xl145b q_xl145c dX11_link_15 dX11_link_18 (Or.inl ⟨dX11_link_19, dX11_link_21, dX11_link_24⟩) (by decide) (by decide) (Or.inl ⟨rfl, rfl⟩)
  · refine q_ild_n cx dX11_link_4 rfl (lv_at hl 1 rfl) ?_
    refine q_ald_n cx dX11_link_5 rfl (lv_at hl 0 rfl) ?_
    refine q_gX11_54 cx hB hx kx hr6 dX11_link_6 (fun hb16 kb16 => ?_)
    obtain ⟨x17, ex17⟩ : ∃ zz, q_is (q_z f now 4) zz := ⟨_, q_isr _⟩
    refine q_gX11_138 cx hB hnow know ex17 dX11_link_9 (fun lb18 ub18 => ?_)
    refine q_iclt (tgt := 25) cx ⟨by omega, by omega⟩ ⟨by omega, by omega⟩ dX11_link_12 (by decide) (fun c19 => ?_) (fun c19 => ?_)
    · refine q_ild_n cx dX11_link_25 rfl (lv_at hl 2 rfl) ?_
      refine q_iflt (tgt := 34) cx ⟨by omega, by omega⟩ dX11_link_26 (by decide) (fun c20 => ?_) (fun c20 => ?_)
      · exact q_throw (text := "no such number of a link") hfl cx hlk htab hX hB hl.1 (by decide +kernel) q_h880 q_h152 (by decide +kernel) q_xl87a q_xl87b q_xl87c dX11_link_34 dX11_link_37 (Or.inl ⟨dX11_link_38, dX11_link_40, dX11_link_43⟩) (by decide) (by decide) (Or.inr ⟨rfl, rfl⟩)
      · refine q_ild_n cx dX11_link_29 rfl (lv_at hl 2 rfl) ?_
        refine q_iconst cx dX11_link_30 ?_
        refine q_iclt (tgt := 44) cx ⟨by omega, by omega⟩ ⟨by decide, by decide⟩ dX11_link_31 (by decide) (fun c21 => ?_) (fun c21 => ?_)
        · refine q_ald_n cx dX11_link_44 rfl (lv_at hl 0 rfl) ?_
          refine q_gX11_54 cx hB hx kx hr6 dX11_link_45 (fun hb22 kb22 => ?_)
          refine q_ild_n cx dX11_link_48 rfl (lv_at hl 1 rfl) ?_
          refine q_cVr (As := [.int (q_i a0)]) (rest := []) cx hB (fun _ h => h) hN hnow know (by decide) rfl (g_X10_linkAt l g hN hB.2.1 now hnow know a0 (by omega) (by omega)) q_cX11_148 q_dX10_linkAt (by decide) rfl rfl hl.1 rfl (Nat.le_of_ble_eq_true rfl) dX11_link_49 (fun y24 H locs f23 h25 hF hB => ?_)
          obtain ⟨rfl, hy24, ky24⟩ := h25
          refine q_ild_n cx dX11_link_52 rfl (lv_at hl 2 rfl) ?_
          refine q_cVi (As := [.int (q_i b0)]) (rest := []) cx hB (fun _ h => h) hN hy24 ky24 (by decide) rfl (g_X3_figure l g hN hB.2.1 y24 hy24 ky24 b0 (by omega) (by omega)) q_cX11_152 q_dX3_figure (by decide) rfl rfl hl.1 rfl (Nat.le_of_ble_eq_true rfl) dX11_link_53 (fun y27 H locs f26 ry27 h28 hF hB => ?_)
          obtain rfl := h28
          refine W.widen (k := 1) (n := 6) (by decide) (by decide) ?_
          refine vx_ret ?_
          refine q_iret cx hr hlk hB dX11_link_56 ⟨by omega, by omega⟩ ?_
          exact rfl
        · exact q_throw (text := "no such number of a link") hfl cx hlk htab hX hB hl.1 (by decide +kernel) q_h880 q_h152 (by decide +kernel) q_xl87a q_xl87b q_xl87c dX11_link_34 dX11_link_37 (Or.inl ⟨dX11_link_38, dX11_link_40, dX11_link_43⟩) (by decide) (by decide) (Or.inr ⟨rfl, rfl⟩)
    · exact q_throw (text := "no such link") hfl cx hlk htab hX hB hl.1 (by decide +kernel) q_h1234 q_h159 (by decide +kernel) q_xl145a q_xl145b q_xl145c dX11_link_15 dX11_link_18 (Or.inl ⟨dX11_link_19, dX11_link_21, dX11_link_24⟩) (by decide) (by decide) (Or.inl ⟨rfl, rfl⟩)
set_option maxHeartbeats 4000000 in
set_option maxRecDepth 100000 in
theorem x_message (l : Launch) (g : q_G) (ad : Nat → Nat) {K : Nat → Nat} {L : List Nat} (hN : L.Nodup) {f : Nat → va_E} (hT : q_Ty g K L f) (hfl : l.stackTraces = false) (x : Nat) (hx : x ∈ L) (kx : K x = 11) (a0 : Int) (la0 : (-2147483648) ≤ a0) (ua0 : a0 ≤ 2147483647) (b0 : Int) (lb0 : (-2147483648) ≤ b0) (ub0 : b0 ≤ 2147483647) (src : Nat) (hsrc : src ∈ L) (ksrc : K src = 8) (rdr : Nat) (hrdr : rdr ∈ L) (krdr : K rdr = 9) (scr : Nat) (hscr : scr ∈ L) (kscr : K scr = 7) (fc : Nat) (hfc : fc ∈ L) (kfc : K fc = 1) (hist : Nat) (hhist : hist ∈ L) (khist : K hist = 2) (rep : Nat) (hrep : rep ∈ L) (krep : K rep = 6) (now : Nat) (hnow : now ∈ L) (know : K now = 10) (dr : Nat) (hdr : dr ∈ L) (kdr : K dr = 13) (sv : Nat) (hsv : sv ∈ L) (ksv : K sv = 14) (tr : Nat) (htr : tr ∈ L) (ktr : K tr = 15) (hr0 : q_ir (q_r f x 0) src) (hr1 : q_ir (q_r f x 1) rdr) (hr2 : q_ir (q_r f x 2) scr) (hr3 : q_ir (q_r f x 3) fc) (hr4 : q_ir (q_r f x 4) hist) (hr5 : q_ir (q_r f x 5) rep) (hr6 : q_ir (q_r f x 6) now) (hr7 : q_ir (q_r f x 7) dr) (hr8 : q_ir (q_r f x 8) sv) (hr9 : q_ir (q_r f fc 0) tr) : q_Xt l g ad K L yX11_message cX11_message 3 (some .int) 7 103 2 12 [.ref x, .int (q_i a0), .int (q_i b0)] f [] (q_Pi (fun (z : Int) (f1 : Nat → va_E) => f = f1)) (fun (E : String) (f1 : Nat → va_E) => (E = "java/lang/IndexOutOfBoundsException" ∧ f = f1) ∨ (E = "java/lang/IllegalArgumentException" ∧ f = f1)) := by
  refine q_xofb (by decide +kernel) hN hT (Nat.le_of_ble_eq_true rfl) ?_
  intro p e s m below meth c ls cx hr hlk htab hX hB hl
  have hl : lv_has ls 3 [(0, .ref x), (1, .int (q_i a0)), (2, .int (q_i b0))] := hl
  obtain ⟨H, hH⟩ : ∃ H : Heap, H = s.heap := ⟨_, rfl⟩
  obtain ⟨locs, hlocs⟩ : ∃ z : List Loc, z = [] := ⟨_, rfl⟩
  rw [← hH, ← hlocs] at hB
  rw [← hH, ← hlocs]
  refine q_ald_n cx dX11_message_0 rfl (lv_at hl 0 rfl) ?_
  refine q_ild_n cx dX11_message_1 rfl (lv_at hl 1 rfl) ?_
  refine q_cXV (As := [.int (q_i a0)]) (rest := []) cx hX hB (fun _ h => h) (fun _ h _ => h) hN hx kx (by decide) rfl (x_requireMessage l g ad hN hB.2.1 hfl x hx kx a0 (by omega) (by omega) src hsrc ksrc rdr hrdr krdr scr hscr kscr fc hfc kfc hist hhist khist rep hrep krep now hnow know dr hdr kdr sv hsv ksv tr htr ktr hr0 hr1 hr2 hr3 hr4 hr5 hr6 hr7 hr8 hr9) q_cX11_155 q_dX11_requireMessage (by decide) rfl rfl hl.1 rfl (Nat.le_of_ble_eq_true rfl) dX11_message_2 (fun E9 ce9 q9 H locs f17 hex hF hB hcell hcv hcl => ?_) (fun v9 H locs f14 h16 hF hB => ?_)
  · rcases hex with ⟨rfl, rfl⟩
    · exact q_xout hlk htab hB hcell hcv hcl (by decide) (Or.inl ⟨rfl, rfl⟩)
  · obtain ⟨rfl, h16⟩ := h16
    refine W.eq (g2 := F0 m 5 ls []) rfl ?_
    obtain rfl := h16
    refine q_ild_n cx dX11_message_5 rfl (lv_at hl 2 rfl) ?_
    refine q_iflt (tgt := 15) cx ⟨by omega, by omega⟩ dX11_message_6 (by decide) (fun c18 => ?_) (fun c18 => ?_)
    · exact q_throw (text := "no such number of a message") hfl cx hlk htab hX hB hl.1 (by decide +kernel) q_h880 q_h152 (by decide +kernel) q_xl87a q_xl87b q_xl87c dX11_message_15 dX11_message_18 (Or.inl ⟨dX11_message_19, dX11_message_21, dX11_message_24⟩) (by decide) (by decide) (Or.inr ⟨rfl, rfl⟩)
    · refine q_ild_n cx dX11_message_9 rfl (lv_at hl 2 rfl) ?_
      refine q_bipush cx dX11_message_10 rfl ?_
      refine q_iclt (tgt := 25) cx ⟨by omega, by omega⟩ ⟨by decide, by decide⟩ dX11_message_12 (by decide) (fun c19 => ?_) (fun c19 => ?_)
      · refine q_ald_n cx dX11_message_25 rfl (lv_at hl 0 rfl) ?_
        refine q_gX11_54 cx hB hx kx hr6 dX11_message_26 (fun hb20 kb20 => ?_)
        refine q_ild_n cx dX11_message_29 rfl (lv_at hl 1 rfl) ?_
        refine q_cVr (As := [.int (q_i a0)]) (rest := []) cx hB (fun _ h => h) hN hnow know (by decide) rfl (g_X10_messageAt l g hN hB.2.1 now hnow know a0 (by omega) (by omega)) q_cX11_160 q_dX10_messageAt (by decide) rfl rfl hl.1 rfl (Nat.le_of_ble_eq_true rfl) dX11_message_30 (fun y22 H locs f21 h23 hF hB => ?_)
        obtain ⟨rfl, hy22, ky22⟩ := h23
        refine q_ild_n cx dX11_message_33 rfl (lv_at hl 2 rfl) ?_
        refine q_cVi (As := [.int (q_i b0)]) (rest := []) cx hB (fun _ h => h) hN hy22 ky22 (by decide) rfl (g_X4_figure l g hN hB.2.1 y22 hy22 ky22 b0 (by omega) (by omega)) q_cX11_164 q_dX4_figure (by decide) rfl rfl hl.1 rfl (Nat.le_of_ble_eq_true rfl) dX11_message_34 (fun y25 H locs f24 ry25 h26 hF hB => ?_)
        obtain rfl := h26
        refine W.widen (k := 2) (n := 12) (by decide) (by decide) ?_
        refine vx_ret ?_
        refine q_iret cx hr hlk hB dX11_message_37 ⟨by omega, by omega⟩ ?_
        exact rfl
      · exact q_throw (text := "no such number of a message") hfl cx hlk htab hX hB hl.1 (by decide +kernel) q_h880 q_h152 (by decide +kernel) q_xl87a q_xl87b q_xl87c dX11_message_15 dX11_message_18 (Or.inl ⟨dX11_message_19, dX11_message_21, dX11_message_24⟩) (by decide) (by decide) (Or.inr ⟨rfl, rfl⟩)
set_option maxHeartbeats 4000000 in
set_option maxRecDepth 100000 in
theorem x_letter (l : Launch) (g : q_G) (ad : Nat → Nat) {K : Nat → Nat} {L : List Nat} (hN : L.Nodup) {f : Nat → va_E} (hT : q_Ty g K L f) (hfl : l.stackTraces = false) (x : Nat) (hx : x ∈ L) (kx : K x = 11) (a0 : Int) (la0 : (-2147483648) ≤ a0) (ua0 : a0 ≤ 2147483647) (b0 : Int) (lb0 : (-2147483648) ≤ b0) (ub0 : b0 ≤ 2147483647) (src : Nat) (hsrc : src ∈ L) (ksrc : K src = 8) (rdr : Nat) (hrdr : rdr ∈ L) (krdr : K rdr = 9) (scr : Nat) (hscr : scr ∈ L) (kscr : K scr = 7) (fc : Nat) (hfc : fc ∈ L) (kfc : K fc = 1) (hist : Nat) (hhist : hist ∈ L) (khist : K hist = 2) (rep : Nat) (hrep : rep ∈ L) (krep : K rep = 6) (now : Nat) (hnow : now ∈ L) (know : K now = 10) (dr : Nat) (hdr : dr ∈ L) (kdr : K dr = 13) (sv : Nat) (hsv : sv ∈ L) (ksv : K sv = 14) (tr : Nat) (htr : tr ∈ L) (ktr : K tr = 15) (hr0 : q_ir (q_r f x 0) src) (hr1 : q_ir (q_r f x 1) rdr) (hr2 : q_ir (q_r f x 2) scr) (hr3 : q_ir (q_r f x 3) fc) (hr4 : q_ir (q_r f x 4) hist) (hr5 : q_ir (q_r f x 5) rep) (hr6 : q_ir (q_r f x 6) now) (hr7 : q_ir (q_r f x 7) dr) (hr8 : q_ir (q_r f x 8) sv) (hr9 : q_ir (q_r f fc 0) tr) : q_Xt l g ad K L yX11_letter cX11_letter 3 (some .int) 7 103 1 6 [.ref x, .int (q_i a0), .int (q_i b0)] f [] (q_Pi (fun (z : Int) (f1 : Nat → va_E) => f = f1)) (fun (E : String) (f1 : Nat → va_E) => E = "java/lang/IndexOutOfBoundsException" ∧ f = f1) := by
  refine q_xofb (by decide +kernel) hN hT (Nat.le_of_ble_eq_true rfl) ?_
  intro p e s m below meth c ls cx hr hlk htab hX hB hl
  have hl : lv_has ls 3 [(0, .ref x), (1, .int (q_i a0)), (2, .int (q_i b0))] := hl
  obtain ⟨H, hH⟩ : ∃ H : Heap, H = s.heap := ⟨_, rfl⟩
  obtain ⟨locs, hlocs⟩ : ∃ z : List Loc, z = [] := ⟨_, rfl⟩
  rw [← hH, ← hlocs] at hB
  rw [← hH, ← hlocs]
  refine q_ald_n cx dX11_letter_0 rfl (lv_at hl 0 rfl) ?_
  refine q_ild_n cx dX11_letter_1 rfl (lv_at hl 1 rfl) ?_
  refine q_cXV (As := [.int (q_i a0)]) (rest := []) cx hX hB (fun _ h => h) (fun _ h _ => h) hN hx kx (by decide) rfl (x_requireNode l g ad hN hB.2.1 hfl x hx kx a0 (by omega) (by omega) src hsrc ksrc rdr hrdr krdr scr hscr kscr fc hfc kfc hist hhist khist rep hrep krep now hnow know dr hdr kdr sv hsv ksv tr htr ktr hr0 hr1 hr2 hr3 hr4 hr5 hr6 hr7 hr8 hr9) q_cX11_129 q_dX11_requireNode (by decide) rfl rfl hl.1 rfl (Nat.le_of_ble_eq_true rfl) dX11_letter_2 (fun E9 ce9 q9 H locs f16 hex hF hB hcell hcv hcl => ?_) (fun v9 H locs f13 h15 hF hB => ?_)
  · rcases hex with ⟨rfl, rfl⟩
    · exact q_xout hlk htab hB hcell hcv hcl (by decide) ⟨rfl, rfl⟩
  · obtain ⟨rfl, h15⟩ := h15
    refine W.eq (g2 := F0 m 5 ls []) rfl ?_
    obtain rfl := h15
    refine q_ald_n cx dX11_letter_5 rfl (lv_at hl 0 rfl) ?_
    refine q_gX11_54 cx hB hx kx hr6 dX11_letter_6 (fun hb17 kb17 => ?_)
    refine q_ild_n cx dX11_letter_9 rfl (lv_at hl 1 rfl) ?_
    refine q_cVr (As := [.int (q_i a0)]) (rest := []) cx hB (fun _ h => h) hN hnow know (by decide) rfl (g_X10_nodeAt l g hN hB.2.1 now hnow know a0 (by omega) (by omega)) q_cX11_167 q_dX10_nodeAt (by decide) rfl rfl hl.1 rfl (Nat.le_of_ble_eq_true rfl) dX11_letter_10 (fun y19 H locs f18 h20 hF hB => ?_)
    obtain ⟨rfl, hy19, ky19⟩ := h20
    obtain ⟨j21, ej21⟩ : ∃ zz, q_j f y19 0 = zz := ⟨_, rfl⟩
    refine q_gX11_171 cx hB hy19 ky19 ej21 dX11_letter_13 ?_
    refine q_ild_n cx dX11_letter_16 rfl (lv_at hl 2 rfl) ?_
    refine q_cSi (As := [.long j21, .int (q_i b0)]) (rest := []) cx hB (fun _ h => h) hN (g_X8_letterOf l g hN hB.2.1 j21 b0 (by omega) (by omega)) q_cX11_177 q_dX8_letterOf (by decide) rfl rfl hl.1 rfl (Nat.le_of_ble_eq_true rfl) dX11_letter_17 (fun y23 H locs f22 ry23 h24 hF hB => ?_)
    obtain rfl := h24
    refine W.widen (k := 1) (n := 6) (by decide) (by decide) ?_
    refine vx_ret ?_
    refine q_iret cx hr hlk hB dX11_letter_20 ⟨by omega, by omega⟩ ?_
    exact rfl
set_option maxHeartbeats 4000000 in
set_option maxRecDepth 100000 in
theorem x_inTable (l : Launch) (g : q_G) (ad : Nat → Nat) {K : Nat → Nat} {L : List Nat} (hN : L.Nodup) {f : Nat → va_E} (hT : q_Ty g K L f) (hfl : l.stackTraces = false) (x : Nat) (hx : x ∈ L) (kx : K x = 11) (a0 : Int) (la0 : (-2147483648) ≤ a0) (ua0 : a0 ≤ 2147483647) (b0 : Int) (lb0 : (-2147483648) ≤ b0) (ub0 : b0 ≤ 2147483647) (src : Nat) (hsrc : src ∈ L) (ksrc : K src = 8) (rdr : Nat) (hrdr : rdr ∈ L) (krdr : K rdr = 9) (scr : Nat) (hscr : scr ∈ L) (kscr : K scr = 7) (fc : Nat) (hfc : fc ∈ L) (kfc : K fc = 1) (hist : Nat) (hhist : hist ∈ L) (khist : K hist = 2) (rep : Nat) (hrep : rep ∈ L) (krep : K rep = 6) (now : Nat) (hnow : now ∈ L) (know : K now = 10) (dr : Nat) (hdr : dr ∈ L) (kdr : K dr = 13) (sv : Nat) (hsv : sv ∈ L) (ksv : K sv = 14) (tr : Nat) (htr : tr ∈ L) (ktr : K tr = 15) (hr0 : q_ir (q_r f x 0) src) (hr1 : q_ir (q_r f x 1) rdr) (hr2 : q_ir (q_r f x 2) scr) (hr3 : q_ir (q_r f x 3) fc) (hr4 : q_ir (q_r f x 4) hist) (hr5 : q_ir (q_r f x 5) rep) (hr6 : q_ir (q_r f x 6) now) (hr7 : q_ir (q_r f x 7) dr) (hr8 : q_ir (q_r f x 8) sv) (hr9 : q_ir (q_r f fc 0) tr) : q_Xt l g ad K L yX11_inTable cX11_inTable 3 (some .boolean) 7 103 2 12 [.ref x, .int (q_i a0), .int (q_i b0)] f [] (q_Pi (fun (z : Int) (f1 : Nat → va_E) => f = f1 ∧ 0 ≤ z ∧ z ≤ 1)) (fun (E : String) (f1 : Nat → va_E) => (E = "java/lang/IndexOutOfBoundsException" ∧ f = f1) ∨ (E = "java/lang/IllegalArgumentException" ∧ f = f1)) := by
  refine q_xofb (by decide +kernel) hN hT (Nat.le_of_ble_eq_true rfl) ?_
  intro p e s m below meth c ls cx hr hlk htab hX hB hl
  have hl : lv_has ls 3 [(0, .ref x), (1, .int (q_i a0)), (2, .int (q_i b0))] := hl
  obtain ⟨H, hH⟩ : ∃ H : Heap, H = s.heap := ⟨_, rfl⟩
  obtain ⟨locs, hlocs⟩ : ∃ z : List Loc, z = [] := ⟨_, rfl⟩
  rw [← hH, ← hlocs] at hB
  rw [← hH, ← hlocs]
  refine q_ald_n cx dX11_inTable_0 rfl (lv_at hl 0 rfl) ?_
  refine q_ild_n cx dX11_inTable_1 rfl (lv_at hl 1 rfl) ?_
  refine q_cXV (As := [.int (q_i a0)]) (rest := []) cx hX hB (fun _ h => h) (fun _ h _ => h) hN hx kx (by decide) rfl (x_requireNode l g ad hN hB.2.1 hfl x hx kx a0 (by omega) (by omega) src hsrc ksrc rdr hrdr krdr scr hscr kscr fc hfc kfc hist hhist khist rep hrep krep now hnow know dr hdr kdr sv hsv ksv tr htr ktr hr0 hr1 hr2 hr3 hr4 hr5 hr6 hr7 hr8 hr9) q_cX11_129 q_dX11_requireNode (by decide) rfl rfl hl.1 rfl (Nat.le_of_ble_eq_true rfl) dX11_inTable_2 (fun E9 ce9 q9 H locs f19 hex hF hB hcell hcv hcl => ?_) (fun v9 H locs f16 h18 hF hB => ?_)
  · rcases hex with ⟨rfl, rfl⟩
    · exact q_xout hlk htab hB hcell hcv hcl (by decide) (Or.inl ⟨rfl, rfl⟩)
  · obtain ⟨rfl, h18⟩ := h18
    refine W.eq (g2 := F0 m 5 ls []) rfl ?_
    obtain rfl := h18
    refine q_ald_n cx dX11_inTable_5 rfl (lv_at hl 0 rfl) ?_
    refine q_ild_n cx dX11_inTable_6 rfl (lv_at hl 2 rfl) ?_
    refine q_cXV (As := [.int (q_i b0)]) (rest := []) cx hX hB (fun _ h => h) (fun _ h _ => h) hN hx kx (by decide) rfl (x_requireDay l g ad hN hB.2.1 hfl x hx kx b0 (by omega) (by omega) src hsrc ksrc rdr hrdr krdr scr hscr kscr fc hfc kfc hist hhist khist rep hrep krep now hnow know dr hdr kdr sv hsv ksv tr htr ktr hr0 hr1 hr2 hr3 hr4 hr5 hr6 hr7 hr8 hr9) q_cX11_181 q_dX11_requireDay (by decide) rfl rfl hl.1 rfl (Nat.le_of_ble_eq_true rfl) dX11_inTable_7 (fun E9 ce9 q9 H locs f23 hex hF hB hcell hcv hcl => ?_) (fun v9 H locs f20 h22 hF hB => ?_)
    · rcases hex with ⟨rfl, rfl⟩
      · exact q_xout hlk htab hB hcell hcv hcl (by decide) (Or.inr ⟨rfl, rfl⟩)
    · obtain ⟨rfl, h22⟩ := h22
      refine W.eq (g2 := F0 m 10 ls []) rfl ?_
      obtain rfl := h22
      refine q_ald_n cx dX11_inTable_10 rfl (lv_at hl 0 rfl) ?_
      refine q_gX11_54 cx hB hx kx hr6 dX11_inTable_11 (fun hb24 kb24 => ?_)
      refine q_ild_n cx dX11_inTable_14 rfl (lv_at hl 1 rfl) ?_
      refine q_cVl (As := [.int (q_i a0)]) (rest := []) cx hB (fun _ h => h) hN hnow know (by decide) rfl (g_X10_tableOf l g hN hB.2.1 now hnow know a0 (by omega) (by omega)) q_cX11_184 q_dX10_tableOf (by decide) rfl rfl hl.1 rfl (Nat.le_of_ble_eq_true rfl) dX11_inTable_15 (fun y26 H locs f25 h27 hF hB => ?_)
      obtain rfl := h27
      refine q_ild_n cx dX11_inTable_18 rfl (lv_at hl 2 rfl) ?_
      refine q_cSi (As := [.long y26, .int (q_i b0)]) (rest := []) cx hB (fun _ h => h) hN (g_X10_hasDay l g hN hB.2.1 y26 b0 (by omega) (by omega)) q_cX11_188 q_dX10_hasDay (by decide) rfl rfl hl.1 rfl (Nat.le_of_ble_eq_true rfl) dX11_inTable_19 (fun y29 H locs f28 ry29 h30 hF hB => ?_)
      obtain ⟨rfl, ly29, uy29⟩ := h30
      refine W.widen (k := 2) (n := 12) (by decide) (by decide) ?_
      refine vx_ret ?_
      refine q_zret cx hr hlk hB dX11_inTable_22 (by omega) (by omega) ?_
      exact ⟨rfl, (by omega), (by omega)⟩
