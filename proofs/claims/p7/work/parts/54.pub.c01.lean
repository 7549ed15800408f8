set_option maxHeartbeats 4000000 in
set_option maxRecDepth 100000 in
theorem x_awakeIn (l : Launch) (g : q_G) (ad : Nat → Nat) {K : Nat → Nat} {L : List Nat} (hN : L.Nodup) {f : Nat → va_E} (hT : q_Ty g K L f) (hfl : l.stackTraces = false) (x : Nat) (hx : x ∈ L) (kx : K x = 11) (a0 : Int) (la0 : (-2147483648) ≤ a0) (ua0 : a0 ≤ 2147483647) (src : Nat) (hsrc : src ∈ L) (ksrc : K src = 8) (rdr : Nat) (hrdr : rdr ∈ L) (krdr : K rdr = 9) (scr : Nat) (hscr : scr ∈ L) (kscr : K scr = 7) (fc : Nat) (hfc : fc ∈ L) (kfc : K fc = 1) (hist : Nat) (hhist : hist ∈ L) (khist : K hist = 2) (rep : Nat) (hrep : rep ∈ L) (krep : K rep = 6) (now : Nat) (hnow : now ∈ L) (know : K now = 10) (dr : Nat) (hdr : dr ∈ L) (kdr : K dr = 13) (sv : Nat) (hsv : sv ∈ L) (ksv : K sv = 14) (tr : Nat) (htr : tr ∈ L) (ktr : K tr = 15) (hr0 : q_ir (q_r f x 0) src) (hr1 : q_ir (q_r f x 1) rdr) (hr2 : q_ir (q_r f x 2) scr) (hr3 : q_ir (q_r f x 3) fc) (hr4 : q_ir (q_r f x 4) hist) (hr5 : q_ir (q_r f x 5) rep) (hr6 : q_ir (q_r f x 6) now) (hr7 : q_ir (q_r f x 7) dr) (hr8 : q_ir (q_r f x 8) sv) (hr9 : q_ir (q_r f fc 0) tr) : q_Xt l g ad K L yX11_awakeIn cX11_awakeIn 2 (some .int) 6 92 1 6 [.ref x, .int (q_i a0)] f [] (q_Pi (fun (z : Int) (f1 : Nat → va_E) => f = f1)) (fun (E : String) (f1 : Nat → va_E) => E = "java/lang/IllegalArgumentException" ∧ f = f1) := by
  refine q_xofb (by decide +kernel) hN hT (Nat.le_of_ble_eq_true rfl) ?_
  intro p e s m below meth c ls cx hr hlk htab hX hB hl
  have hl : lv_has ls 2 [(0, .ref x), (1, .int (q_i a0))] := hl
  obtain ⟨H, hH⟩ : ∃ H : Heap, H = s.heap := ⟨_, rfl⟩
  obtain ⟨locs, hlocs⟩ : ∃ z : List Loc, z = [] := ⟨_, rfl⟩
  rw [← hH, ← hlocs] at hB
  rw [← hH, ← hlocs]
  refine q_ild_n cx dX11_awakeIn_0 rfl (lv_at hl 1 rfl) ?_
  refine q_iflt (tgt := 10) cx ⟨by omega, by omega⟩ dX11_awakeIn_1 (by decide) (fun c7 => ?_) (fun c7 => ?_)
  · exact q_throw (text := "ticks are out of range") hfl cx hlk htab hX hB hl.1 (by decide +kernel) q_h880 q_h152 (by decide +kernel) q_xl87a q_xl87b q_xl87c dX11_awakeIn_10 dX11_awakeIn_13 (Or.inl ⟨dX11_awakeIn_14, dX11_awakeIn_16, dX11_awakeIn_19⟩) (by decide) (by decide) ⟨rfl, rfl⟩
  · refine q_ild_n cx dX11_awakeIn_4 rfl (lv_at hl 1 rfl) ?_
    refine q_bipush cx dX11_awakeIn_5 rfl ?_
    refine q_icle (tgt := 20) cx ⟨by omega, by omega⟩ ⟨by decide, by decide⟩ dX11_awakeIn_7 (by decide) (fun c8 => ?_) (fun c8 => ?_)
    · refine q_ald_n cx dX11_awakeIn_20 rfl (lv_at hl 0 rfl) ?_
      refine q_gX11_54 cx hB hx kx hr6 dX11_awakeIn_21 (fun hb9 kb9 => ?_)
      refine q_ild_n cx dX11_awakeIn_24 rfl (lv_at hl 1 rfl) ?_
      refine q_cVi (As := [.int (q_i a0)]) (rest := []) cx hB (fun _ h => h) hN hnow know (by decide) rfl (g_X10_awakeAfter l g hN hB.2.1 now hnow know a0 (by omega) (by omega)) q_cX11_207 q_dX10_awakeAfter (by decide) rfl rfl hl.1 rfl (Nat.le_of_ble_eq_true rfl) dX11_awakeIn_25 (fun y11 H locs f10 ry11 h12 hF hB => ?_)
      obtain rfl := h12
      refine W.widen (k := 1) (n := 6) (by decide) (by decide) ?_
      refine vx_ret ?_
      refine q_iret cx hr hlk hB dX11_awakeIn_28 ⟨by omega, by omega⟩ ?_
      exact rfl
    · exact q_throw (text := "ticks are out of range") hfl cx hlk htab hX hB hl.1 (by decide +kernel) q_h880 q_h152 (by decide +kernel) q_xl87a q_xl87b q_xl87c dX11_awakeIn_10 dX11_awakeIn_13 (Or.inl ⟨dX11_awakeIn_14, dX11_awakeIn_16, dX11_awakeIn_19⟩) (by decide) (by decide) ⟨rfl, rfl⟩
set_option maxHeartbeats 4000000 in
set_option maxRecDepth 100000 in
theorem x_meetsIn (l : Launch) (g : q_G) (ad : Nat → Nat) {K : Nat → Nat} {L : List Nat} (hN : L.Nodup) {f : Nat → va_E} (hT : q_Ty g K L f) (hfl : l.stackTraces = false) (x : Nat) (hx : x ∈ L) (kx : K x = 11) (a0 : Int) (la0 : (-2147483648) ≤ a0) (ua0 : a0 ≤ 2147483647) (b0 : Int) (lb0 : (-2147483648) ≤ b0) (ub0 : b0 ≤ 2147483647) (src : Nat) (hsrc : src ∈ L) (ksrc : K src = 8) (rdr : Nat) (hrdr : rdr ∈ L) (krdr : K rdr = 9) (scr : Nat) (hscr : scr ∈ L) (kscr : K scr = 7) (fc : Nat) (hfc : fc ∈ L) (kfc : K fc = 1) (hist : Nat) (hhist : hist ∈ L) (khist : K hist = 2) (rep : Nat) (hrep : rep ∈ L) (krep : K rep = 6) (now : Nat) (hnow : now ∈ L) (know : K now = 10) (dr : Nat) (hdr : dr ∈ L) (kdr : K dr = 13) (sv : Nat) (hsv : sv ∈ L) (ksv : K sv = 14) (tr : Nat) (htr : tr ∈ L) (ktr : K tr = 15) (hr0 : q_ir (q_r f x 0) src) (hr1 : q_ir (q_r f x 1) rdr) (hr2 : q_ir (q_r f x 2) scr) (hr3 : q_ir (q_r f x 3) fc) (hr4 : q_ir (q_r f x 4) hist) (hr5 : q_ir (q_r f x 5) rep) (hr6 : q_ir (q_r f x 6) now) (hr7 : q_ir (q_r f x 7) dr) (hr8 : q_ir (q_r f x 8) sv) (hr9 : q_ir (q_r f fc 0) tr) : q_Xt l g ad K L yX11_meetsIn cX11_meetsIn 3 (some .int) 7 103 2 12 [.ref x, .int (q_i a0), .int (q_i b0)] f [] (q_Pi (fun (z : Int) (f1 : Nat → va_E) => f = f1)) (fun (E : String) (f1 : Nat → va_E) => E = "java/lang/IndexOutOfBoundsException" ∧ f = f1) := by
  refine q_xofb (by decide +kernel) hN hT (Nat.le_of_ble_eq_true rfl) ?_
  intro p e s m below meth c ls cx hr hlk htab hX hB hl
  have hl : lv_has ls 3 [(0, .ref x), (1, .int (q_i a0)), (2, .int (q_i b0))] := hl
  obtain ⟨H, hH⟩ : ∃ H : Heap, H = s.heap := ⟨_, rfl⟩
  obtain ⟨locs, hlocs⟩ : ∃ z : List Loc, z = [] := ⟨_, rfl⟩
  rw [← hH, ← hlocs] at hB
  rw [← hH, ← hlocs]
  refine q_ald_n cx dX11_meetsIn_0 rfl (lv_at hl 0 rfl) ?_
  refine q_ild_n cx dX11_meetsIn_1 rfl (lv_at hl 1 rfl) ?_
  refine q_cXV (As := [.int (q_i a0)]) (rest := []) cx hX hB (fun _ h => h) (fun _ h _ => h) hN hx kx (by decide) rfl (x_requireNode l g ad hN hB.2.1 hfl x hx kx a0 (by omega) (by omega) src hsrc ksrc rdr hrdr krdr scr hscr kscr fc hfc kfc hist hhist khist rep hrep krep now hnow know dr hdr kdr sv hsv ksv tr htr ktr hr0 hr1 hr2 hr3 hr4 hr5 hr6 hr7 hr8 hr9) q_cX11_129 q_dX11_requireNode (by decide) rfl rfl hl.1 rfl (Nat.le_of_ble_eq_true rfl) dX11_meetsIn_2 (fun E9 ce9 q9 H locs f23 hex hF hB hcell hcv hcl => ?_) (fun v9 H locs f20 h22 hF hB => ?_)
  · rcases hex with ⟨rfl, rfl⟩
    · exact q_xout hlk htab hB hcell hcv hcl (by decide) ⟨rfl, rfl⟩
  · obtain ⟨rfl, h22⟩ := h22
    refine W.eq (g2 := F0 m 5 ls []) rfl ?_
    obtain rfl := h22
    refine q_ald_n cx dX11_meetsIn_5 rfl (lv_at hl 0 rfl) ?_
    refine q_ild_n cx dX11_meetsIn_6 rfl (lv_at hl 2 rfl) ?_
    refine q_cXV (As := [.int (q_i b0)]) (rest := []) cx hX hB (fun _ h => h) (fun _ h _ => h) hN hx kx (by decide) rfl (x_requireNode l g ad hN hB.2.1 hfl x hx kx b0 (by omega) (by omega) src hsrc ksrc rdr hrdr krdr scr hscr kscr fc hfc kfc hist hhist khist rep hrep krep now hnow know dr hdr kdr sv hsv ksv tr htr ktr hr0 hr1 hr2 hr3 hr4 hr5 hr6 hr7 hr8 hr9) q_cX11_129 q_dX11_requireNode (by decide) rfl rfl hl.1 rfl (Nat.le_of_ble_eq_true rfl) dX11_meetsIn_7 (fun E9 ce9 q9 H locs f27 hex hF hB hcell hcv hcl => ?_) (fun v9 H locs f24 h26 hF hB => ?_)
    · rcases hex with ⟨rfl, rfl⟩
      · exact q_xout hlk htab hB hcell hcv hcl (by decide) ⟨rfl, rfl⟩
    · obtain ⟨rfl, h26⟩ := h26
      refine W.eq (g2 := F0 m 10 ls []) rfl ?_
      obtain rfl := h26
      refine q_ild_n cx dX11_meetsIn_10 rfl (lv_at hl 1 rfl) ?_
      refine q_ild_n cx dX11_meetsIn_11 rfl (lv_at hl 2 rfl) ?_
      refine q_icne (tgt := 19) cx ⟨by omega, by omega⟩ ⟨by omega, by omega⟩ dX11_meetsIn_12 (by decide) (fun c28 => ?_) (fun c28 => ?_)
      · refine q_ald_n cx dX11_meetsIn_19 rfl (lv_at hl 0 rfl) ?_
        refine q_gX11_54 cx hB hx kx hr6 dX11_meetsIn_20 (fun hb29 kb29 => ?_)
        refine q_ild_n cx dX11_meetsIn_23 rfl (lv_at hl 1 rfl) ?_
        refine q_ald_n cx dX11_meetsIn_24 rfl (lv_at hl 0 rfl) ?_
        refine q_gX11_54 cx hB hx kx hr6 dX11_meetsIn_25 (fun hb30 kb30 => ?_)
        refine q_ild_n cx dX11_meetsIn_28 rfl (lv_at hl 1 rfl) ?_
        refine q_cVr (As := [.int (q_i a0)]) (rest := [.int (q_i a0), .ref now]) cx hB (fun _ h => h) hN hnow know (by decide) rfl (g_X10_nodeAt l g hN hB.2.1 now hnow know a0 (by omega) (by omega)) q_cX11_167 q_dX10_nodeAt (by decide) rfl rfl hl.1 rfl (Nat.le_of_ble_eq_true rfl) dX11_meetsIn_29 (fun y32 H locs f31 h33 hF hB => ?_)
        obtain ⟨rfl, hy32, ky32⟩ := h33
        obtain ⟨x34, ex34⟩ : ∃ zz, q_is (q_z f y32 3) zz := ⟨_, q_isr _⟩
        refine q_gX11_210 cx hB hy32 ky32 ex34 dX11_meetsIn_32 (fun lb35 ub35 => ?_)
        refine q_ild_n cx dX11_meetsIn_35 rfl (lv_at hl 2 rfl) ?_
        refine q_cVi (As := [.int (q_i a0), .int (q_i x34), .int (q_i b0)]) (rest := []) cx hB (fun _ h => h) hN hnow know (by decide) rfl (g_X10_meetingIn l g hN hB.2.1 now hnow know a0 (by omega) (by omega) x34 (by omega) (by omega) b0 (by omega) (by omega)) q_cX11_213 q_dX10_meetingIn (by decide) rfl rfl hl.1 rfl (Nat.le_of_ble_eq_true rfl) dX11_meetsIn_36 (fun y37 H locs f36 ry37 h38 hF hB => ?_)
        obtain ⟨rfl, ly37, uy37⟩ := h38
        refine W.widen (k := 2) (n := 12) (by decide) (by decide) ?_
        refine vx_ret ?_
        refine q_iret cx hr hlk hB dX11_meetsIn_39 ⟨by omega, by omega⟩ ?_
        exact rfl
      · refine q_iconst cx dX11_meetsIn_15 ?_
        refine lv_goto (tgt := 39) cx.1 cx.2.1 dX11_meetsIn_16 (by decide) ?_
        refine W.widen (k := 2) (n := 12) (by decide) (by decide) ?_
        refine vx_ret ?_
        refine q_iret cx hr hlk hB dX11_meetsIn_39 ⟨by decide, by decide⟩ ?_
        exact rfl
set_option maxHeartbeats 4000000 in
set_option maxRecDepth 100000 in
theorem x_hops (l : Launch) (g : q_G) (ad : Nat → Nat) {K : Nat → Nat} {L : List Nat} (hN : L.Nodup) {f : Nat → va_E} (hT : q_Ty g K L f) (hfl : l.stackTraces = false) (x : Nat) (hx : x ∈ L) (kx : K x = 11) (a0 : Int) (la0 : (-2147483648) ≤ a0) (ua0 : a0 ≤ 2147483647) (b0 : Int) (lb0 : (-2147483648) ≤ b0) (ub0 : b0 ≤ 2147483647) (src : Nat) (hsrc : src ∈ L) (ksrc : K src = 8) (rdr : Nat) (hrdr : rdr ∈ L) (krdr : K rdr = 9) (scr : Nat) (hscr : scr ∈ L) (kscr : K scr = 7) (fc : Nat) (hfc : fc ∈ L) (kfc : K fc = 1) (hist : Nat) (hhist : hist ∈ L) (khist : K hist = 2) (rep : Nat) (hrep : rep ∈ L) (krep : K rep = 6) (now : Nat) (hnow : now ∈ L) (know : K now = 10) (dr : Nat) (hdr : dr ∈ L) (kdr : K dr = 13) (sv : Nat) (hsv : sv ∈ L) (ksv : K sv = 14) (tr : Nat) (htr : tr ∈ L) (ktr : K tr = 15) (hr0 : q_ir (q_r f x 0) src) (hr1 : q_ir (q_r f x 1) rdr) (hr2 : q_ir (q_r f x 2) scr) (hr3 : q_ir (q_r f x 3) fc) (hr4 : q_ir (q_r f x 4) hist) (hr5 : q_ir (q_r f x 5) rep) (hr6 : q_ir (q_r f x 6) now) (hr7 : q_ir (q_r f x 7) dr) (hr8 : q_ir (q_r f x 8) sv) (hr9 : q_ir (q_r f fc 0) tr) : q_Xt l g ad K L yX11_hops cX11_hops 3 (some .int) 7 103 2 12 [.ref x, .int (q_i a0), .int (q_i b0)] f [] (q_Pi (fun (z : Int) (f1 : Nat → va_E) => f = f1)) (fun (E : String) (f1 : Nat → va_E) => E = "java/lang/IndexOutOfBoundsException" ∧ f = f1) := by
  refine q_xofb (by decide +kernel) hN hT (Nat.le_of_ble_eq_true rfl) ?_
  intro p e s m below meth c ls cx hr hlk htab hX hB hl
  have hl : lv_has ls 3 [(0, .ref x), (1, .int (q_i a0)), (2, .int (q_i b0))] := hl
  obtain ⟨H, hH⟩ : ∃ H : Heap, H = s.heap := ⟨_, rfl⟩
  obtain ⟨locs, hlocs⟩ : ∃ z : List Loc, z = [] := ⟨_, rfl⟩
  rw [← hH, ← hlocs] at hB
  rw [← hH, ← hlocs]
  refine q_ald_n cx dX11_hops_0 rfl (lv_at hl 0 rfl) ?_
  refine q_ild_n cx dX11_hops_1 rfl (lv_at hl 1 rfl) ?_
  refine q_cXV (As := [.int (q_i a0)]) (rest := []) cx hX hB (fun _ h => h) (fun _ h _ => h) hN hx kx (by decide) rfl (x_requireNode l g ad hN hB.2.1 hfl x hx kx a0 (by omega) (by omega) src hsrc ksrc rdr hrdr krdr scr hscr kscr fc hfc kfc hist hhist khist rep hrep krep now hnow know dr hdr kdr sv hsv ksv tr htr ktr hr0 hr1 hr2 hr3 hr4 hr5 hr6 hr7 hr8 hr9) q_cX11_129 q_dX11_requireNode (by decide) rfl rfl hl.1 rfl (Nat.le_of_ble_eq_true rfl) dX11_hops_2 (fun E9 ce9 q9 H locs f16 hex hF hB hcell hcv hcl => ?_) (fun v9 H locs f13 h15 hF hB => ?_)
  · rcases hex with ⟨rfl, rfl⟩
    · exact q_xout hlk htab hB hcell hcv hcl (by decide) ⟨rfl, rfl⟩
  · obtain ⟨rfl, h15⟩ := h15
    refine W.eq (g2 := F0 m 5 ls []) rfl ?_
    obtain rfl := h15
    refine q_ald_n cx dX11_hops_5 rfl (lv_at hl 0 rfl) ?_
    refine q_ild_n cx dX11_hops_6 rfl (lv_at hl 2 rfl) ?_
    refine q_cXV (As := [.int (q_i b0)]) (rest := []) cx hX hB (fun _ h => h) (fun _ h _ => h) hN hx kx (by decide) rfl (x_requireNode l g ad hN hB.2.1 hfl x hx kx b0 (by omega) (by omega) src hsrc ksrc rdr hrdr krdr scr hscr kscr fc hfc kfc hist hhist khist rep hrep krep now hnow know dr hdr kdr sv hsv ksv tr htr ktr hr0 hr1 hr2 hr3 hr4 hr5 hr6 hr7 hr8 hr9) q_cX11_129 q_dX11_requireNode (by decide) rfl rfl hl.1 rfl (Nat.le_of_ble_eq_true rfl) dX11_hops_7 (fun E9 ce9 q9 H locs f20 hex hF hB hcell hcv hcl => ?_) (fun v9 H locs f17 h19 hF hB => ?_)
    · rcases hex with ⟨rfl, rfl⟩
      · exact q_xout hlk htab hB hcell hcv hcl (by decide) ⟨rfl, rfl⟩
    · obtain ⟨rfl, h19⟩ := h19
      refine W.eq (g2 := F0 m 10 ls []) rfl ?_
      obtain rfl := h19
      refine q_ald_n cx dX11_hops_10 rfl (lv_at hl 0 rfl) ?_
      refine q_gX11_54 cx hB hx kx hr6 dX11_hops_11 (fun hb21 kb21 => ?_)
      refine q_ild_n cx dX11_hops_14 rfl (lv_at hl 1 rfl) ?_
      refine q_ild_n cx dX11_hops_15 rfl (lv_at hl 2 rfl) ?_
      refine q_cVi (As := [.int (q_i a0), .int (q_i b0)]) (rest := []) cx hB (fun _ h => h) hN hnow know (by decide) rfl (g_X10_hopsBetween l g hN hB.2.1 now hnow know a0 (by omega) (by omega) b0 (by omega) (by omega)) q_cX11_223 q_dX10_hopsBetween (by decide) rfl rfl hl.1 rfl (Nat.le_of_ble_eq_true rfl) dX11_hops_16 (fun y23 H locs f22 ry23 h24 hF hB => ?_)
      obtain ⟨rfl, ly23, uy23⟩ := h24
      refine W.widen (k := 2) (n := 12) (by decide) (by decide) ?_
      refine vx_ret ?_
      refine q_iret cx hr hlk hB dX11_hops_19 ⟨by omega, by omega⟩ ?_
      exact rfl
set_option maxHeartbeats 4000000 in
set_option maxRecDepth 100000 in
theorem x_nextNode (l : Launch) (g : q_G) (ad : Nat → Nat) {K : Nat → Nat} {L : List Nat} (hN : L.Nodup) {f : Nat → va_E} (hT : q_Ty g K L f) (hfl : l.stackTraces = false) (x : Nat) (hx : x ∈ L) (kx : K x = 11) (a0 : Int) (la0 : (-2147483648) ≤ a0) (ua0 : a0 ≤ 2147483647) (b0 : Int) (lb0 : (-2147483648) ≤ b0) (ub0 : b0 ≤ 2147483647) (src : Nat) (hsrc : src ∈ L) (ksrc : K src = 8) (rdr : Nat) (hrdr : rdr ∈ L) (krdr : K rdr = 9) (scr : Nat) (hscr : scr ∈ L) (kscr : K scr = 7) (fc : Nat) (hfc : fc ∈ L) (kfc : K fc = 1) (hist : Nat) (hhist : hist ∈ L) (khist : K hist = 2) (rep : Nat) (hrep : rep ∈ L) (krep : K rep = 6) (now : Nat) (hnow : now ∈ L) (know : K now = 10) (dr : Nat) (hdr : dr ∈ L) (kdr : K dr = 13) (sv : Nat) (hsv : sv ∈ L) (ksv : K sv = 14) (tr : Nat) (htr : tr ∈ L) (ktr : K tr = 15) (hr0 : q_ir (q_r f x 0) src) (hr1 : q_ir (q_r f x 1) rdr) (hr2 : q_ir (q_r f x 2) scr) (hr3 : q_ir (q_r f x 3) fc) (hr4 : q_ir (q_r f x 4) hist) (hr5 : q_ir (q_r f x 5) rep) (hr6 : q_ir (q_r f x 6) now) (hr7 : q_ir (q_r f x 7) dr) (hr8 : q_ir (q_r f x 8) sv) (hr9 : q_ir (q_r f fc 0) tr) : q_Xt l g ad K L yX11_nextNode cX11_nextNode 3 (some .int) 7 103 2 12 [.ref x, .int (q_i a0), .int (q_i b0)] f [] (q_Pi (fun (z : Int) (f1 : Nat → va_E) => f = f1)) (fun (E : String) (f1 : Nat → va_E) => E = "java/lang/IndexOutOfBoundsException" ∧ f = f1) := by
  refine q_xofb (by decide +kernel) hN hT (Nat.le_of_ble_eq_true rfl) ?_
  intro p e s m below meth c ls cx hr hlk htab hX hB hl
  have hl : lv_has ls 3 [(0, .ref x), (1, .int (q_i a0)), (2, .int (q_i b0))] := hl
  obtain ⟨H, hH⟩ : ∃ H : Heap, H = s.heap := ⟨_, rfl⟩
  obtain ⟨locs, hlocs⟩ : ∃ z : List Loc, z = [] := ⟨_, rfl⟩
  rw [← hH, ← hlocs] at hB
  rw [← hH, ← hlocs]
  refine q_ald_n cx dX11_nextNode_0 rfl (lv_at hl 0 rfl) ?_
  refine q_ild_n cx dX11_nextNode_1 rfl (lv_at hl 1 rfl) ?_
  refine q_cXV (As := [.int (q_i a0)]) (rest := []) cx hX hB (fun _ h => h) (fun _ h _ => h) hN hx kx (by decide) rfl (x_requireNode l g ad hN hB.2.1 hfl x hx kx a0 (by omega) (by omega) src hsrc ksrc rdr hrdr krdr scr hscr kscr fc hfc kfc hist hhist khist rep hrep krep now hnow know dr hdr kdr sv hsv ksv tr htr ktr hr0 hr1 hr2 hr3 hr4 hr5 hr6 hr7 hr8 hr9) q_cX11_129 q_dX11_requireNode (by decide) rfl rfl hl.1 rfl (Nat.le_of_ble_eq_true rfl) dX11_nextNode_2 (fun E9 ce9 q9 H locs f26 hex hF hB hcell hcv hcl => ?_) (fun v9 H locs f23 h25 hF hB => ?_)
  · rcases hex with ⟨rfl, rfl⟩
    · exact q_xout hlk htab hB hcell hcv hcl (by decide) ⟨rfl, rfl⟩
  · obtain ⟨rfl, h25⟩ := h25
    refine W.eq (g2 := F0 m 5 ls []) rfl ?_
    obtain rfl := h25
    refine q_ald_n cx dX11_nextNode_5 rfl (lv_at hl 0 rfl) ?_
    refine q_ild_n cx dX11_nextNode_6 rfl (lv_at hl 2 rfl) ?_
    refine q_cXV (As := [.int (q_i b0)]) (rest := []) cx hX hB (fun _ h => h) (fun _ h _ => h) hN hx kx (by decide) rfl (x_requireNode l g ad hN hB.2.1 hfl x hx kx b0 (by omega) (by omega) src hsrc ksrc rdr hrdr krdr scr hscr kscr fc hfc kfc hist hhist khist rep hrep krep now hnow know dr hdr kdr sv hsv ksv tr htr ktr hr0 hr1 hr2 hr3 hr4 hr5 hr6 hr7 hr8 hr9) q_cX11_129 q_dX11_requireNode (by decide) rfl rfl hl.1 rfl (Nat.le_of_ble_eq_true rfl) dX11_nextNode_7 (fun E9 ce9 q9 H locs f30 hex hF hB hcell hcv hcl => ?_) (fun v9 H locs f27 h29 hF hB => ?_)
    · rcases hex with ⟨rfl, rfl⟩
      · exact q_xout hlk htab hB hcell hcv hcl (by decide) ⟨rfl, rfl⟩
    · obtain ⟨rfl, h29⟩ := h29
      refine W.eq (g2 := F0 m 10 ls []) rfl ?_
      obtain rfl := h29
      refine q_ild_n cx dX11_nextNode_10 rfl (lv_at hl 1 rfl) ?_
      refine q_ild_n cx dX11_nextNode_11 rfl (lv_at hl 2 rfl) ?_
      refine q_iceq (tgt := 26) cx ⟨by omega, by omega⟩ ⟨by omega, by omega⟩ dX11_nextNode_12 (by decide) (fun c31 => ?_) (fun c31 => ?_)
      · refine q_iconst cx dX11_nextNode_26 ?_
        refine lv_goto (tgt := 46) cx.1 cx.2.1 dX11_nextNode_27 (by decide) ?_
        refine W.widen (k := 2) (n := 12) (by decide) (by decide) ?_
        refine vx_ret ?_
        refine q_iret cx hr hlk hB dX11_nextNode_46 ⟨by decide, by decide⟩ ?_
        exact rfl
      · refine q_ald_n cx dX11_nextNode_15 rfl (lv_at hl 0 rfl) ?_
        refine q_gX11_54 cx hB hx kx hr6 dX11_nextNode_16 (fun hb32 kb32 => ?_)
        refine q_ild_n cx dX11_nextNode_19 rfl (lv_at hl 1 rfl) ?_
        refine q_cVi (As := [.int (q_i a0)]) (rest := []) cx hB (fun _ h => h) hN hnow know (by decide) rfl (g_X10_isOut l g hN hB.2.1 now hnow know a0 (by omega) (by omega)) q_cX11_226 q_dX10_isOut (by decide) rfl rfl hl.1 rfl (Nat.le_of_ble_eq_true rfl) dX11_nextNode_20 (fun y34 H locs f33 ry34 h35 hF hB => ?_)
        obtain ⟨rfl, ly34, uy34⟩ := h35
        refine q_ifeq (tgt := 30) cx ⟨by omega, by omega⟩ dX11_nextNode_23 (by decide) (fun c36 => ?_) (fun c36 => ?_)
        · refine q_ald_n cx dX11_nextNode_30 rfl (lv_at hl 0 rfl) ?_
          refine q_gX11_54 cx hB hx kx hr6 dX11_nextNode_31 (fun hb37 kb37 => ?_)
          refine q_ild_n cx dX11_nextNode_34 rfl (lv_at hl 1 rfl) ?_
          refine q_ild_n cx dX11_nextNode_35 rfl (lv_at hl 2 rfl) ?_
          refine q_ald_n cx dX11_nextNode_36 rfl (lv_at hl 0 rfl) ?_
          refine q_gX11_54 cx hB hx kx hr6 dX11_nextNode_37 (fun hb38 kb38 => ?_)
          refine q_cVi (As := []) (rest := [.int (q_i b0), .int (q_i a0), .ref now]) cx hB (fun _ h => h) hN hnow know (by decide) rfl (g_X10_notOut l g hN hB.2.1 now hnow know) q_cX11_230 q_dX10_notOut (by decide) rfl rfl hl.1 rfl (Nat.le_of_ble_eq_true rfl) dX11_nextNode_40 (fun y40 H locs f39 ry40 h41 hF hB => ?_)
          obtain rfl := h41
          refine q_cVi (As := [.int (q_i a0), .int (q_i b0), .int (q_i y40)]) (rest := []) cx hB (fun _ h => h) hN hnow know (by decide) rfl (g_X10_nextTowards l g hN hB.2.1 now hnow know a0 (by omega) (by omega) b0 (by omega) (by omega) y40 (by omega) (by omega)) q_cX11_233 q_dX10_nextTowards (by decide) rfl rfl hl.1 rfl (Nat.le_of_ble_eq_true rfl) dX11_nextNode_43 (fun y43 H locs f42 ry43 h44 hF hB => ?_)
          obtain ⟨rfl, ly43, uy43⟩ := h44
          refine W.widen (k := 2) (n := 12) (by decide) (by decide) ?_
          refine vx_ret ?_
          refine q_iret cx hr hlk hB dX11_nextNode_46 ⟨by omega, by omega⟩ ?_
          exact rfl
        · refine q_iconst cx dX11_nextNode_26 ?_
          refine lv_goto (tgt := 46) cx.1 cx.2.1 dX11_nextNode_27 (by decide) ?_
          refine W.widen (k := 2) (n := 12) (by decide) (by decide) ?_
          refine vx_ret ?_
          refine q_iret cx hr hlk hB dX11_nextNode_46 ⟨by decide, by decide⟩ ?_
          exact rfl
set_option maxHeartbeats 4000000 in
set_option maxRecDepth 100000 in
theorem x_arrives (l : Launch) (g : q_G) (ad : Nat → Nat) {K : Nat → Nat} {L : List Nat} (hN : L.Nodup) {f : Nat → va_E} (hT : q_Ty g K L f) (hfl : l.stackTraces = false) (x : Nat) (hx : x ∈ L) (kx : K x = 11) (a0 : Int) (la0 : (-2147483648) ≤ a0) (ua0 : a0 ≤ 2147483647) (src : Nat) (hsrc : src ∈ L) (ksrc : K src = 8) (rdr : Nat) (hrdr : rdr ∈ L) (krdr : K rdr = 9) (scr : Nat) (hscr : scr ∈ L) (kscr : K scr = 7) (fc : Nat) (hfc : fc ∈ L) (kfc : K fc = 1) (hist : Nat) (hhist : hist ∈ L) (khist : K hist = 2) (rep : Nat) (hrep : rep ∈ L) (krep : K rep = 6) (now : Nat) (hnow : now ∈ L) (know : K now = 10) (dr : Nat) (hdr : dr ∈ L) (kdr : K dr = 13) (sv : Nat) (hsv : sv ∈ L) (ksv : K sv = 14) (tr : Nat) (htr : tr ∈ L) (ktr : K tr = 15) (hr0 : q_ir (q_r f x 0) src) (hr1 : q_ir (q_r f x 1) rdr) (hr2 : q_ir (q_r f x 2) scr) (hr3 : q_ir (q_r f x 3) fc) (hr4 : q_ir (q_r f x 4) hist) (hr5 : q_ir (q_r f x 5) rep) (hr6 : q_ir (q_r f x 6) now) (hr7 : q_ir (q_r f x 7) dr) (hr8 : q_ir (q_r f x 8) sv) (hr9 : q_ir (q_r f fc 0) tr) : q_Xt l g ad K L yX11_arrives cX11_arrives 2 (some .int) 7 171 1 6 [.ref x, .int (q_i a0)] f [(15, 3, 15), (19, 0, 9), (23, 0, 4), (27, 0, 7)] (q_Pi (fun (z : Int) (f1 : Nat → va_E) => True)) (fun (E : String) (f1 : Nat → va_E) => E = "java/lang/IndexOutOfBoundsException" ∧ f = f1) := by
  refine q_xofb (by decide +kernel) hN hT (Nat.le_of_ble_eq_true rfl) ?_
  intro p e s m below meth c ls cx hr hlk htab hX hB hl
  have hl : lv_has ls 2 [(0, .ref x), (1, .int (q_i a0))] := hl
  obtain ⟨H, hH⟩ : ∃ H : Heap, H = s.heap := ⟨_, rfl⟩
  obtain ⟨locs, hlocs⟩ : ∃ z : List Loc, z = [] := ⟨_, rfl⟩
  rw [← hH, ← hlocs] at hB
  rw [← hH, ← hlocs]
  refine q_ald_n cx dX11_arrives_0 rfl (lv_at hl 0 rfl) ?_
  refine q_ild_n cx dX11_arrives_1 rfl (lv_at hl 1 rfl) ?_
  refine q_cXV (As := [.int (q_i a0)]) (rest := []) cx hX hB (fun _ h => h) (fun _ h _ => h) hN hx kx (by decide) rfl (x_requireMessage l g ad hN hB.2.1 hfl x hx kx a0 (by omega) (by omega) src hsrc ksrc rdr hrdr krdr scr hscr kscr fc hfc kfc hist hhist khist rep hrep krep now hnow know dr hdr kdr sv hsv ksv tr htr ktr hr0 hr1 hr2 hr3 hr4 hr5 hr6 hr7 hr8 hr9) q_cX11_155 q_dX11_requireMessage (by decide) rfl rfl hl.1 rfl (Nat.le_of_ble_eq_true rfl) dX11_arrives_2 (fun E9 ce9 q9 H locs f23 hex hF hB hcell hcv hcl => ?_) (fun v9 H locs f20 h22 hF hB => ?_)
  · rcases hex with ⟨rfl, rfl⟩
    · exact q_xout hlk htab hB hcell hcv hcl (by decide) ⟨rfl, rfl⟩
  · obtain ⟨rfl, h22⟩ := h22
    refine W.eq (g2 := F0 m 5 ls []) rfl ?_
    obtain rfl := h22
    refine q_ald_n cx dX11_arrives_5 rfl (lv_at hl 0 rfl) ?_
    refine q_gX11_33 cx hB hx kx hr3 dX11_arrives_6 (fun hb24 kb24 => ?_)
    refine q_ald_n cx dX11_arrives_9 rfl (lv_at hl 0 rfl) ?_
    refine q_gX11_54 cx hB hx kx hr6 dX11_arrives_10 (fun hb25 kb25 => ?_)
    refine q_ild_n cx dX11_arrives_13 rfl (lv_at hl 1 rfl) ?_
    refine q_cVi (As := [.ref now, .int (q_i a0)]) (rest := []) cx hB (fun _ h => h) hN hfc kfc (by decide) rfl (g_X1_ticksToArrival l g hN hB.2.1 fc hfc kfc now hnow know a0 (by omega) (by omega)) q_cX11_239 q_dX1_ticksToArrival (by decide) rfl rfl hl.1 rfl (Nat.le_of_ble_eq_true rfl) dX11_arrives_14 (fun y27 H locs f26 ry27 h28 hF hB => ?_)
    obtain ⟨ly27, uy27⟩ := h28
    have z29 : q_ir (q_r f26 x 0) src := Eq.trans (hF.r hx (by rw [kx]; rfl)) hr0
    have z30 : q_ir (q_r f26 x 1) rdr := Eq.trans (hF.r hx (by rw [kx]; rfl)) hr1
    have z31 : q_ir (q_r f26 x 2) scr := Eq.trans (hF.r hx (by rw [kx]; rfl)) hr2
    have z32 : q_ir (q_r f26 x 3) fc := Eq.trans (hF.r hx (by rw [kx]; rfl)) hr3
    have z33 : q_ir (q_r f26 x 4) hist := Eq.trans (hF.r hx (by rw [kx]; rfl)) hr4
    have z34 : q_ir (q_r f26 x 5) rep := Eq.trans (hF.r hx (by rw [kx]; rfl)) hr5
    have z35 : q_ir (q_r f26 x 6) now := Eq.trans (hF.r hx (by rw [kx]; rfl)) hr6
    have z36 : q_ir (q_r f26 x 7) dr := Eq.trans (hF.r hx (by rw [kx]; rfl)) hr7
    have z37 : q_ir (q_r f26 x 8) sv := Eq.trans (hF.r hx (by rw [kx]; rfl)) hr8
    have z38 : q_ir (q_r f26 fc 0) tr := Eq.trans (hF.r hfc (by rw [kfc]; rfl)) hr9
    refine W.widen (k := 1) (n := 6) (by decide) (by decide) ?_
    refine vx_ret ?_
    refine q_iret cx hr hlk hB dX11_arrives_17 ⟨by omega, by omega⟩ ?_
    trivial
set_option maxHeartbeats 4000000 in
set_option maxRecDepth 100000 in
theorem x_wouldArrive (l : Launch) (g : q_G) (ad : Nat → Nat) {K : Nat → Nat} {L : List Nat} (hN : L.Nodup) {f : Nat → va_E} (hT : q_Ty g K L f) (hfl : l.stackTraces = false) (x : Nat) (hx : x ∈ L) (kx : K x = 11) (a0 : Int) (la0 : (-2147483648) ≤ a0) (ua0 : a0 ≤ 2147483647) (b0 : Int) (lb0 : (-2147483648) ≤ b0) (ub0 : b0 ≤ 2147483647) (z0 : Int) (lz0 : 0 ≤ z0) (uz0 : z0 ≤ 1) (src : Nat) (hsrc : src ∈ L) (ksrc : K src = 8) (rdr : Nat) (hrdr : rdr ∈ L) (krdr : K rdr = 9) (scr : Nat) (hscr : scr ∈ L) (kscr : K scr = 7) (fc : Nat) (hfc : fc ∈ L) (kfc : K fc = 1) (hist : Nat) (hhist : hist ∈ L) (khist : K hist = 2) (rep : Nat) (hrep : rep ∈ L) (krep : K rep = 6) (now : Nat) (hnow : now ∈ L) (know : K now = 10) (dr : Nat) (hdr : dr ∈ L) (kdr : K dr = 13) (sv : Nat) (hsv : sv ∈ L) (ksv : K sv = 14) (tr : Nat) (htr : tr ∈ L) (ktr : K tr = 15) (hr0 : q_ir (q_r f x 0) src) (hr1 : q_ir (q_r f x 1) rdr) (hr2 : q_ir (q_r f x 2) scr) (hr3 : q_ir (q_r f x 3) fc) (hr4 : q_ir (q_r f x 4) hist) (hr5 : q_ir (q_r f x 5) rep) (hr6 : q_ir (q_r f x 6) now) (hr7 : q_ir (q_r f x 7) dr) (hr8 : q_ir (q_r f x 8) sv) (hr9 : q_ir (q_r f fc 0) tr) : q_Xt l g ad K L yX11_wouldArrive cX11_wouldArrive 4 (some .int) 7 173 3 18 [.ref x, .int (q_i a0), .int (q_i b0), .int (q_i z0)] f [(15, 3, 15), (19, 0, 9), (23, 0, 4), (27, 0, 7)] (q_Pi (fun (z : Int) (f1 : Nat → va_E) => True)) (fun (E : String) (f1 : Nat → va_E) => (E = "java/lang/IndexOutOfBoundsException" ∧ f = f1) ∨ (E = "java/lang/IllegalArgumentException" ∧ f = f1)) := by
  refine q_xofb (by decide +kernel) hN hT (Nat.le_of_ble_eq_true rfl) ?_
  intro p e s m below meth c ls cx hr hlk htab hX hB hl
  have hl : lv_has ls 4 [(0, .ref x), (1, .int (q_i a0)), (2, .int (q_i b0)), (3, .int (q_i z0))] := hl
  obtain ⟨H, hH⟩ : ∃ H : Heap, H = s.heap := ⟨_, rfl⟩
  obtain ⟨locs, hlocs⟩ : ∃ z : List Loc, z = [] := ⟨_, rfl⟩
  rw [← hH, ← hlocs] at hB
  rw [← hH, ← hlocs]
  refine q_ald_n cx dX11_wouldArrive_0 rfl (lv_at hl 0 rfl) ?_
  refine q_ild_n cx dX11_wouldArrive_1 rfl (lv_at hl 1 rfl) ?_
  refine q_cXV (As := [.int (q_i a0)]) (rest := []) cx hX hB (fun _ h => h) (fun _ h _ => h) hN hx kx (by decide) rfl (x_requireNode l g ad hN hB.2.1 hfl x hx kx a0 (by omega) (by omega) src hsrc ksrc rdr hrdr krdr scr hscr kscr fc hfc kfc hist hhist khist rep hrep krep now hnow know dr hdr kdr sv hsv ksv tr htr ktr hr0 hr1 hr2 hr3 hr4 hr5 hr6 hr7 hr8 hr9) q_cX11_129 q_dX11_requireNode (by decide) rfl rfl hl.1 rfl (Nat.le_of_ble_eq_true rfl) dX11_wouldArrive_2 (fun E9 ce9 q9 H locs f31 hex hF hB hcell hcv hcl => ?_) (fun v9 H locs f28 h30 hF hB => ?_)
  · rcases hex with ⟨rfl, rfl⟩
    · exact q_xout hlk htab hB hcell hcv hcl (by decide) (Or.inl ⟨rfl, rfl⟩)
  · obtain ⟨rfl, h30⟩ := h30
    refine W.eq (g2 := F0 m 5 ls []) rfl ?_
    obtain rfl := h30
    refine q_ald_n cx dX11_wouldArrive_5 rfl (lv_at hl 0 rfl) ?_
    refine q_ild_n cx dX11_wouldArrive_6 rfl (lv_at hl 2 rfl) ?_
    refine q_cXV (As := [.int (q_i b0)]) (rest := []) cx hX hB (fun _ h => h) (fun _ h _ => h) hN hx kx (by decide) rfl (x_requireNode l g ad hN hB.2.1 hfl x hx kx b0 (by omega) (by omega) src hsrc ksrc rdr hrdr krdr scr hscr kscr fc hfc kfc hist hhist khist rep hrep krep now hnow know dr hdr kdr sv hsv ksv tr htr ktr hr0 hr1 hr2 hr3 hr4 hr5 hr6 hr7 hr8 hr9) q_cX11_129 q_dX11_requireNode (by decide) rfl rfl hl.1 rfl (Nat.le_of_ble_eq_true rfl) dX11_wouldArrive_7 (fun E9 ce9 q9 H locs f35 hex hF hB hcell hcv hcl => ?_) (fun v9 H locs f32 h34 hF hB => ?_)
    · rcases hex with ⟨rfl, rfl⟩
      · exact q_xout hlk htab hB hcell hcv hcl (by decide) (Or.inl ⟨rfl, rfl⟩)
    · obtain ⟨rfl, h34⟩ := h34
      refine W.eq (g2 := F0 m 10 ls []) rfl ?_
      obtain rfl := h34
      refine q_ald_n cx dX11_wouldArrive_10 rfl (lv_at hl 0 rfl) ?_
      refine q_ild_n cx dX11_wouldArrive_11 rfl (lv_at hl 1 rfl) ?_
      refine q_ild_n cx dX11_wouldArrive_12 rfl (lv_at hl 2 rfl) ?_
      refine q_cXV (As := [.int (q_i a0), .int (q_i b0)]) (rest := []) cx hX hB (fun _ h => h) (fun _ h _ => h) hN hx kx (by decide) rfl (x_requireDifferent l g ad hN hB.2.1 hfl x hx kx a0 (by omega) (by omega) b0 (by omega) (by omega) src hsrc ksrc rdr hrdr krdr scr hscr kscr fc hfc kfc hist hhist khist rep hrep krep now hnow know dr hdr kdr sv hsv ksv tr htr ktr hr0 hr1 hr2 hr3 hr4 hr5 hr6 hr7 hr8 hr9) q_cX11_243 q_dX11_requireDifferent (by decide) rfl rfl hl.1 rfl (Nat.le_of_ble_eq_true rfl) dX11_wouldArrive_13 (fun E9 ce9 q9 H locs f39 hex hF hB hcell hcv hcl => ?_) (fun v9 H locs f36 h38 hF hB => ?_)
      · rcases hex with ⟨rfl, rfl⟩
        · exact q_xout hlk htab hB hcell hcv hcl (by decide) (Or.inr ⟨rfl, rfl⟩)
      · obtain ⟨rfl, h38⟩ := h38
        refine W.eq (g2 := F0 m 16 ls []) rfl ?_
        obtain rfl := h38
        refine q_ald_n cx dX11_wouldArrive_16 rfl (lv_at hl 0 rfl) ?_
        refine q_gX11_33 cx hB hx kx hr3 dX11_wouldArrive_17 (fun hb40 kb40 => ?_)
        refine q_ald_n cx dX11_wouldArrive_20 rfl (lv_at hl 0 rfl) ?_
        refine q_gX11_54 cx hB hx kx hr6 dX11_wouldArrive_21 (fun hb41 kb41 => ?_)
        refine q_ild_n cx dX11_wouldArrive_24 rfl (lv_at hl 1 rfl) ?_
        refine q_ild_n cx dX11_wouldArrive_25 rfl (lv_at hl 2 rfl) ?_
        refine q_ild_n cx dX11_wouldArrive_26 rfl (lv_at hl 3 rfl) ?_
        refine q_cVi (As := [.ref now, .int (q_i a0), .int (q_i b0), .int (q_i z0)]) (rest := []) cx hB (fun _ h => h) hN hfc kfc (by decide) rfl (g_X1_ticksIfSent l g hN hB.2.1 fc hfc kfc now hnow know a0 (by omega) (by omega) b0 (by omega) (by omega) z0 (by omega) (by omega)) q_cX11_247 q_dX1_ticksIfSent (by decide) rfl rfl hl.1 rfl (Nat.le_of_ble_eq_true rfl) dX11_wouldArrive_27 (fun y43 H locs f42 ry43 h44 hF hB => ?_)
        obtain ⟨ly43, uy43⟩ := h44
        have z45 : q_ir (q_r f42 x 0) src := Eq.trans (hF.r hx (by rw [kx]; rfl)) hr0
        have z46 : q_ir (q_r f42 x 1) rdr := Eq.trans (hF.r hx (by rw [kx]; rfl)) hr1
        have z47 : q_ir (q_r f42 x 2) scr := Eq.trans (hF.r hx (by rw [kx]; rfl)) hr2
        have z48 : q_ir (q_r f42 x 3) fc := Eq.trans (hF.r hx (by rw [kx]; rfl)) hr3
        have z49 : q_ir (q_r f42 x 4) hist := Eq.trans (hF.r hx (by rw [kx]; rfl)) hr4
        have z50 : q_ir (q_r f42 x 5) rep := Eq.trans (hF.r hx (by rw [kx]; rfl)) hr5
        have z51 : q_ir (q_r f42 x 6) now := Eq.trans (hF.r hx (by rw [kx]; rfl)) hr6
        have z52 : q_ir (q_r f42 x 7) dr := Eq.trans (hF.r hx (by rw [kx]; rfl)) hr7
        have z53 : q_ir (q_r f42 x 8) sv := Eq.trans (hF.r hx (by rw [kx]; rfl)) hr8
        have z54 : q_ir (q_r f42 fc 0) tr := Eq.trans (hF.r hfc (by rw [kfc]; rfl)) hr9
        refine W.widen (k := 3) (n := 18) (by decide) (by decide) ?_
        refine vx_ret ?_
        refine q_iret cx hr hlk hB dX11_wouldArrive_30 ⟨by omega, by omega⟩ ?_
        trivial
set_option maxHeartbeats 4000000 in
set_option maxRecDepth 100000 in
theorem x_outIn (l : Launch) (g : q_G) (ad : Nat → Nat) {K : Nat → Nat} {L : List Nat} (hN : L.Nodup) {f : Nat → va_E} (hT : q_Ty g K L f) (hfl : l.stackTraces = false) (x : Nat) (hx : x ∈ L) (kx : K x = 11) (a0 : Int) (la0 : (-2147483648) ≤ a0) (ua0 : a0 ≤ 2147483647) (src : Nat) (hsrc : src ∈ L) (ksrc : K src = 8) (rdr : Nat) (hrdr : rdr ∈ L) (krdr : K rdr = 9) (scr : Nat) (hscr : scr ∈ L) (kscr : K scr = 7) (fc : Nat) (hfc : fc ∈ L) (kfc : K fc = 1) (hist : Nat) (hhist : hist ∈ L) (khist : K hist = 2) (rep : Nat) (hrep : rep ∈ L) (krep : K rep = 6) (now : Nat) (hnow : now ∈ L) (know : K now = 10) (dr : Nat) (hdr : dr ∈ L) (kdr : K dr = 13) (sv : Nat) (hsv : sv ∈ L) (ksv : K sv = 14) (tr : Nat) (htr : tr ∈ L) (ktr : K tr = 15) (hr0 : q_ir (q_r f x 0) src) (hr1 : q_ir (q_r f x 1) rdr) (hr2 : q_ir (q_r f x 2) scr) (hr3 : q_ir (q_r f x 3) fc) (hr4 : q_ir (q_r f x 4) hist) (hr5 : q_ir (q_r f x 5) rep) (hr6 : q_ir (q_r f x 6) now) (hr7 : q_ir (q_r f x 7) dr) (hr8 : q_ir (q_r f x 8) sv) (hr9 : q_ir (q_r f fc 0) tr) : q_Xt l g ad K L yX11_outIn cX11_outIn 2 (some .int) 7 148 1 6 [.ref x, .int (q_i a0)] f [(15, 3, 15), (19, 0, 9), (23, 0, 4), (27, 0, 7)] (q_Pi (fun (z : Int) (f1 : Nat → va_E) => True)) (fun (E : String) (f1 : Nat → va_E) => E = "java/lang/IndexOutOfBoundsException" ∧ f = f1) := by
  refine q_xofb (by decide +kernel) hN hT (Nat.le_of_ble_eq_true rfl) ?_
  intro p e s m below meth c ls cx hr hlk htab hX hB hl
  have hl : lv_has ls 2 [(0, .ref x), (1, .int (q_i a0))] := hl
  obtain ⟨H, hH⟩ : ∃ H : Heap, H = s.heap := ⟨_, rfl⟩
  obtain ⟨locs, hlocs⟩ : ∃ z : List Loc, z = [] := ⟨_, rfl⟩
  rw [← hH, ← hlocs] at hB
  rw [← hH, ← hlocs]
  refine q_ald_n cx dX11_outIn_0 rfl (lv_at hl 0 rfl) ?_
  refine q_ild_n cx dX11_outIn_1 rfl (lv_at hl 1 rfl) ?_
  refine q_cXV (As := [.int (q_i a0)]) (rest := []) cx hX hB (fun _ h => h) (fun _ h _ => h) hN hx kx (by decide) rfl (x_requireNode l g ad hN hB.2.1 hfl x hx kx a0 (by omega) (by omega) src hsrc ksrc rdr hrdr krdr scr hscr kscr fc hfc kfc hist hhist khist rep hrep krep now hnow know dr hdr kdr sv hsv ksv tr htr ktr hr0 hr1 hr2 hr3 hr4 hr5 hr6 hr7 hr8 hr9) q_cX11_129 q_dX11_requireNode (by decide) rfl rfl hl.1 rfl (Nat.le_of_ble_eq_true rfl) dX11_outIn_2 (fun E9 ce9 q9 H locs f23 hex hF hB hcell hcv hcl => ?_) (fun v9 H locs f20 h22 hF hB => ?_)
  · rcases hex with ⟨rfl, rfl⟩
    · exact q_xout hlk htab hB hcell hcv hcl (by decide) ⟨rfl, rfl⟩
  · obtain ⟨rfl, h22⟩ := h22
    refine W.eq (g2 := F0 m 5 ls []) rfl ?_
    obtain rfl := h22
    refine q_ald_n cx dX11_outIn_5 rfl (lv_at hl 0 rfl) ?_
    refine q_gX11_33 cx hB hx kx hr3 dX11_outIn_6 (fun hb24 kb24 => ?_)
    refine q_ald_n cx dX11_outIn_9 rfl (lv_at hl 0 rfl) ?_
    refine q_gX11_54 cx hB hx kx hr6 dX11_outIn_10 (fun hb25 kb25 => ?_)
    refine q_ild_n cx dX11_outIn_13 rfl (lv_at hl 1 rfl) ?_
    refine q_cVi (As := [.ref now, .int (q_i a0)]) (rest := []) cx hB (fun _ h => h) hN hfc kfc (by decide) rfl (g_X1_ticksToOut l g hN hB.2.1 fc hfc kfc now hnow know a0 (by omega) (by omega)) q_cX11_251 q_dX1_ticksToOut (by decide) rfl rfl hl.1 rfl (Nat.le_of_ble_eq_true rfl) dX11_outIn_14 (fun y27 H locs f26 ry27 h28 hF hB => ?_)
    obtain ⟨ly27, uy27⟩ := h28
    have z29 : q_ir (q_r f26 x 0) src := Eq.trans (hF.r hx (by rw [kx]; rfl)) hr0
    have z30 : q_ir (q_r f26 x 1) rdr := Eq.trans (hF.r hx (by rw [kx]; rfl)) hr1
    have z31 : q_ir (q_r f26 x 2) scr := Eq.trans (hF.r hx (by rw [kx]; rfl)) hr2
    have z32 : q_ir (q_r f26 x 3) fc := Eq.trans (hF.r hx (by rw [kx]; rfl)) hr3
    have z33 : q_ir (q_r f26 x 4) hist := Eq.trans (hF.r hx (by rw [kx]; rfl)) hr4
    have z34 : q_ir (q_r f26 x 5) rep := Eq.trans (hF.r hx (by rw [kx]; rfl)) hr5
    have z35 : q_ir (q_r f26 x 6) now := Eq.trans (hF.r hx (by rw [kx]; rfl)) hr6
    have z36 : q_ir (q_r f26 x 7) dr := Eq.trans (hF.r hx (by rw [kx]; rfl)) hr7
    have z37 : q_ir (q_r f26 x 8) sv := Eq.trans (hF.r hx (by rw [kx]; rfl)) hr8
    have z38 : q_ir (q_r f26 fc 0) tr := Eq.trans (hF.r hfc (by rw [kfc]; rfl)) hr9
    refine W.widen (k := 1) (n := 6) (by decide) (by decide) ?_
    refine vx_ret ?_
    refine q_iret cx hr hlk hB dX11_outIn_17 ⟨by omega, by omega⟩ ?_
    trivial
set_option maxHeartbeats 4000000 in
set_option maxRecDepth 100000 in
theorem x_energyIn (l : Launch) (g : q_G) (ad : Nat → Nat) {K : Nat → Nat} {L : List Nat} (hN : L.Nodup) {f : Nat → va_E} (hT : q_Ty g K L f) (hfl : l.stackTraces = false) (x : Nat) (hx : x ∈ L) (kx : K x = 11) (a0 : Int) (la0 : (-2147483648) ≤ a0) (ua0 : a0 ≤ 2147483647) (b0 : Int) (lb0 : (-2147483648) ≤ b0) (ub0 : b0 ≤ 2147483647) (src : Nat) (hsrc : src ∈ L) (ksrc : K src = 8) (rdr : Nat) (hrdr : rdr ∈ L) (krdr : K rdr = 9) (scr : Nat) (hscr : scr ∈ L) (kscr : K scr = 7) (fc : Nat) (hfc : fc ∈ L) (kfc : K fc = 1) (hist : Nat) (hhist : hist ∈ L) (khist : K hist = 2) (rep : Nat) (hrep : rep ∈ L) (krep : K rep = 6) (now : Nat) (hnow : now ∈ L) (know : K now = 10) (dr : Nat) (hdr : dr ∈ L) (kdr : K dr = 13) (sv : Nat) (hsv : sv ∈ L) (ksv : K sv = 14) (tr : Nat) (htr : tr ∈ L) (ktr : K tr = 15) (hr0 : q_ir (q_r f x 0) src) (hr1 : q_ir (q_r f x 1) rdr) (hr2 : q_ir (q_r f x 2) scr) (hr3 : q_ir (q_r f x 3) fc) (hr4 : q_ir (q_r f x 4) hist) (hr5 : q_ir (q_r f x 5) rep) (hr6 : q_ir (q_r f x 6) now) (hr7 : q_ir (q_r f x 7) dr) (hr8 : q_ir (q_r f x 8) sv) (hr9 : q_ir (q_r f fc 0) tr) : q_Xt l g ad K L yX11_energyIn cX11_energyIn 3 (some .int) 7 148 2 12 [.ref x, .int (q_i a0), .int (q_i b0)] f [(15, 3, 15), (19, 0, 9), (23, 0, 4), (27, 0, 7)] (q_Pi (fun (z : Int) (f1 : Nat → va_E) => True)) (fun (E : String) (f1 : Nat → va_E) => (E = "java/lang/IndexOutOfBoundsException" ∧ f = f1) ∨ (E = "java/lang/IllegalArgumentException" ∧ f = f1)) := by
  refine q_xofb (by decide +kernel) hN hT (Nat.le_of_ble_eq_true rfl) ?_
  intro p e s m below meth c ls cx hr hlk htab hX hB hl
  have hl : lv_has ls 3 [(0, .ref x), (1, .int (q_i a0)), (2, .int (q_i b0))] := hl
  obtain ⟨H, hH⟩ : ∃ H : Heap, H = s.heap := ⟨_, rfl⟩
  obtain ⟨locs, hlocs⟩ : ∃ z : List Loc, z = [] := ⟨_, rfl⟩
  rw [← hH, ← hlocs] at hB
  rw [← hH, ← hlocs]
  refine q_ald_n cx dX11_energyIn_0 rfl (lv_at hl 0 rfl) ?_
  refine q_ild_n cx dX11_energyIn_1 rfl (lv_at hl 1 rfl) ?_
  refine q_cXV (As := [.int (q_i a0)]) (rest := []) cx hX hB (fun _ h => h) (fun _ h _ => h) hN hx kx (by decide) rfl (x_requireNode l g ad hN hB.2.1 hfl x hx kx a0 (by omega) (by omega) src hsrc ksrc rdr hrdr krdr scr hscr kscr fc hfc kfc hist hhist khist rep hrep krep now hnow know dr hdr kdr sv hsv ksv tr htr ktr hr0 hr1 hr2 hr3 hr4 hr5 hr6 hr7 hr8 hr9) q_cX11_129 q_dX11_requireNode (by decide) rfl rfl hl.1 rfl (Nat.le_of_ble_eq_true rfl) dX11_energyIn_2 (fun E9 ce9 q9 H locs f25 hex hF hB hcell hcv hcl => ?_) (fun v9 H locs f22 h24 hF hB => ?_)
  · rcases hex with ⟨rfl, rfl⟩
    · exact q_xout hlk htab hB hcell hcv hcl (by decide) (Or.inl ⟨rfl, rfl⟩)
  · obtain ⟨rfl, h24⟩ := h24
    refine W.eq (g2 := F0 m 5 ls []) rfl ?_
    obtain rfl := h24
    refine q_ild_n cx dX11_energyIn_5 rfl (lv_at hl 2 rfl) ?_
    refine q_iflt (tgt := 16) cx ⟨by omega, by omega⟩ dX11_energyIn_6 (by decide) (fun c26 => ?_) (fun c26 => ?_)
    · exact q_throw (text := "ticks are out of range") hfl cx hlk htab hX hB hl.1 (by decide +kernel) q_h880 q_h152 (by decide +kernel) q_xl87a q_xl87b q_xl87c dX11_energyIn_16 dX11_energyIn_19 (Or.inl ⟨dX11_energyIn_20, dX11_energyIn_22, dX11_energyIn_25⟩) (by decide) (by decide) (Or.inr ⟨rfl, rfl⟩)
    · refine q_ild_n cx dX11_energyIn_9 rfl (lv_at hl 2 rfl) ?_
      refine q_sipush cx dX11_energyIn_10 rfl ?_
      refine q_icle (tgt := 26) cx ⟨by omega, by omega⟩ ⟨by decide, by decide⟩ dX11_energyIn_13 (by decide) (fun c27 => ?_) (fun c27 => ?_)
      · refine q_ald_n cx dX11_energyIn_26 rfl (lv_at hl 0 rfl) ?_
        refine q_gX11_33 cx hB hx kx hr3 dX11_energyIn_27 (fun hb28 kb28 => ?_)
        refine q_ald_n cx dX11_energyIn_30 rfl (lv_at hl 0 rfl) ?_
        refine q_gX11_54 cx hB hx kx hr6 dX11_energyIn_31 (fun hb29 kb29 => ?_)
        refine q_ild_n cx dX11_energyIn_34 rfl (lv_at hl 1 rfl) ?_
        refine q_ild_n cx dX11_energyIn_35 rfl (lv_at hl 2 rfl) ?_
        refine q_cVi (As := [.ref now, .int (q_i a0), .int (q_i b0)]) (rest := []) cx hB (fun _ h => h) hN hfc kfc (by decide) rfl (g_X1_energyAfter l g hN hB.2.1 fc hfc kfc now hnow know a0 (by omega) (by omega) b0 (by omega) (by omega)) q_cX11_254 q_dX1_energyAfter (by decide) rfl rfl hl.1 rfl (Nat.le_of_ble_eq_true rfl) dX11_energyIn_36 (fun y31 H locs f30 ry31 h32 hF hB => ?_)
        have z33 : q_ir (q_r f30 x 0) src := Eq.trans (hF.r hx (by rw [kx]; rfl)) hr0
        have z34 : q_ir (q_r f30 x 1) rdr := Eq.trans (hF.r hx (by rw [kx]; rfl)) hr1
        have z35 : q_ir (q_r f30 x 2) scr := Eq.trans (hF.r hx (by rw [kx]; rfl)) hr2
        have z36 : q_ir (q_r f30 x 3) fc := Eq.trans (hF.r hx (by rw [kx]; rfl)) hr3
        have z37 : q_ir (q_r f30 x 4) hist := Eq.trans (hF.r hx (by rw [kx]; rfl)) hr4
        have z38 : q_ir (q_r f30 x 5) rep := Eq.trans (hF.r hx (by rw [kx]; rfl)) hr5
        have z39 : q_ir (q_r f30 x 6) now := Eq.trans (hF.r hx (by rw [kx]; rfl)) hr6
        have z40 : q_ir (q_r f30 x 7) dr := Eq.trans (hF.r hx (by rw [kx]; rfl)) hr7
        have z41 : q_ir (q_r f30 x 8) sv := Eq.trans (hF.r hx (by rw [kx]; rfl)) hr8
        have z42 : q_ir (q_r f30 fc 0) tr := Eq.trans (hF.r hfc (by rw [kfc]; rfl)) hr9
        refine W.widen (k := 2) (n := 12) (by decide) (by decide) ?_
        refine vx_ret ?_
        refine q_iret cx hr hlk hB dX11_energyIn_39 ⟨by omega, by omega⟩ ?_
        trivial
      · exact q_throw (text := "ticks are out of range") hfl cx hlk htab hX hB hl.1 (by decide +kernel) q_h880 q_h152 (by decide +kernel) q_xl87a q_xl87b q_xl87c dX11_energyIn_16 dX11_energyIn_19 (Or.inl ⟨dX11_energyIn_20, dX11_energyIn_22, dX11_energyIn_25⟩) (by decide) (by decide) (Or.inr ⟨rfl, rfl⟩)
set_option maxHeartbeats 4000000 in
set_option maxRecDepth 100000 in
theorem x_bestShift (l : Launch) (g : q_G) (ad : Nat → Nat) {K : Nat → Nat} {L : List Nat} (hN : L.Nodup) {f : Nat → va_E} (hT : q_Ty g K L f) (hfl : l.stackTraces = false) (x : Nat) (hx : x ∈ L) (kx : K x = 11) (a0 : Int) (la0 : (-2147483648) ≤ a0) (ua0 : a0 ≤ 2147483647) (src : Nat) (hsrc : src ∈ L) (ksrc : K src = 8) (rdr : Nat) (hrdr : rdr ∈ L) (krdr : K rdr = 9) (scr : Nat) (hscr : scr ∈ L) (kscr : K scr = 7) (fc : Nat) (hfc : fc ∈ L) (kfc : K fc = 1) (hist : Nat) (hhist : hist ∈ L) (khist : K hist = 2) (rep : Nat) (hrep : rep ∈ L) (krep : K rep = 6) (now : Nat) (hnow : now ∈ L) (know : K now = 10) (dr : Nat) (hdr : dr ∈ L) (kdr : K dr = 13) (sv : Nat) (hsv : sv ∈ L) (ksv : K sv = 14) (tr : Nat) (htr : tr ∈ L) (ktr : K tr = 15) (hr0 : q_ir (q_r f x 0) src) (hr1 : q_ir (q_r f x 1) rdr) (hr2 : q_ir (q_r f x 2) scr) (hr3 : q_ir (q_r f x 3) fc) (hr4 : q_ir (q_r f x 4) hist) (hr5 : q_ir (q_r f x 5) rep) (hr6 : q_ir (q_r f x 6) now) (hr7 : q_ir (q_r f x 7) dr) (hr8 : q_ir (q_r f x 8) sv) (hr9 : q_ir (q_r f fc 0) tr) : q_Xt l g ad K L yX11_bestShift cX11_bestShift 2 (some .int) 7 166 1 6 [.ref x, .int (q_i a0)] f [] (q_Pi (fun (z : Int) (f1 : Nat → va_E) => f = f1)) (fun (E : String) (f1 : Nat → va_E) => E = "java/lang/IndexOutOfBoundsException" ∧ f = f1) := by
  refine q_xofb (by decide +kernel) hN hT (Nat.le_of_ble_eq_true rfl) ?_
  intro p e s m below meth c ls cx hr hlk htab hX hB hl
  have hl : lv_has ls 2 [(0, .ref x), (1, .int (q_i a0))] := hl
  obtain ⟨H, hH⟩ : ∃ H : Heap, H = s.heap := ⟨_, rfl⟩
  obtain ⟨locs, hlocs⟩ : ∃ z : List Loc, z = [] := ⟨_, rfl⟩
  rw [← hH, ← hlocs] at hB
  rw [← hH, ← hlocs]
  refine q_ald_n cx dX11_bestShift_0 rfl (lv_at hl 0 rfl) ?_
  refine q_ild_n cx dX11_bestShift_1 rfl (lv_at hl 1 rfl) ?_
  refine q_cXV (As := [.int (q_i a0)]) (rest := []) cx hX hB (fun _ h => h) (fun _ h _ => h) hN hx kx (by decide) rfl (x_requireNode l g ad hN hB.2.1 hfl x hx kx a0 (by omega) (by omega) src hsrc ksrc rdr hrdr krdr scr hscr kscr fc hfc kfc hist hhist khist rep hrep krep now hnow know dr hdr kdr sv hsv ksv tr htr ktr hr0 hr1 hr2 hr3 hr4 hr5 hr6 hr7 hr8 hr9) q_cX11_129 q_dX11_requireNode (by decide) rfl rfl hl.1 rfl (Nat.le_of_ble_eq_true rfl) dX11_bestShift_2 (fun E9 ce9 q9 H locs f12 hex hF hB hcell hcv hcl => ?_) (fun v9 H locs f9 h11 hF hB => ?_)
  · rcases hex with ⟨rfl, rfl⟩
    · exact q_xout hlk htab hB hcell hcv hcl (by decide) ⟨rfl, rfl⟩
  · obtain ⟨rfl, h11⟩ := h11
    refine W.eq (g2 := F0 m 5 ls []) rfl ?_
    obtain rfl := h11
    refine q_ald_n cx dX11_bestShift_5 rfl (lv_at hl 0 rfl) ?_
    refine q_gX11_54 cx hB hx kx hr6 dX11_bestShift_6 (fun hb13 kb13 => ?_)
    refine q_ild_n cx dX11_bestShift_9 rfl (lv_at hl 1 rfl) ?_
    refine q_cVi (As := [.int (q_i a0)]) (rest := []) cx hB (fun _ h => h) hN hnow know (by decide) rfl (g_X10_shiftToMeetSoonest l g hN hB.2.1 now hnow know a0 (by omega) (by omega)) q_cX11_261 q_dX10_shiftToMeetSoonest (by decide) rfl rfl hl.1 rfl (Nat.le_of_ble_eq_true rfl) dX11_bestShift_10 (fun y15 H locs f14 ry15 h16 hF hB => ?_)
    obtain ⟨rfl, ly15, uy15⟩ := h16
    refine W.widen (k := 1) (n := 6) (by decide) (by decide) ?_
    refine vx_ret ?_
    refine q_iret cx hr hlk hB dX11_bestShift_13 ⟨by omega, by omega⟩ ?_
    exact rfl
set_option maxHeartbeats 4000000 in
set_option maxRecDepth 100000 in
theorem x_bestWatch (l : Launch) (g : q_G) (ad : Nat → Nat) {K : Nat → Nat} {L : List Nat} (hN : L.Nodup) {f : Nat → va_E} (hT : q_Ty g K L f) (hfl : l.stackTraces = false) (x : Nat) (hx : x ∈ L) (kx : K x = 11) (a0 : Int) (la0 : (-2147483648) ≤ a0) (ua0 : a0 ≤ 2147483647) (b0 : Int) (lb0 : (-2147483648) ≤ b0) (ub0 : b0 ≤ 2147483647) (src : Nat) (hsrc : src ∈ L) (ksrc : K src = 8) (rdr : Nat) (hrdr : rdr ∈ L) (krdr : K rdr = 9) (scr : Nat) (hscr : scr ∈ L) (kscr : K scr = 7) (fc : Nat) (hfc : fc ∈ L) (kfc : K fc = 1) (hist : Nat) (hhist : hist ∈ L) (khist : K hist = 2) (rep : Nat) (hrep : rep ∈ L) (krep : K rep = 6) (now : Nat) (hnow : now ∈ L) (know : K now = 10) (dr : Nat) (hdr : dr ∈ L) (kdr : K dr = 13) (sv : Nat) (hsv : sv ∈ L) (ksv : K sv = 14) (tr : Nat) (htr : tr ∈ L) (ktr : K tr = 15) (hr0 : q_ir (q_r f x 0) src) (hr1 : q_ir (q_r f x 1) rdr) (hr2 : q_ir (q_r f x 2) scr) (hr3 : q_ir (q_r f x 3) fc) (hr4 : q_ir (q_r f x 4) hist) (hr5 : q_ir (q_r f x 5) rep) (hr6 : q_ir (q_r f x 6) now) (hr7 : q_ir (q_r f x 7) dr) (hr8 : q_ir (q_r f x 8) sv) (hr9 : q_ir (q_r f fc 0) tr) : q_Xt l g ad K L yX11_bestWatch cX11_bestWatch 3 (some .int) 7 177 3 18 [.ref x, .int (q_i a0), .int (q_i b0)] f [(15, 3, 15), (19, 0, 9), (23, 0, 4), (27, 0, 7)] (q_Pi (fun (z : Int) (f1 : Nat → va_E) => True)) (fun (E : String) (f1 : Nat → va_E) => (E = "java/lang/IndexOutOfBoundsException" ∧ f = f1) ∨ (E = "java/lang/IllegalArgumentException" ∧ f = f1)) := by
  refine q_xofb (by decide +kernel) hN hT (Nat.le_of_ble_eq_true rfl) ?_
  intro p e s m below meth c ls cx hr hlk htab hX hB hl
  have hl : lv_has ls 3 [(0, .ref x), (1, .int (q_i a0)), (2, .int (q_i b0))] := hl
  obtain ⟨H, hH⟩ : ∃ H : Heap, H = s.heap := ⟨_, rfl⟩
  obtain ⟨locs, hlocs⟩ : ∃ z : List Loc, z = [] := ⟨_, rfl⟩
  rw [← hH, ← hlocs] at hB
  rw [← hH, ← hlocs]
  refine q_ald_n cx dX11_bestWatch_0 rfl (lv_at hl 0 rfl) ?_
  refine q_ild_n cx dX11_bestWatch_1 rfl (lv_at hl 1 rfl) ?_
  refine q_cXV (As := [.int (q_i a0)]) (rest := []) cx hX hB (fun _ h => h) (fun _ h _ => h) hN hx kx (by decide) rfl (x_requireNode l g ad hN hB.2.1 hfl x hx kx a0 (by omega) (by omega) src hsrc ksrc rdr hrdr krdr scr hscr kscr fc hfc kfc hist hhist khist rep hrep krep now hnow know dr hdr kdr sv hsv ksv tr htr ktr hr0 hr1 hr2 hr3 hr4 hr5 hr6 hr7 hr8 hr9) q_cX11_129 q_dX11_requireNode (by decide) rfl rfl hl.1 rfl (Nat.le_of_ble_eq_true rfl) dX11_bestWatch_2 (fun E9 ce9 q9 H locs f31 hex hF hB hcell hcv hcl => ?_) (fun v9 H locs f28 h30 hF hB => ?_)
  · rcases hex with ⟨rfl, rfl⟩
    · exact q_xout hlk htab hB hcell hcv hcl (by decide) (Or.inl ⟨rfl, rfl⟩)
  · obtain ⟨rfl, h30⟩ := h30
    refine W.eq (g2 := F0 m 5 ls []) rfl ?_
    obtain rfl := h30
    refine q_ald_n cx dX11_bestWatch_5 rfl (lv_at hl 0 rfl) ?_
    refine q_ild_n cx dX11_bestWatch_6 rfl (lv_at hl 2 rfl) ?_
    refine q_cXV (As := [.int (q_i b0)]) (rest := []) cx hX hB (fun _ h => h) (fun _ h _ => h) hN hx kx (by decide) rfl (x_requireNode l g ad hN hB.2.1 hfl x hx kx b0 (by omega) (by omega) src hsrc ksrc rdr hrdr krdr scr hscr kscr fc hfc kfc hist hhist khist rep hrep krep now hnow know dr hdr kdr sv hsv ksv tr htr ktr hr0 hr1 hr2 hr3 hr4 hr5 hr6 hr7 hr8 hr9) q_cX11_129 q_dX11_requireNode (by decide) rfl rfl hl.1 rfl (Nat.le_of_ble_eq_true rfl) dX11_bestWatch_7 (fun E9 ce9 q9 H locs f35 hex hF hB hcell hcv hcl => ?_) (fun v9 H locs f32 h34 hF hB => ?_)
    · rcases hex with ⟨rfl, rfl⟩
      · exact q_xout hlk htab hB hcell hcv hcl (by decide) (Or.inl ⟨rfl, rfl⟩)
    · obtain ⟨rfl, h34⟩ := h34
      refine W.eq (g2 := F0 m 10 ls []) rfl ?_
      obtain rfl := h34
      refine q_ald_n cx dX11_bestWatch_10 rfl (lv_at hl 0 rfl) ?_
      refine q_ild_n cx dX11_bestWatch_11 rfl (lv_at hl 1 rfl) ?_
      refine q_ild_n cx dX11_bestWatch_12 rfl (lv_at hl 2 rfl) ?_
      refine q_cXV (As := [.int (q_i a0), .int (q_i b0)]) (rest := []) cx hX hB (fun _ h => h) (fun _ h _ => h) hN hx kx (by decide) rfl (x_requireDifferent l g ad hN hB.2.1 hfl x hx kx a0 (by omega) (by omega) b0 (by omega) (by omega) src hsrc ksrc rdr hrdr krdr scr hscr kscr fc hfc kfc hist hhist khist rep hrep krep now hnow know dr hdr kdr sv hsv ksv tr htr ktr hr0 hr1 hr2 hr3 hr4 hr5 hr6 hr7 hr8 hr9) q_cX11_243 q_dX11_requireDifferent (by decide) rfl rfl hl.1 rfl (Nat.le_of_ble_eq_true rfl) dX11_bestWatch_13 (fun E9 ce9 q9 H locs f39 hex hF hB hcell hcv hcl => ?_) (fun v9 H locs f36 h38 hF hB => ?_)
      · rcases hex with ⟨rfl, rfl⟩
        · exact q_xout hlk htab hB hcell hcv hcl (by decide) (Or.inr ⟨rfl, rfl⟩)
      · obtain ⟨rfl, h38⟩ := h38
        refine W.eq (g2 := F0 m 16 ls []) rfl ?_
        obtain rfl := h38
        refine q_ald_n cx dX11_bestWatch_16 rfl (lv_at hl 0 rfl) ?_
        refine q_gX11_33 cx hB hx kx hr3 dX11_bestWatch_17 (fun hb40 kb40 => ?_)
        refine q_ald_n cx dX11_bestWatch_20 rfl (lv_at hl 0 rfl) ?_
        refine q_gX11_54 cx hB hx kx hr6 dX11_bestWatch_21 (fun hb41 kb41 => ?_)
        refine q_ild_n cx dX11_bestWatch_24 rfl (lv_at hl 1 rfl) ?_
        refine q_ild_n cx dX11_bestWatch_25 rfl (lv_at hl 2 rfl) ?_
        refine q_cVi (As := [.ref now, .int (q_i a0), .int (q_i b0)]) (rest := []) cx hB (fun _ h => h) hN hfc kfc (by decide) rfl (g_X1_dayToWatch l g hN hB.2.1 fc hfc kfc now hnow know a0 (by omega) (by omega) b0 (by omega) (by omega)) q_cX11_264 q_dX1_dayToWatch (by decide) rfl rfl hl.1 rfl (Nat.le_of_ble_eq_true rfl) dX11_bestWatch_26 (fun y43 H locs f42 ry43 h44 hF hB => ?_)
        obtain ⟨ly43, uy43⟩ := h44
        have z45 : q_ir (q_r f42 x 0) src := Eq.trans (hF.r hx (by rw [kx]; rfl)) hr0
        have z46 : q_ir (q_r f42 x 1) rdr := Eq.trans (hF.r hx (by rw [kx]; rfl)) hr1
        have z47 : q_ir (q_r f42 x 2) scr := Eq.trans (hF.r hx (by rw [kx]; rfl)) hr2
        have z48 : q_ir (q_r f42 x 3) fc := Eq.trans (hF.r hx (by rw [kx]; rfl)) hr3
        have z49 : q_ir (q_r f42 x 4) hist := Eq.trans (hF.r hx (by rw [kx]; rfl)) hr4
        have z50 : q_ir (q_r f42 x 5) rep := Eq.trans (hF.r hx (by rw [kx]; rfl)) hr5
        have z51 : q_ir (q_r f42 x 6) now := Eq.trans (hF.r hx (by rw [kx]; rfl)) hr6
        have z52 : q_ir (q_r f42 x 7) dr := Eq.trans (hF.r hx (by rw [kx]; rfl)) hr7
        have z53 : q_ir (q_r f42 x 8) sv := Eq.trans (hF.r hx (by rw [kx]; rfl)) hr8
        have z54 : q_ir (q_r f42 fc 0) tr := Eq.trans (hF.r hfc (by rw [kfc]; rfl)) hr9
        refine W.widen (k := 3) (n := 18) (by decide) (by decide) ?_
        refine vx_ret ?_
        refine q_iret cx hr hlk hB dX11_bestWatch_29 ⟨by omega, by omega⟩ ?_
        trivial
set_option maxHeartbeats 4000000 in
set_option maxRecDepth 100000 in
theorem x_tick (l : Launch) (g : q_G) (ad : Nat → Nat) {K : Nat → Nat} {L : List Nat} (hN : L.Nodup) {f : Nat → va_E} (hT : q_Ty g K L f) (hfl : l.stackTraces = false) (x : Nat) (hx : x ∈ L) (kx : K x = 11) (a0 : Int) (la0 : (-2147483648) ≤ a0) (ua0 : a0 ≤ 2147483647) (src : Nat) (hsrc : src ∈ L) (ksrc : K src = 8) (rdr : Nat) (hrdr : rdr ∈ L) (krdr : K rdr = 9) (scr : Nat) (hscr : scr ∈ L) (kscr : K scr = 7) (fc : Nat) (hfc : fc ∈ L) (kfc : K fc = 1) (hist : Nat) (hhist : hist ∈ L) (khist : K hist = 2) (rep : Nat) (hrep : rep ∈ L) (krep : K rep = 6) (now : Nat) (hnow : now ∈ L) (know : K now = 10) (dr : Nat) (hdr : dr ∈ L) (kdr : K dr = 13) (sv : Nat) (hsv : sv ∈ L) (ksv : K sv = 14) (tr : Nat) (htr : tr ∈ L) (ktr : K tr = 15) (hr0 : q_ir (q_r f x 0) src) (hr1 : q_ir (q_r f x 1) rdr) (hr2 : q_ir (q_r f x 2) scr) (hr3 : q_ir (q_r f x 3) fc) (hr4 : q_ir (q_r f x 4) hist) (hr5 : q_ir (q_r f x 5) rep) (hr6 : q_ir (q_r f x 6) now) (hr7 : q_ir (q_r f x 7) dr) (hr8 : q_ir (q_r f x 8) sv) (hr9 : q_ir (q_r f fc 0) tr) : q_Xt l g ad K L yX11_tick cX11_tick 2 (some .int) 6 125 1 6 [.ref x, .int (q_i a0)] f [(2, 1, 2), (3, 2, 4), (4, 2, 3), (4, 5, 6), (5, 3, 4), (5, 6, 9), (10, 11, 15), (16, 3, 12), (20, 0, 8), (24, 0, 4), (28, 0, 7)] (q_Pi (fun (z : Int) (f1 : Nat → va_E) => True)) (fun (E : String) (f1 : Nat → va_E) => (E = "java/lang/IllegalArgumentException" ∧ f = f1) ∨ (E = "java/lang/IllegalStateException" ∧ f = f1)) := by
  refine q_xofb (by decide +kernel) hN hT (Nat.le_of_ble_eq_true rfl) ?_
  intro p e s m below meth c ls cx hr hlk htab hX hB hl
  have hl : lv_has ls 2 [(0, .ref x), (1, .int (q_i a0))] := hl
  obtain ⟨H, hH⟩ : ∃ H : Heap, H = s.heap := ⟨_, rfl⟩
  obtain ⟨locs, hlocs⟩ : ∃ z : List Loc, z = [] := ⟨_, rfl⟩
  rw [← hH, ← hlocs] at hB
  rw [← hH, ← hlocs]
  refine q_ild_n cx dX11_tick_0 rfl (lv_at hl 1 rfl) ?_
  refine q_cSi (As := [.int (q_i a0)]) (rest := []) cx hB (fun _ h => h) hN (g_X10_isTickCount l g hN hB.2.1 a0 (by omega) (by omega)) q_cX11_267 q_dX10_isTickCount (by decide) rfl rfl hl.1 rfl (Nat.le_of_ble_eq_true rfl) dX11_tick_1 (fun y40 H locs f39 ry40 h41 hF hB => ?_)
  obtain ⟨rfl, ly40, uy40⟩ := h41
  refine q_ifne (tgt := 17) cx ⟨by omega, by omega⟩ dX11_tick_4 (by decide) (fun c42 => ?_) (fun c42 => ?_)
  · refine q_ald_n cx dX11_tick_17 rfl (lv_at hl 0 rfl) ?_
    refine q_gX11_54 cx hB hx kx hr6 dX11_tick_18 (fun hb43 kb43 => ?_)
    refine q_ild_n cx dX11_tick_21 rfl (lv_at hl 1 rfl) ?_
    refine q_cVi (As := [.int (q_i a0)]) (rest := []) cx hB (fun _ h => h) hN hnow know (by decide) rfl (g_X10_hasTimeFor l g hN hB.2.1 now hnow know a0 (by omega) (by omega)) q_cX11_270 q_dX10_hasTimeFor (by decide) rfl rfl hl.1 rfl (Nat.le_of_ble_eq_true rfl) dX11_tick_22 (fun y45 H locs f44 ry45 h46 hF hB => ?_)
    obtain ⟨rfl, ly45, uy45⟩ := h46
    refine q_ifne (tgt := 39) cx ⟨by omega, by omega⟩ dX11_tick_25 (by decide) (fun c47 => ?_) (fun c47 => ?_)
    · refine q_ald_n cx dX11_tick_39 rfl (lv_at hl 0 rfl) ?_
      refine q_gX11_40 cx hB hx kx hr4 dX11_tick_40 (fun hb48 kb48 => ?_)
      refine q_ald_n cx dX11_tick_43 rfl (lv_at hl 0 rfl) ?_
      refine q_gX11_54 cx hB hx kx hr6 dX11_tick_44 (fun hb49 kb49 => ?_)
      refine q_cVv (As := [.ref now]) (rest := []) cx hB (fun _ h => h) hN hhist khist (by decide) rfl (g_X2_keep l g hN hB.2.1 hist hhist khist now hnow know) q_cX11_107 q_dX2_keep (by decide) rfl rfl hl.1 rfl (Nat.le_of_ble_eq_true rfl) dX11_tick_47 (fun H locs f50 h52 hF hB => ?_)
      have z53 : q_ir (q_r f50 x 0) src := Eq.trans (hF.r hx (by rw [kx]; rfl)) hr0
      have z54 : q_ir (q_r f50 x 1) rdr := Eq.trans (hF.r hx (by rw [kx]; rfl)) hr1
      have z55 : q_ir (q_r f50 x 2) scr := Eq.trans (hF.r hx (by rw [kx]; rfl)) hr2
      have z56 : q_ir (q_r f50 x 3) fc := Eq.trans (hF.r hx (by rw [kx]; rfl)) hr3
      have z57 : q_ir (q_r f50 x 4) hist := Eq.trans (hF.r hx (by rw [kx]; rfl)) hr4
      have z58 : q_ir (q_r f50 x 5) rep := Eq.trans (hF.r hx (by rw [kx]; rfl)) hr5
      have z59 : q_ir (q_r f50 x 6) now := Eq.trans (hF.r hx (by rw [kx]; rfl)) hr6
      have z60 : q_ir (q_r f50 x 7) dr := Eq.trans (hF.r hx (by rw [kx]; rfl)) hr7
      have z61 : q_ir (q_r f50 x 8) sv := Eq.trans (hF.r hx (by rw [kx]; rfl)) hr8
      have z62 : q_ir (q_r f50 fc 0) tr := Eq.trans (hF.r hfc (by rw [kfc]; rfl)) hr9
      refine q_ald_n cx dX11_tick_50 rfl (lv_at hl 0 rfl) ?_
      refine q_gX11_54 cx hB hx kx z59 dX11_tick_51 (fun hb63 kb63 => ?_)
      refine q_ild_n cx dX11_tick_54 rfl (lv_at hl 1 rfl) ?_
      refine q_cVi (As := [.int (q_i a0)]) (rest := []) cx hB (fun _ h => h) hN hnow know (by decide) rfl (g_X10_passTicks l g hN hB.2.1 now hnow know a0 (by omega) (by omega)) q_cX11_275 q_dX10_passTicks (by decide) rfl rfl hl.1 rfl (Nat.le_of_ble_eq_true rfl) dX11_tick_55 (fun y65 H locs f64 ry65 h66 hF hB => ?_)
      have z67 : q_ir (q_r f64 x 0) src := Eq.trans (hF.r hx (by rw [kx]; rfl)) z53
      have z68 : q_ir (q_r f64 x 1) rdr := Eq.trans (hF.r hx (by rw [kx]; rfl)) z54
      have z69 : q_ir (q_r f64 x 2) scr := Eq.trans (hF.r hx (by rw [kx]; rfl)) z55
      have z70 : q_ir (q_r f64 x 3) fc := Eq.trans (hF.r hx (by rw [kx]; rfl)) z56
      have z71 : q_ir (q_r f64 x 4) hist := Eq.trans (hF.r hx (by rw [kx]; rfl)) z57
      have z72 : q_ir (q_r f64 x 5) rep := Eq.trans (hF.r hx (by rw [kx]; rfl)) z58
      have z73 : q_ir (q_r f64 x 6) now := Eq.trans (hF.r hx (by rw [kx]; rfl)) z59
      have z74 : q_ir (q_r f64 x 7) dr := Eq.trans (hF.r hx (by rw [kx]; rfl)) z60
      have z75 : q_ir (q_r f64 x 8) sv := Eq.trans (hF.r hx (by rw [kx]; rfl)) z61
      have z76 : q_ir (q_r f64 fc 0) tr := Eq.trans (hF.r hfc (by rw [kfc]; rfl)) z62
      refine W.widen (k := 1) (n := 6) (by decide) (by decide) ?_
      refine vx_ret ?_
      refine q_iret cx hr hlk hB dX11_tick_58 ⟨by omega, by omega⟩ ?_
      trivial
    · exact q_throw (text := "the time would be too late") hfl cx hlk htab hX hB hl.1 (by decide +kernel) q_h801 q_h151 (by decide +kernel) q_xl72a q_xl72b q_xl72c dX11_tick_28 dX11_tick_31 (Or.inr ⟨dX11_tick_32, dX11_tick_35, dX11_tick_38⟩) (by decide) (by decide) (Or.inr ⟨rfl, rfl⟩)
  · exact q_throw (text := "ticks are out of range") hfl cx hlk htab hX hB hl.1 (by decide +kernel) q_h880 q_h152 (by decide +kernel) q_xl87a q_xl87b q_xl87c dX11_tick_7 dX11_tick_10 (Or.inl ⟨dX11_tick_11, dX11_tick_13, dX11_tick_16⟩) (by decide) (by decide) (Or.inl ⟨rfl, rfl⟩)
set_option maxHeartbeats 4000000 in
set_option maxRecDepth 100000 in
theorem x_send (l : Launch) (g : q_G) (ad : Nat → Nat) {K : Nat → Nat} {L : List Nat} (hN : L.Nodup) {f : Nat → va_E} (hT : q_Ty g K L f) (hfl : l.stackTraces = false) (x : Nat) (hx : x ∈ L) (kx : K x = 11) (a0 : Int) (la0 : (-2147483648) ≤ a0) (ua0 : a0 ≤ 2147483647) (b0 : Int) (lb0 : (-2147483648) ≤ b0) (ub0 : b0 ≤ 2147483647) (c0 : Int) (lc0 : (-2147483648) ≤ c0) (uc0 : c0 ≤ 2147483647) (z0 : Int) (lz0 : 0 ≤ z0) (uz0 : z0 ≤ 1) (src : Nat) (hsrc : src ∈ L) (ksrc : K src = 8) (rdr : Nat) (hrdr : rdr ∈ L) (krdr : K rdr = 9) (scr : Nat) (hscr : scr ∈ L) (kscr : K scr = 7) (fc : Nat) (hfc : fc ∈ L) (kfc : K fc = 1) (hist : Nat) (hhist : hist ∈ L) (khist : K hist = 2) (rep : Nat) (hrep : rep ∈ L) (krep : K rep = 6) (now : Nat) (hnow : now ∈ L) (know : K now = 10) (dr : Nat) (hdr : dr ∈ L) (kdr : K dr = 13) (sv : Nat) (hsv : sv ∈ L) (ksv : K sv = 14) (tr : Nat) (htr : tr ∈ L) (ktr : K tr = 15) (hr0 : q_ir (q_r f x 0) src) (hr1 : q_ir (q_r f x 1) rdr) (hr2 : q_ir (q_r f x 2) scr) (hr3 : q_ir (q_r f x 3) fc) (hr4 : q_ir (q_r f x 4) hist) (hr5 : q_ir (q_r f x 5) rep) (hr6 : q_ir (q_r f x 6) now) (hr7 : q_ir (q_r f x 7) dr) (hr8 : q_ir (q_r f x 8) sv) (hr9 : q_ir (q_r f fc 0) tr) : q_Xt l g ad K L yX11_send cX11_send 5 (some .int) 7 103 3 18 [.ref x, .int (q_i a0), .int (q_i b0), .int (q_i c0), .int (q_i z0)] f [(2, 1, 2), (4, 0, 7), (10, 5, 5), (16, 3, 12), (20, 0, 8), (24, 0, 4), (28, 0, 7)] (q_Pi (fun (z : Int) (f1 : Nat → va_E) => True)) (fun (E : String) (f1 : Nat → va_E) => (E = "java/lang/IndexOutOfBoundsException" ∧ f = f1) ∨ (E = "java/lang/IllegalArgumentException" ∧ f = f1) ∨ (E = "java/lang/IllegalStateException" ∧ f = f1)) := by
  refine q_xofb (by decide +kernel) hN hT (Nat.le_of_ble_eq_true rfl) ?_
  intro p e s m below meth c ls cx hr hlk htab hX hB hl
  have hl : lv_has ls 5 [(0, .ref x), (1, .int (q_i a0)), (2, .int (q_i b0)), (3, .int (q_i c0)), (4, .int (q_i z0))] := hl
  obtain ⟨H, hH⟩ : ∃ H : Heap, H = s.heap := ⟨_, rfl⟩
  obtain ⟨locs, hlocs⟩ : ∃ z : List Loc, z = [] := ⟨_, rfl⟩
  rw [← hH, ← hlocs] at hB
  rw [← hH, ← hlocs]
  refine q_ald_n cx dX11_send_0 rfl (lv_at hl 0 rfl) ?_
  refine q_ild_n cx dX11_send_1 rfl (lv_at hl 1 rfl) ?_
  refine q_cXV (As := [.int (q_i a0)]) (rest := []) cx hX hB (fun _ h => h) (fun _ h _ => h) hN hx kx (by decide) rfl (x_requireNode l g ad hN hB.2.1 hfl x hx kx a0 (by omega) (by omega) src hsrc ksrc rdr hrdr krdr scr hscr kscr fc hfc kfc hist hhist khist rep hrep krep now hnow know dr hdr kdr sv hsv ksv tr htr ktr hr0 hr1 hr2 hr3 hr4 hr5 hr6 hr7 hr8 hr9) q_cX11_129 q_dX11_requireNode (by decide) rfl rfl hl.1 rfl (Nat.le_of_ble_eq_true rfl) dX11_send_2 (fun E9 ce9 q9 H locs f50 hex hF hB hcell hcv hcl => ?_) (fun v9 H locs f47 h49 hF hB => ?_)
  · rcases hex with ⟨rfl, rfl⟩
    · exact q_xout hlk htab hB hcell hcv hcl (by decide) (Or.inl ⟨rfl, rfl⟩)
  · obtain ⟨rfl, h49⟩ := h49
    refine W.eq (g2 := F0 m 5 ls []) rfl ?_
    obtain rfl := h49
    refine q_ald_n cx dX11_send_5 rfl (lv_at hl 0 rfl) ?_
    refine q_ild_n cx dX11_send_6 rfl (lv_at hl 2 rfl) ?_
    refine q_cXV (As := [.int (q_i b0)]) (rest := []) cx hX hB (fun _ h => h) (fun _ h _ => h) hN hx kx (by decide) rfl (x_requireNode l g ad hN hB.2.1 hfl x hx kx b0 (by omega) (by omega) src hsrc ksrc rdr hrdr krdr scr hscr kscr fc hfc kfc hist hhist khist rep hrep krep now hnow know dr hdr kdr sv hsv ksv tr htr ktr hr0 hr1 hr2 hr3 hr4 hr5 hr6 hr7 hr8 hr9) q_cX11_129 q_dX11_requireNode (by decide) rfl rfl hl.1 rfl (Nat.le_of_ble_eq_true rfl) dX11_send_7 (fun E9 ce9 q9 H locs f54 hex hF hB hcell hcv hcl => ?_) (fun v9 H locs f51 h53 hF hB => ?_)
    · rcases hex with ⟨rfl, rfl⟩
      · exact q_xout hlk htab hB hcell hcv hcl (by decide) (Or.inl ⟨rfl, rfl⟩)
    · obtain ⟨rfl, h53⟩ := h53
      refine W.eq (g2 := F0 m 10 ls []) rfl ?_
      obtain rfl := h53
      refine q_ild_n cx dX11_send_10 rfl (lv_at hl 1 rfl) ?_
      refine q_ild_n cx dX11_send_11 rfl (lv_at hl 2 rfl) ?_
      refine q_ild_n cx dX11_send_12 rfl (lv_at hl 3 rfl) ?_
      refine q_cSi (As := [.int (q_i a0), .int (q_i b0), .int (q_i c0)]) (rest := []) cx hB (fun _ h => h) hN (g_X10_isSending l g hN hB.2.1 a0 (by omega) (by omega) b0 (by omega) (by omega) c0 (by omega) (by omega)) q_cX11_278 q_dX10_isSending (by decide) rfl rfl hl.1 rfl (Nat.le_of_ble_eq_true rfl) dX11_send_13 (fun y56 H locs f55 ry56 h57 hF hB => ?_)
      obtain ⟨rfl, ly56, uy56⟩ := h57
      refine q_ifne (tgt := 30) cx ⟨by omega, by omega⟩ dX11_send_16 (by decide) (fun c58 => ?_) (fun c58 => ?_)
      · refine q_ald_n cx dX11_send_30 rfl (lv_at hl 0 rfl) ?_
        refine q_gX11_54 cx hB hx kx hr6 dX11_send_31 (fun hb59 kb59 => ?_)
        refine q_ild_n cx dX11_send_34 rfl (lv_at hl 1 rfl) ?_
        refine q_ild_n cx dX11_send_35 rfl (lv_at hl 2 rfl) ?_
        refine q_cVi (As := [.int (q_i a0), .int (q_i b0)]) (rest := []) cx hB (fun _ h => h) hN hnow know (by decide) rfl (g_X10_canSend l g hN hB.2.1 now hnow know a0 (by omega) (by omega) b0 (by omega) (by omega)) q_cX11_284 q_dX10_canSend (by decide) rfl rfl hl.1 rfl (Nat.le_of_ble_eq_true rfl) dX11_send_36 (fun y61 H locs f60 ry61 h62 hF hB => ?_)
        obtain ⟨rfl, ly61, uy61⟩ := h62
        refine q_ifne (tgt := 53) cx ⟨by omega, by omega⟩ dX11_send_39 (by decide) (fun c63 => ?_) (fun c63 => ?_)
        · refine q_ald_n cx dX11_send_53 rfl (lv_at hl 0 rfl) ?_
          refine q_gX11_40 cx hB hx kx hr4 dX11_send_54 (fun hb64 kb64 => ?_)
          refine q_ald_n cx dX11_send_57 rfl (lv_at hl 0 rfl) ?_
          refine q_gX11_54 cx hB hx kx hr6 dX11_send_58 (fun hb65 kb65 => ?_)
          refine q_cVv (As := [.ref now]) (rest := []) cx hB (fun _ h => h) hN hhist khist (by decide) rfl (g_X2_keep l g hN hB.2.1 hist hhist khist now hnow know) q_cX11_107 q_dX2_keep (by decide) rfl rfl hl.1 rfl (Nat.le_of_ble_eq_true rfl) dX11_send_61 (fun H locs f66 h68 hF hB => ?_)
          have z69 : q_ir (q_r f66 x 0) src := Eq.trans (hF.r hx (by rw [kx]; rfl)) hr0
          have z70 : q_ir (q_r f66 x 1) rdr := Eq.trans (hF.r hx (by rw [kx]; rfl)) hr1
          have z71 : q_ir (q_r f66 x 2) scr := Eq.trans (hF.r hx (by rw [kx]; rfl)) hr2
          have z72 : q_ir (q_r f66 x 3) fc := Eq.trans (hF.r hx (by rw [kx]; rfl)) hr3
          have z73 : q_ir (q_r f66 x 4) hist := Eq.trans (hF.r hx (by rw [kx]; rfl)) hr4
          have z74 : q_ir (q_r f66 x 5) rep := Eq.trans (hF.r hx (by rw [kx]; rfl)) hr5
          have z75 : q_ir (q_r f66 x 6) now := Eq.trans (hF.r hx (by rw [kx]; rfl)) hr6
          have z76 : q_ir (q_r f66 x 7) dr := Eq.trans (hF.r hx (by rw [kx]; rfl)) hr7
          have z77 : q_ir (q_r f66 x 8) sv := Eq.trans (hF.r hx (by rw [kx]; rfl)) hr8
          have z78 : q_ir (q_r f66 fc 0) tr := Eq.trans (hF.r hfc (by rw [kfc]; rfl)) hr9
          refine q_ald_n cx dX11_send_64 rfl (lv_at hl 0 rfl) ?_
          refine q_gX11_54 cx hB hx kx z75 dX11_send_65 (fun hb79 kb79 => ?_)
          refine q_ild_n cx dX11_send_68 rfl (lv_at hl 1 rfl) ?_
          refine q_ild_n cx dX11_send_69 rfl (lv_at hl 2 rfl) ?_
          refine q_ild_n cx dX11_send_70 rfl (lv_at hl 3 rfl) ?_
          refine lv_iload cx.1 cx.2.1 dX11_send_71 (lv_at hl 4 rfl) ?_
          refine q_cVi (As := [.int (q_i a0), .int (q_i b0), .int (q_i c0), .int (q_i z0)]) (rest := []) cx hB (fun _ h => h) hN hnow know (by decide) rfl (g_X10_addMessage l g hN hB.2.1 now hnow know a0 (by omega) (by omega) b0 (by omega) (by omega) c0 (by omega) (by omega) z0 (by omega) (by omega)) q_cX11_290 q_dX10_addMessage (by decide) rfl rfl hl.1 rfl (Nat.le_of_ble_eq_true rfl) dX11_send_73 (fun y81 H locs f80 ry81 h82 hF hB => ?_)
          obtain ⟨ly81, uy81⟩ := h82
          have z83 : q_ir (q_r f80 x 0) src := Eq.trans (hF.r hx (by rw [kx]; rfl)) z69
          have z84 : q_ir (q_r f80 x 1) rdr := Eq.trans (hF.r hx (by rw [kx]; rfl)) z70
          have z85 : q_ir (q_r f80 x 2) scr := Eq.trans (hF.r hx (by rw [kx]; rfl)) z71
          have z86 : q_ir (q_r f80 x 3) fc := Eq.trans (hF.r hx (by rw [kx]; rfl)) z72
          have z87 : q_ir (q_r f80 x 4) hist := Eq.trans (hF.r hx (by rw [kx]; rfl)) z73
          have z88 : q_ir (q_r f80 x 5) rep := Eq.trans (hF.r hx (by rw [kx]; rfl)) z74
          have z89 : q_ir (q_r f80 x 6) now := Eq.trans (hF.r hx (by rw [kx]; rfl)) z75
          have z90 : q_ir (q_r f80 x 7) dr := Eq.trans (hF.r hx (by rw [kx]; rfl)) z76
          have z91 : q_ir (q_r f80 x 8) sv := Eq.trans (hF.r hx (by rw [kx]; rfl)) z77
          have z92 : q_ir (q_r f80 fc 0) tr := Eq.trans (hF.r hfc (by rw [kfc]; rfl)) z78
          refine W.widen (k := 3) (n := 18) (by decide) (by decide) ?_
          refine vx_ret ?_
          refine q_iret cx hr hlk hB dX11_send_76 ⟨by omega, by omega⟩ ?_
          trivial
        · exact q_throw (text := "a node is out, or too many messages") hfl cx hlk htab hX hB hl.1 (by decide +kernel) q_h801 q_h151 (by decide +kernel) q_xl72a q_xl72b q_xl72c dX11_send_42 dX11_send_45 (Or.inr ⟨dX11_send_46, dX11_send_49, dX11_send_52⟩) (by decide) (by decide) (Or.inr (Or.inr ⟨rfl, rfl⟩))
      · exact q_throw (text := "the same node, or within is out of range") hfl cx hlk htab hX hB hl.1 (by decide +kernel) q_h880 q_h152 (by decide +kernel) q_xl87a q_xl87b q_xl87c dX11_send_19 dX11_send_22 (Or.inr ⟨dX11_send_23, dX11_send_26, dX11_send_29⟩) (by decide) (by decide) (Or.inr (Or.inl ⟨rfl, rfl⟩))
set_option maxHeartbeats 4000000 in
set_option maxRecDepth 100000 in
theorem x_setShift (l : Launch) (g : q_G) (ad : Nat → Nat) {K : Nat → Nat} {L : List Nat} (hN : L.Nodup) {f : Nat → va_E} (hT : q_Ty g K L f) (hfl : l.stackTraces = false) (x : Nat) (hx : x ∈ L) (kx : K x = 11) (a0 : Int) (la0 : (-2147483648) ≤ a0) (ua0 : a0 ≤ 2147483647) (b0 : Int) (lb0 : (-2147483648) ≤ b0) (ub0 : b0 ≤ 2147483647) (src : Nat) (hsrc : src ∈ L) (ksrc : K src = 8) (rdr : Nat) (hrdr : rdr ∈ L) (krdr : K rdr = 9) (scr : Nat) (hscr : scr ∈ L) (kscr : K scr = 7) (fc : Nat) (hfc : fc ∈ L) (kfc : K fc = 1) (hist : Nat) (hhist : hist ∈ L) (khist : K hist = 2) (rep : Nat) (hrep : rep ∈ L) (krep : K rep = 6) (now : Nat) (hnow : now ∈ L) (know : K now = 10) (dr : Nat) (hdr : dr ∈ L) (kdr : K dr = 13) (sv : Nat) (hsv : sv ∈ L) (ksv : K sv = 14) (tr : Nat) (htr : tr ∈ L) (ktr : K tr = 15) (hr0 : q_ir (q_r f x 0) src) (hr1 : q_ir (q_r f x 1) rdr) (hr2 : q_ir (q_r f x 2) scr) (hr3 : q_ir (q_r f x 3) fc) (hr4 : q_ir (q_r f x 4) hist) (hr5 : q_ir (q_r f x 5) rep) (hr6 : q_ir (q_r f x 6) now) (hr7 : q_ir (q_r f x 7) dr) (hr8 : q_ir (q_r f x 8) sv) (hr9 : q_ir (q_r f fc 0) tr) : q_Xt l g ad K L yX11_setShift cX11_setShift 4 (some .int) 7 103 2 12 [.ref x, .int (q_i a0), .int (q_i b0)] f [(2, 1, 2), (5, 3, 3), (16, 3, 12), (20, 0, 8), (24, 0, 4), (28, 0, 7)] (q_Pi (fun (z : Int) (f1 : Nat → va_E) => True)) (fun (E : String) (f1 : Nat → va_E) => (E = "java/lang/IndexOutOfBoundsException" ∧ f = f1) ∨ (E = "java/lang/IllegalArgumentException" ∧ f = f1)) := by
  refine q_xofb (by decide +kernel) hN hT (Nat.le_of_ble_eq_true rfl) ?_
  intro p e s m below meth c ls cx hr hlk htab hX hB hl
  have hl : lv_has ls 4 [(0, .ref x), (1, .int (q_i a0)), (2, .int (q_i b0))] := hl
  obtain ⟨H, hH⟩ : ∃ H : Heap, H = s.heap := ⟨_, rfl⟩
  obtain ⟨locs, hlocs⟩ : ∃ z : List Loc, z = [] := ⟨_, rfl⟩
  rw [← hH, ← hlocs] at hB
  rw [← hH, ← hlocs]
  refine q_ald_n cx dX11_setShift_0 rfl (lv_at hl 0 rfl) ?_
  refine q_ild_n cx dX11_setShift_1 rfl (lv_at hl 1 rfl) ?_
  refine q_cXV (As := [.int (q_i a0)]) (rest := []) cx hX hB (fun _ h => h) (fun _ h _ => h) hN hx kx (by decide) rfl (x_requireNode l g ad hN hB.2.1 hfl x hx kx a0 (by omega) (by omega) src hsrc ksrc rdr hrdr krdr scr hscr kscr fc hfc kfc hist hhist khist rep hrep krep now hnow know dr hdr kdr sv hsv ksv tr htr ktr hr0 hr1 hr2 hr3 hr4 hr5 hr6 hr7 hr8 hr9) q_cX11_129 q_dX11_requireNode (by decide) rfl rfl hl.1 rfl (Nat.le_of_ble_eq_true rfl) dX11_setShift_2 (fun E9 ce9 q9 H locs f49 hex hF hB hcell hcv hcl => ?_) (fun v9 H locs f46 h48 hF hB => ?_)
  · rcases hex with ⟨rfl, rfl⟩
    · exact q_xout hlk htab hB hcell hcv hcl (by decide) (Or.inl ⟨rfl, rfl⟩)
  · obtain ⟨rfl, h48⟩ := h48
    refine W.eq (g2 := F0 m 5 ls []) rfl ?_
    obtain rfl := h48
    refine q_ald_n cx dX11_setShift_5 rfl (lv_at hl 0 rfl) ?_
    refine q_ild_n cx dX11_setShift_6 rfl (lv_at hl 2 rfl) ?_
    refine q_cXV (As := [.int (q_i b0)]) (rest := []) cx hX hB (fun _ h => h) (fun _ h _ => h) hN hx kx (by decide) rfl (x_requireDay l g ad hN hB.2.1 hfl x hx kx b0 (by omega) (by omega) src hsrc ksrc rdr hrdr krdr scr hscr kscr fc hfc kfc hist hhist khist rep hrep krep now hnow know dr hdr kdr sv hsv ksv tr htr ktr hr0 hr1 hr2 hr3 hr4 hr5 hr6 hr7 hr8 hr9) q_cX11_181 q_dX11_requireDay (by decide) rfl rfl hl.1 rfl (Nat.le_of_ble_eq_true rfl) dX11_setShift_7 (fun E9 ce9 q9 H locs f53 hex hF hB hcell hcv hcl => ?_) (fun v9 H locs f50 h52 hF hB => ?_)
    · rcases hex with ⟨rfl, rfl⟩
      · exact q_xout hlk htab hB hcell hcv hcl (by decide) (Or.inr ⟨rfl, rfl⟩)
    · obtain ⟨rfl, h52⟩ := h52
      refine W.eq (g2 := F0 m 10 ls []) rfl ?_
      obtain rfl := h52
      refine q_ald_n cx dX11_setShift_10 rfl (lv_at hl 0 rfl) ?_
      refine q_gX11_40 cx hB hx kx hr4 dX11_setShift_11 (fun hb54 kb54 => ?_)
      refine q_ald_n cx dX11_setShift_14 rfl (lv_at hl 0 rfl) ?_
      refine q_gX11_54 cx hB hx kx hr6 dX11_setShift_15 (fun hb55 kb55 => ?_)
      refine q_cVv (As := [.ref now]) (rest := []) cx hB (fun _ h => h) hN hhist khist (by decide) rfl (g_X2_keep l g hN hB.2.1 hist hhist khist now hnow know) q_cX11_107 q_dX2_keep (by decide) rfl rfl hl.1 rfl (Nat.le_of_ble_eq_true rfl) dX11_setShift_18 (fun H locs f56 h58 hF hB => ?_)
      have z59 : q_ir (q_r f56 x 0) src := Eq.trans (hF.r hx (by rw [kx]; rfl)) hr0
      have z60 : q_ir (q_r f56 x 1) rdr := Eq.trans (hF.r hx (by rw [kx]; rfl)) hr1
      have z61 : q_ir (q_r f56 x 2) scr := Eq.trans (hF.r hx (by rw [kx]; rfl)) hr2
      have z62 : q_ir (q_r f56 x 3) fc := Eq.trans (hF.r hx (by rw [kx]; rfl)) hr3
      have z63 : q_ir (q_r f56 x 4) hist := Eq.trans (hF.r hx (by rw [kx]; rfl)) hr4
      have z64 : q_ir (q_r f56 x 5) rep := Eq.trans (hF.r hx (by rw [kx]; rfl)) hr5
      have z65 : q_ir (q_r f56 x 6) now := Eq.trans (hF.r hx (by rw [kx]; rfl)) hr6
      have z66 : q_ir (q_r f56 x 7) dr := Eq.trans (hF.r hx (by rw [kx]; rfl)) hr7
      have z67 : q_ir (q_r f56 x 8) sv := Eq.trans (hF.r hx (by rw [kx]; rfl)) hr8
      have z68 : q_ir (q_r f56 fc 0) tr := Eq.trans (hF.r hfc (by rw [kfc]; rfl)) hr9
      refine q_ald_n cx dX11_setShift_21 rfl (lv_at hl 0 rfl) ?_
      refine q_gX11_54 cx hB hx kx z65 dX11_setShift_22 (fun hb69 kb69 => ?_)
      refine q_ild_n cx dX11_setShift_25 rfl (lv_at hl 1 rfl) ?_
      refine q_cVr (As := [.int (q_i a0)]) (rest := []) cx hB (fun _ h => h) hN hnow know (by decide) rfl (g_X10_nodeAt l g hN hB.2.1 now hnow know a0 (by omega) (by omega)) q_cX11_167 q_dX10_nodeAt (by decide) rfl rfl hl.1 rfl (Nat.le_of_ble_eq_true rfl) dX11_setShift_26 (fun y71 H locs f70 h72 hF hB => ?_)
      obtain ⟨rfl, hy71, ky71⟩ := h72
      obtain ⟨x73, ex73⟩ : ∃ zz, q_is (q_z f56 y71 3) zz := ⟨_, q_isr _⟩
      refine q_gX11_210 cx hB hy71 ky71 ex73 dX11_setShift_29 (fun lb74 ub74 => ?_)
      refine lv_istore_n (lv' := [(3, .int (q_i x73)), (0, .ref x), (1, .int (q_i a0)), (2, .int (q_i b0))]) cx.1 cx.2.1 dX11_setShift_32 rfl hl (by decide) rfl (fun ls hl => ?_)
      refine q_ald_n cx dX11_setShift_33 rfl (lv_at hl 1 rfl) ?_
      refine q_gX11_54 cx hB hx kx z65 dX11_setShift_34 (fun hb75 kb75 => ?_)
      refine q_ild_n cx dX11_setShift_37 rfl (lv_at hl 2 rfl) ?_
      refine q_cVr (As := [.int (q_i a0)]) (rest := []) cx hB (fun _ h => h) hN hnow know (by decide) rfl (g_X10_nodeAt l g hN hB.2.1 now hnow know a0 (by omega) (by omega)) q_cX11_167 q_dX10_nodeAt (by decide) rfl rfl hl.1 rfl (Nat.le_of_ble_eq_true rfl) dX11_setShift_38 (fun y77 H locs f76 h78 hF hB => ?_)
      obtain ⟨rfl, hy77, ky77⟩ := h78
      refine q_ild_n cx dX11_setShift_41 rfl (lv_at hl 3 rfl) ?_
      refine q_pX11_210 cx hB hy77 ky77 ⟨by omega, by omega⟩ (by omega) (by omega) rfl dX11_setShift_42 (fun H locs f79 ef79 z80 hB => ?_)
      have z81 : q_ir (q_r f79 x 0) src := by rw [ef79, q_setr (Or.inr (by decide))]; exact z59
      have z82 : q_ir (q_r f79 x 1) rdr := by rw [ef79, q_setr (Or.inr (by decide))]; exact z60
      have z83 : q_ir (q_r f79 x 2) scr := by rw [ef79, q_setr (Or.inr (by decide))]; exact z61
      have z84 : q_ir (q_r f79 x 3) fc := by rw [ef79, q_setr (Or.inl (fun q => by rw [q, ky77] at kx; exact absurd kx (by decide)))]; exact z62
      have z85 : q_ir (q_r f79 x 4) hist := by rw [ef79, q_setr (Or.inr (by decide))]; exact z63
      have z86 : q_ir (q_r f79 x 5) rep := by rw [ef79, q_setr (Or.inr (by decide))]; exact z64
      have z87 : q_ir (q_r f79 x 6) now := by rw [ef79, q_setr (Or.inr (by decide))]; exact z65
      have z88 : q_ir (q_r f79 x 7) dr := by rw [ef79, q_setr (Or.inr (by decide))]; exact z66
      have z89 : q_ir (q_r f79 x 8) sv := by rw [ef79, q_setr (Or.inr (by decide))]; exact z67
      have z90 : q_ir (q_r f79 fc 0) tr := by rw [ef79, q_setr (Or.inr (by decide))]; exact z68
      refine q_ild_n cx dX11_setShift_45 rfl (lv_at hl 0 rfl) ?_
      refine W.widen (k := 2) (n := 12) (by decide) (by decide) ?_
      refine vx_ret ?_
      refine q_iret cx hr hlk hB dX11_setShift_46 ⟨by omega, by omega⟩ ?_
      trivial
