set_option maxHeartbeats 4000000 in
set_option maxRecDepth 100000 in
theorem x_watch (l : Launch) (g : q_G) (ad : Nat → Nat) {K : Nat → Nat} {L : List Nat} (hN : L.Nodup) {f : Nat → va_E} (hT : q_Ty g K L f) (hfl : l.stackTraces = false) (x : Nat) (hx : x ∈ L) (kx : K x = 11) (a0 : Int) (la0 : (-2147483648) ≤ a0) (ua0 : a0 ≤ 2147483647) (b0 : Int) (lb0 : (-2147483648) ≤ b0) (ub0 : b0 ≤ 2147483647) (z0 : Int) (lz0 : 0 ≤ z0) (uz0 : z0 ≤ 1) (src : Nat) (hsrc : src ∈ L) (ksrc : K src = 8) (rdr : Nat) (hrdr : rdr ∈ L) (krdr : K rdr = 9) (scr : Nat) (hscr : scr ∈ L) (kscr : K scr = 7) (fc : Nat) (hfc : fc ∈ L) (kfc : K fc = 1) (hist : Nat) (hhist : hist ∈ L) (khist : K hist = 2) (rep : Nat) (hrep : rep ∈ L) (krep : K rep = 6) (now : Nat) (hnow : now ∈ L) (know : K now = 10) (dr : Nat) (hdr : dr ∈ L) (kdr : K dr = 13) (sv : Nat) (hsv : sv ∈ L) (ksv : K sv = 14) (tr : Nat) (htr : tr ∈ L) (ktr : K tr = 15) (hr0 : q_ir (q_r f x 0) src) (hr1 : q_ir (q_r f x 1) rdr) (hr2 : q_ir (q_r f x 2) scr) (hr3 : q_ir (q_r f x 3) fc) (hr4 : q_ir (q_r f x 4) hist) (hr5 : q_ir (q_r f x 5) rep) (hr6 : q_ir (q_r f x 6) now) (hr7 : q_ir (q_r f x 7) dr) (hr8 : q_ir (q_r f x 8) sv) (hr9 : q_ir (q_r f fc 0) tr) : q_Xt l g ad K L yX11_watch cX11_watch 4 (some .boolean) 7 103 2 12 [.ref x, .int (q_i a0), .int (q_i b0), .int (q_i z0)] f [(2, 1, 2), (5, 1, 1), (16, 3, 12), (20, 0, 8), (24, 0, 4), (28, 0, 7)] (q_Pi (fun (z : Int) (f1 : Nat → va_E) => 0 ≤ z ∧ z ≤ 1)) (fun (E : String) (f1 : Nat → va_E) => (E = "java/lang/IndexOutOfBoundsException" ∧ f = f1) ∨ (E = "java/lang/IllegalArgumentException" ∧ f = f1)) := by
  refine q_xofb (by decide +kernel) hN hT (Nat.le_of_ble_eq_true rfl) ?_
  intro p e s m below meth c ls cx hr hlk htab hX hB hl
  have hl : lv_has ls 4 [(0, .ref x), (1, .int (q_i a0)), (2, .int (q_i b0)), (3, .int (q_i z0))] := hl
  obtain ⟨H, hH⟩ : ∃ H : Heap, H = s.heap := ⟨_, rfl⟩
  obtain ⟨locs, hlocs⟩ : ∃ z : List Loc, z = [] := ⟨_, rfl⟩
  rw [← hH, ← hlocs] at hB
  rw [← hH, ← hlocs]
  refine q_ald_n cx dX11_watch_0 rfl (lv_at hl 0 rfl) ?_
  refine q_ild_n cx dX11_watch_1 rfl (lv_at hl 1 rfl) ?_
  refine q_cXV (As := [.int (q_i a0)]) (rest := []) cx hX hB (fun _ h => h) (fun _ h _ => h) hN hx kx (by decide) rfl (x_requireNode l g ad hN hB.2.1 hfl x hx kx a0 (by omega) (by omega) src hsrc ksrc rdr hrdr krdr scr hscr kscr fc hfc kfc hist hhist khist rep hrep krep now hnow know dr hdr kdr sv hsv ksv tr htr ktr hr0 hr1 hr2 hr3 hr4 hr5 hr6 hr7 hr8 hr9) q_cX11_129 q_dX11_requireNode (by decide) rfl rfl hl.1 rfl (Nat.le_of_ble_eq_true rfl) dX11_watch_2 (fun E9 ce9 q9 H locs f46 hex hF hB hcell hcv hcl => ?_) (fun v9 H locs f43 h45 hF hB => ?_)
  · rcases hex with ⟨rfl, rfl⟩
    · exact q_xout hlk htab hB hcell hcv hcl (by decide) (Or.inl ⟨rfl, rfl⟩)
  · obtain ⟨rfl, h45⟩ := h45
    refine W.eq (g2 := F0 m 5 ls []) rfl ?_
    obtain rfl := h45
    refine q_ald_n cx dX11_watch_5 rfl (lv_at hl 0 rfl) ?_
    refine q_ild_n cx dX11_watch_6 rfl (lv_at hl 2 rfl) ?_
    refine q_cXV (As := [.int (q_i b0)]) (rest := []) cx hX hB (fun _ h => h) (fun _ h _ => h) hN hx kx (by decide) rfl (x_requireDay l g ad hN hB.2.1 hfl x hx kx b0 (by omega) (by omega) src hsrc ksrc rdr hrdr krdr scr hscr kscr fc hfc kfc hist hhist khist rep hrep krep now hnow know dr hdr kdr sv hsv ksv tr htr ktr hr0 hr1 hr2 hr3 hr4 hr5 hr6 hr7 hr8 hr9) q_cX11_181 q_dX11_requireDay (by decide) rfl rfl hl.1 rfl (Nat.le_of_ble_eq_true rfl) dX11_watch_7 (fun E9 ce9 q9 H locs f50 hex hF hB hcell hcv hcl => ?_) (fun v9 H locs f47 h49 hF hB => ?_)
    · rcases hex with ⟨rfl, rfl⟩
      · exact q_xout hlk htab hB hcell hcv hcl (by decide) (Or.inr ⟨rfl, rfl⟩)
    · obtain ⟨rfl, h49⟩ := h49
      refine W.eq (g2 := F0 m 10 ls []) rfl ?_
      obtain rfl := h49
      refine q_ald_n cx dX11_watch_10 rfl (lv_at hl 0 rfl) ?_
      refine q_gX11_54 cx hB hx kx hr6 dX11_watch_11 (fun hb51 kb51 => ?_)
      refine q_ild_n cx dX11_watch_14 rfl (lv_at hl 1 rfl) ?_
      refine q_ild_n cx dX11_watch_15 rfl (lv_at hl 2 rfl) ?_
      refine q_cVi (As := [.int (q_i a0), .int (q_i b0)]) (rest := []) cx hB (fun _ h => h) hN hnow know (by decide) rfl (g_X10_isWatched l g hN hB.2.1 now hnow know a0 (by omega) (by omega) b0 (by omega) (by omega)) q_cX11_294 q_dX10_isWatched (by decide) rfl rfl hl.1 rfl (Nat.le_of_ble_eq_true rfl) dX11_watch_16 (fun y53 H locs f52 ry53 h54 hF hB => ?_)
      obtain ⟨rfl, ly53, uy53⟩ := h54
      refine q_ild_n cx dX11_watch_19 rfl (lv_at hl 3 rfl) ?_
      refine q_icne (tgt := 25) cx ⟨by omega, by omega⟩ ⟨by omega, by omega⟩ dX11_watch_20 (by decide) (fun c55 => ?_) (fun c55 => ?_)
      · refine q_ald_n cx dX11_watch_25 rfl (lv_at hl 0 rfl) ?_
        refine q_gX11_40 cx hB hx kx hr4 dX11_watch_26 (fun hb56 kb56 => ?_)
        refine q_ald_n cx dX11_watch_29 rfl (lv_at hl 0 rfl) ?_
        refine q_gX11_54 cx hB hx kx hr6 dX11_watch_30 (fun hb57 kb57 => ?_)
        refine q_cVv (As := [.ref now]) (rest := []) cx hB (fun _ h => h) hN hhist khist (by decide) rfl (g_X2_keep l g hN hB.2.1 hist hhist khist now hnow know) q_cX11_107 q_dX2_keep (by decide) rfl rfl hl.1 rfl (Nat.le_of_ble_eq_true rfl) dX11_watch_33 (fun H locs f58 h60 hF hB => ?_)
        have z61 : q_ir (q_r f58 x 0) src := Eq.trans (hF.r hx (by rw [kx]; rfl)) hr0
        have z62 : q_ir (q_r f58 x 1) rdr := Eq.trans (hF.r hx (by rw [kx]; rfl)) hr1
        have z63 : q_ir (q_r f58 x 2) scr := Eq.trans (hF.r hx (by rw [kx]; rfl)) hr2
        have z64 : q_ir (q_r f58 x 3) fc := Eq.trans (hF.r hx (by rw [kx]; rfl)) hr3
        have z65 : q_ir (q_r f58 x 4) hist := Eq.trans (hF.r hx (by rw [kx]; rfl)) hr4
        have z66 : q_ir (q_r f58 x 5) rep := Eq.trans (hF.r hx (by rw [kx]; rfl)) hr5
        have z67 : q_ir (q_r f58 x 6) now := Eq.trans (hF.r hx (by rw [kx]; rfl)) hr6
        have z68 : q_ir (q_r f58 x 7) dr := Eq.trans (hF.r hx (by rw [kx]; rfl)) hr7
        have z69 : q_ir (q_r f58 x 8) sv := Eq.trans (hF.r hx (by rw [kx]; rfl)) hr8
        have z70 : q_ir (q_r f58 fc 0) tr := Eq.trans (hF.r hfc (by rw [kfc]; rfl)) hr9
        refine q_ald_n cx dX11_watch_36 rfl (lv_at hl 0 rfl) ?_
        refine q_gX11_54 cx hB hx kx z67 dX11_watch_37 (fun hb71 kb71 => ?_)
        refine q_ild_n cx dX11_watch_40 rfl (lv_at hl 1 rfl) ?_
        refine q_ild_n cx dX11_watch_41 rfl (lv_at hl 2 rfl) ?_
        refine q_cVv (As := [.int (q_i a0), .int (q_i b0)]) (rest := []) cx hB (fun _ h => h) hN hnow know (by decide) rfl (g_X10_turnWatch l g hN hB.2.1 now hnow know a0 (by omega) (by omega) b0 (by omega) (by omega)) q_cX11_297 q_dX10_turnWatch (by decide) rfl rfl hl.1 rfl (Nat.le_of_ble_eq_true rfl) dX11_watch_42 (fun H locs f72 h74 hF hB => ?_)
        have z75 : q_ir (q_r f72 x 0) src := Eq.trans (hF.r hx (by rw [kx]; rfl)) z61
        have z76 : q_ir (q_r f72 x 1) rdr := Eq.trans (hF.r hx (by rw [kx]; rfl)) z62
        have z77 : q_ir (q_r f72 x 2) scr := Eq.trans (hF.r hx (by rw [kx]; rfl)) z63
        have z78 : q_ir (q_r f72 x 3) fc := Eq.trans (hF.r hx (by rw [kx]; rfl)) z64
        have z79 : q_ir (q_r f72 x 4) hist := Eq.trans (hF.r hx (by rw [kx]; rfl)) z65
        have z80 : q_ir (q_r f72 x 5) rep := Eq.trans (hF.r hx (by rw [kx]; rfl)) z66
        have z81 : q_ir (q_r f72 x 6) now := Eq.trans (hF.r hx (by rw [kx]; rfl)) z67
        have z82 : q_ir (q_r f72 x 7) dr := Eq.trans (hF.r hx (by rw [kx]; rfl)) z68
        have z83 : q_ir (q_r f72 x 8) sv := Eq.trans (hF.r hx (by rw [kx]; rfl)) z69
        have z84 : q_ir (q_r f72 fc 0) tr := Eq.trans (hF.r hfc (by rw [kfc]; rfl)) z70
        refine q_iconst cx dX11_watch_45 ?_
        refine W.widen (k := 2) (n := 12) (by decide) (by decide) ?_
        refine vx_ret ?_
        refine q_zret cx hr hlk hB dX11_watch_46 (by decide) (by decide) ?_
        exact ⟨(by decide), (by decide)⟩
      · refine q_iconst cx dX11_watch_23 ?_
        refine W.widen (k := 2) (n := 12) (by decide) (by decide) ?_
        refine vx_ret ?_
        refine q_zret cx hr hlk hB dX11_watch_24 (by decide) (by decide) ?_
        exact ⟨(by decide), (by decide)⟩
set_option maxHeartbeats 4000000 in
set_option maxRecDepth 100000 in
theorem x_setBorn (l : Launch) (g : q_G) (ad : Nat → Nat) {K : Nat → Nat} {L : List Nat} (hN : L.Nodup) {f : Nat → va_E} (hT : q_Ty g K L f) (hfl : l.stackTraces = false) (x : Nat) (hx : x ∈ L) (kx : K x = 11) (a0 : Int) (la0 : (-2147483648) ≤ a0) (ua0 : a0 ≤ 2147483647) (b0 : Int) (lb0 : (-2147483648) ≤ b0) (ub0 : b0 ≤ 2147483647) (src : Nat) (hsrc : src ∈ L) (ksrc : K src = 8) (rdr : Nat) (hrdr : rdr ∈ L) (krdr : K rdr = 9) (scr : Nat) (hscr : scr ∈ L) (kscr : K scr = 7) (fc : Nat) (hfc : fc ∈ L) (kfc : K fc = 1) (hist : Nat) (hhist : hist ∈ L) (khist : K hist = 2) (rep : Nat) (hrep : rep ∈ L) (krep : K rep = 6) (now : Nat) (hnow : now ∈ L) (know : K now = 10) (dr : Nat) (hdr : dr ∈ L) (kdr : K dr = 13) (sv : Nat) (hsv : sv ∈ L) (ksv : K sv = 14) (tr : Nat) (htr : tr ∈ L) (ktr : K tr = 15) (hr0 : q_ir (q_r f x 0) src) (hr1 : q_ir (q_r f x 1) rdr) (hr2 : q_ir (q_r f x 2) scr) (hr3 : q_ir (q_r f x 3) fc) (hr4 : q_ir (q_r f x 4) hist) (hr5 : q_ir (q_r f x 5) rep) (hr6 : q_ir (q_r f x 6) now) (hr7 : q_ir (q_r f x 7) dr) (hr8 : q_ir (q_r f x 8) sv) (hr9 : q_ir (q_r f fc 0) tr) : q_Xt l g ad K L yX11_setBorn cX11_setBorn 4 (some .int) 7 103 2 12 [.ref x, .int (q_i a0), .int (q_i b0)] f [(2, 1, 2), (5, 2, 2), (16, 3, 12), (20, 0, 8), (24, 0, 4), (28, 0, 7)] (q_Pi (fun (z : Int) (f1 : Nat → va_E) => True)) (fun (E : String) (f1 : Nat → va_E) => (E = "java/lang/IndexOutOfBoundsException" ∧ f = f1) ∨ (E = "java/lang/IllegalArgumentException" ∧ f = f1)) := by
  refine q_xofb (by decide +kernel) hN hT (Nat.le_of_ble_eq_true rfl) ?_
  intro p e s m below meth c ls cx hr hlk htab hX hB hl
  have hl : lv_has ls 4 [(0, .ref x), (1, .int (q_i a0)), (2, .int (q_i b0))] := hl
  obtain ⟨H, hH⟩ : ∃ H : Heap, H = s.heap := ⟨_, rfl⟩
  obtain ⟨locs, hlocs⟩ : ∃ z : List Loc, z = [] := ⟨_, rfl⟩
  rw [← hH, ← hlocs] at hB
  rw [← hH, ← hlocs]
  refine q_ald_n cx dX11_setBorn_0 rfl (lv_at hl 0 rfl) ?_
  refine q_ild_n cx dX11_setBorn_1 rfl (lv_at hl 1 rfl) ?_
  refine q_cXV (As := [.int (q_i a0)]) (rest := []) cx hX hB (fun _ h => h) (fun _ h _ => h) hN hx kx (by decide) rfl (x_requireNode l g ad hN hB.2.1 hfl x hx kx a0 (by omega) (by omega) src hsrc ksrc rdr hrdr krdr scr hscr kscr fc hfc kfc hist hhist khist rep hrep krep now hnow know dr hdr kdr sv hsv ksv tr htr ktr hr0 hr1 hr2 hr3 hr4 hr5 hr6 hr7 hr8 hr9) q_cX11_129 q_dX11_requireNode (by decide) rfl rfl hl.1 rfl (Nat.le_of_ble_eq_true rfl) dX11_setBorn_2 (fun E9 ce9 q9 H locs f49 hex hF hB hcell hcv hcl => ?_) (fun v9 H locs f46 h48 hF hB => ?_)
  · rcases hex with ⟨rfl, rfl⟩
    · exact q_xout hlk htab hB hcell hcv hcl (by decide) (Or.inl ⟨rfl, rfl⟩)
  · obtain ⟨rfl, h48⟩ := h48
    refine W.eq (g2 := F0 m 5 ls []) rfl ?_
    obtain rfl := h48
    refine q_ald_n cx dX11_setBorn_5 rfl (lv_at hl 0 rfl) ?_
    refine q_ild_n cx dX11_setBorn_6 rfl (lv_at hl 2 rfl) ?_
    refine q_cXV (As := [.int (q_i b0)]) (rest := []) cx hX hB (fun _ h => h) (fun _ h _ => h) hN hx kx (by decide) rfl (x_requireDay l g ad hN hB.2.1 hfl x hx kx b0 (by omega) (by omega) src hsrc ksrc rdr hrdr krdr scr hscr kscr fc hfc kfc hist hhist khist rep hrep krep now hnow know dr hdr kdr sv hsv ksv tr htr ktr hr0 hr1 hr2 hr3 hr4 hr5 hr6 hr7 hr8 hr9) q_cX11_181 q_dX11_requireDay (by decide) rfl rfl hl.1 rfl (Nat.le_of_ble_eq_true rfl) dX11_setBorn_7 (fun E9 ce9 q9 H locs f53 hex hF hB hcell hcv hcl => ?_) (fun v9 H locs f50 h52 hF hB => ?_)
    · rcases hex with ⟨rfl, rfl⟩
      · exact q_xout hlk htab hB hcell hcv hcl (by decide) (Or.inr ⟨rfl, rfl⟩)
    · obtain ⟨rfl, h52⟩ := h52
      refine W.eq (g2 := F0 m 10 ls []) rfl ?_
      obtain rfl := h52
      refine q_ald_n cx dX11_setBorn_10 rfl (lv_at hl 0 rfl) ?_
      refine q_gX11_40 cx hB hx kx hr4 dX11_setBorn_11 (fun hb54 kb54 => ?_)
      refine q_ald_n cx dX11_setBorn_14 rfl (lv_at hl 0 rfl) ?_
      refine q_gX11_54 cx hB hx kx hr6 dX11_setBorn_15 (fun hb55 kb55 => ?_)
      refine q_cVv (As := [.ref now]) (rest := []) cx hB (fun _ h => h) hN hhist khist (by decide) rfl (g_X2_keep l g hN hB.2.1 hist hhist khist now hnow know) q_cX11_107 q_dX2_keep (by decide) rfl rfl hl.1 rfl (Nat.le_of_ble_eq_true rfl) dX11_setBorn_18 (fun H locs f56 h58 hF hB => ?_)
      have z59 : q_ir (q_r f56 x 0) src := Eq.trans (hF.r hx (by rw [kx]; rfl)) hr0
      have z60 : q_ir (q_r f56 x 1) rdr := Eq.trans (hF.r hx (by rw [kx]; rfl)) hr1
      have z61 : q_ir (q_r f56 x 2) scr := Eq.trans (hF.r hx (by rw [kx]; rfl)) hr2
      have z62 : q_ir (q_r f56 x 3) fc := Eq.trans (hF.r hx (by rw [kx]; rfl)) hr3
      have z63 : q_ir (q_r f56 x 4) hist := Eq.trans (hF.r hx (by rw [kx]; rfl)) hr4
      have z64 : q_ir (q_r f56 x 5) rep := Eq.trans (hF.r hx (by rw [kx]; rfl)) hr5
      have z65 : q_ir (q_r f56 x 6) now := Eq.trans (hF.r hx (by rw [kx]; rfl)) hr6
      have z66 : q_ir (q_r f56 x 7) dr := Eq.trans (hF.r hx (by rw [kx]; rfl)) hr7
      have z67 : q_ir (q_r f56 x 8) sv := Eq.trans (hF.r hx (by rw [kx]; rfl)) hr8
      have z68 : q_ir (q_r f56 fc 0) tr := Eq.trans (hF.r hfc (by rw [kfc]; rfl)) hr9
      refine q_ald_n cx dX11_setBorn_21 rfl (lv_at hl 0 rfl) ?_
      refine q_gX11_54 cx hB hx kx z65 dX11_setBorn_22 (fun hb69 kb69 => ?_)
      refine q_ild_n cx dX11_setBorn_25 rfl (lv_at hl 1 rfl) ?_
      refine q_cVr (As := [.int (q_i a0)]) (rest := []) cx hB (fun _ h => h) hN hnow know (by decide) rfl (g_X10_nodeAt l g hN hB.2.1 now hnow know a0 (by omega) (by omega)) q_cX11_167 q_dX10_nodeAt (by decide) rfl rfl hl.1 rfl (Nat.le_of_ble_eq_true rfl) dX11_setBorn_26 (fun y71 H locs f70 h72 hF hB => ?_)
      obtain ⟨rfl, hy71, ky71⟩ := h72
      obtain ⟨x73, ex73⟩ : ∃ zz, q_is (q_z f56 y71 2) zz := ⟨_, q_isr _⟩
      refine q_gX11_300 cx hB hy71 ky71 ex73 dX11_setBorn_29 (fun lb74 ub74 => ?_)
      refine lv_istore_n (lv' := [(3, .int (q_i x73)), (0, .ref x), (1, .int (q_i a0)), (2, .int (q_i b0))]) cx.1 cx.2.1 dX11_setBorn_32 rfl hl (by decide) rfl (fun ls hl => ?_)
      refine q_ald_n cx dX11_setBorn_33 rfl (lv_at hl 1 rfl) ?_
      refine q_gX11_54 cx hB hx kx z65 dX11_setBorn_34 (fun hb75 kb75 => ?_)
      refine q_ild_n cx dX11_setBorn_37 rfl (lv_at hl 2 rfl) ?_
      refine q_cVr (As := [.int (q_i a0)]) (rest := []) cx hB (fun _ h => h) hN hnow know (by decide) rfl (g_X10_nodeAt l g hN hB.2.1 now hnow know a0 (by omega) (by omega)) q_cX11_167 q_dX10_nodeAt (by decide) rfl rfl hl.1 rfl (Nat.le_of_ble_eq_true rfl) dX11_setBorn_38 (fun y77 H locs f76 h78 hF hB => ?_)
      obtain ⟨rfl, hy77, ky77⟩ := h78
      refine q_ild_n cx dX11_setBorn_41 rfl (lv_at hl 3 rfl) ?_
      refine q_pX11_300 cx hB hy77 ky77 ⟨by omega, by omega⟩ (by omega) (by omega) rfl dX11_setBorn_42 (fun H locs f79 ef79 z80 hB => ?_)
      have z81 : q_ir (q_r f79 x 0) src := by rw [ef79, q_setr (Or.inr (by decide))]; exact z59
      have z82 : q_ir (q_r f79 x 1) rdr := by rw [ef79, q_setr (Or.inr (by decide))]; exact z60
      have z83 : q_ir (q_r f79 x 2) scr := by rw [ef79, q_setr (Or.inl (fun q => by rw [q, ky77] at kx; exact absurd kx (by decide)))]; exact z61
      have z84 : q_ir (q_r f79 x 3) fc := by rw [ef79, q_setr (Or.inr (by decide))]; exact z62
      have z85 : q_ir (q_r f79 x 4) hist := by rw [ef79, q_setr (Or.inr (by decide))]; exact z63
      have z86 : q_ir (q_r f79 x 5) rep := by rw [ef79, q_setr (Or.inr (by decide))]; exact z64
      have z87 : q_ir (q_r f79 x 6) now := by rw [ef79, q_setr (Or.inr (by decide))]; exact z65
      have z88 : q_ir (q_r f79 x 7) dr := by rw [ef79, q_setr (Or.inr (by decide))]; exact z66
      have z89 : q_ir (q_r f79 x 8) sv := by rw [ef79, q_setr (Or.inr (by decide))]; exact z67
      have z90 : q_ir (q_r f79 fc 0) tr := by rw [ef79, q_setr (Or.inr (by decide))]; exact z68
      refine q_ild_n cx dX11_setBorn_45 rfl (lv_at hl 0 rfl) ?_
      refine W.widen (k := 2) (n := 12) (by decide) (by decide) ?_
      refine vx_ret ?_
      refine q_iret cx hr hlk hB dX11_setBorn_46 ⟨by omega, by omega⟩ ?_
      trivial
set_option maxHeartbeats 4000000 in
set_option maxRecDepth 100000 in
theorem x_charge (l : Launch) (g : q_G) (ad : Nat → Nat) {K : Nat → Nat} {L : List Nat} (hN : L.Nodup) {f : Nat → va_E} (hT : q_Ty g K L f) (hfl : l.stackTraces = false) (x : Nat) (hx : x ∈ L) (kx : K x = 11) (a0 : Int) (la0 : (-2147483648) ≤ a0) (ua0 : a0 ≤ 2147483647) (b0 : Int) (lb0 : (-2147483648) ≤ b0) (ub0 : b0 ≤ 2147483647) (src : Nat) (hsrc : src ∈ L) (ksrc : K src = 8) (rdr : Nat) (hrdr : rdr ∈ L) (krdr : K rdr = 9) (scr : Nat) (hscr : scr ∈ L) (kscr : K scr = 7) (fc : Nat) (hfc : fc ∈ L) (kfc : K fc = 1) (hist : Nat) (hhist : hist ∈ L) (khist : K hist = 2) (rep : Nat) (hrep : rep ∈ L) (krep : K rep = 6) (now : Nat) (hnow : now ∈ L) (know : K now = 10) (dr : Nat) (hdr : dr ∈ L) (kdr : K dr = 13) (sv : Nat) (hsv : sv ∈ L) (ksv : K sv = 14) (tr : Nat) (htr : tr ∈ L) (ktr : K tr = 15) (hr0 : q_ir (q_r f x 0) src) (hr1 : q_ir (q_r f x 1) rdr) (hr2 : q_ir (q_r f x 2) scr) (hr3 : q_ir (q_r f x 3) fc) (hr4 : q_ir (q_r f x 4) hist) (hr5 : q_ir (q_r f x 5) rep) (hr6 : q_ir (q_r f x 6) now) (hr7 : q_ir (q_r f x 7) dr) (hr8 : q_ir (q_r f x 8) sv) (hr9 : q_ir (q_r f fc 0) tr) : q_Xt l g ad K L yX11_charge cX11_charge 3 (some .int) 7 103 2 12 [.ref x, .int (q_i a0), .int (q_i b0)] f [(2, 1, 2), (5, 4, 4), (16, 3, 12), (20, 0, 8), (24, 0, 4), (28, 0, 7)] (q_Pi (fun (z : Int) (f1 : Nat → va_E) => True)) (fun (E : String) (f1 : Nat → va_E) => (E = "java/lang/IndexOutOfBoundsException" ∧ f = f1) ∨ (E = "java/lang/IllegalArgumentException" ∧ f = f1)) := by
  refine q_xofb (by decide +kernel) hN hT (Nat.le_of_ble_eq_true rfl) ?_
  intro p e s m below meth c ls cx hr hlk htab hX hB hl
  have hl : lv_has ls 3 [(0, .ref x), (1, .int (q_i a0)), (2, .int (q_i b0))] := hl
  obtain ⟨H, hH⟩ : ∃ H : Heap, H = s.heap := ⟨_, rfl⟩
  obtain ⟨locs, hlocs⟩ : ∃ z : List Loc, z = [] := ⟨_, rfl⟩
  rw [← hH, ← hlocs] at hB
  rw [← hH, ← hlocs]
  refine q_ald_n cx dX11_charge_0 rfl (lv_at hl 0 rfl) ?_
  refine q_ild_n cx dX11_charge_1 rfl (lv_at hl 1 rfl) ?_
  refine q_cXV (As := [.int (q_i a0)]) (rest := []) cx hX hB (fun _ h => h) (fun _ h _ => h) hN hx kx (by decide) rfl (x_requireNode l g ad hN hB.2.1 hfl x hx kx a0 (by omega) (by omega) src hsrc ksrc rdr hrdr krdr scr hscr kscr fc hfc kfc hist hhist khist rep hrep krep now hnow know dr hdr kdr sv hsv ksv tr htr ktr hr0 hr1 hr2 hr3 hr4 hr5 hr6 hr7 hr8 hr9) q_cX11_129 q_dX11_requireNode (by decide) rfl rfl hl.1 rfl (Nat.le_of_ble_eq_true rfl) dX11_charge_2 (fun E9 ce9 q9 H locs f41 hex hF hB hcell hcv hcl => ?_) (fun v9 H locs f38 h40 hF hB => ?_)
  · rcases hex with ⟨rfl, rfl⟩
    · exact q_xout hlk htab hB hcell hcv hcl (by decide) (Or.inl ⟨rfl, rfl⟩)
  · obtain ⟨rfl, h40⟩ := h40
    refine W.eq (g2 := F0 m 5 ls []) rfl ?_
    obtain rfl := h40
    refine q_ild_n cx dX11_charge_5 rfl (lv_at hl 2 rfl) ?_
    refine q_cSi (As := [.int (q_i b0)]) (rest := []) cx hB (fun _ h => h) hN (g_X10_isCharge l g hN hB.2.1 b0 (by omega) (by omega)) q_cX11_303 q_dX10_isCharge (by decide) rfl rfl hl.1 rfl (Nat.le_of_ble_eq_true rfl) dX11_charge_6 (fun y43 H locs f42 ry43 h44 hF hB => ?_)
    obtain ⟨rfl, ly43, uy43⟩ := h44
    refine q_ifne (tgt := 23) cx ⟨by omega, by omega⟩ dX11_charge_9 (by decide) (fun c45 => ?_) (fun c45 => ?_)
    · refine q_ald_n cx dX11_charge_23 rfl (lv_at hl 0 rfl) ?_
      refine q_gX11_40 cx hB hx kx hr4 dX11_charge_24 (fun hb46 kb46 => ?_)
      refine q_ald_n cx dX11_charge_27 rfl (lv_at hl 0 rfl) ?_
      refine q_gX11_54 cx hB hx kx hr6 dX11_charge_28 (fun hb47 kb47 => ?_)
      refine q_cVv (As := [.ref now]) (rest := []) cx hB (fun _ h => h) hN hhist khist (by decide) rfl (g_X2_keep l g hN hB.2.1 hist hhist khist now hnow know) q_cX11_107 q_dX2_keep (by decide) rfl rfl hl.1 rfl (Nat.le_of_ble_eq_true rfl) dX11_charge_31 (fun H locs f48 h50 hF hB => ?_)
      have z51 : q_ir (q_r f48 x 0) src := Eq.trans (hF.r hx (by rw [kx]; rfl)) hr0
      have z52 : q_ir (q_r f48 x 1) rdr := Eq.trans (hF.r hx (by rw [kx]; rfl)) hr1
      have z53 : q_ir (q_r f48 x 2) scr := Eq.trans (hF.r hx (by rw [kx]; rfl)) hr2
      have z54 : q_ir (q_r f48 x 3) fc := Eq.trans (hF.r hx (by rw [kx]; rfl)) hr3
      have z55 : q_ir (q_r f48 x 4) hist := Eq.trans (hF.r hx (by rw [kx]; rfl)) hr4
      have z56 : q_ir (q_r f48 x 5) rep := Eq.trans (hF.r hx (by rw [kx]; rfl)) hr5
      have z57 : q_ir (q_r f48 x 6) now := Eq.trans (hF.r hx (by rw [kx]; rfl)) hr6
      have z58 : q_ir (q_r f48 x 7) dr := Eq.trans (hF.r hx (by rw [kx]; rfl)) hr7
      have z59 : q_ir (q_r f48 x 8) sv := Eq.trans (hF.r hx (by rw [kx]; rfl)) hr8
      have z60 : q_ir (q_r f48 fc 0) tr := Eq.trans (hF.r hfc (by rw [kfc]; rfl)) hr9
      refine q_ald_n cx dX11_charge_34 rfl (lv_at hl 0 rfl) ?_
      refine q_gX11_54 cx hB hx kx z57 dX11_charge_35 (fun hb61 kb61 => ?_)
      refine q_ild_n cx dX11_charge_38 rfl (lv_at hl 1 rfl) ?_
      refine q_ild_n cx dX11_charge_39 rfl (lv_at hl 2 rfl) ?_
      refine q_cVi (As := [.int (q_i a0), .int (q_i b0)]) (rest := []) cx hB (fun _ h => h) hN hnow know (by decide) rfl (g_X10_addEnergy l g hN hB.2.1 now hnow know a0 (by omega) (by omega) b0 (by omega) (by omega)) q_cX11_308 q_dX10_addEnergy (by decide) rfl rfl hl.1 rfl (Nat.le_of_ble_eq_true rfl) dX11_charge_40 (fun y63 H locs f62 ry63 h64 hF hB => ?_)
      have uy63 := h64
      have z65 : q_ir (q_r f62 x 0) src := Eq.trans (hF.r hx (by rw [kx]; rfl)) z51
      have z66 : q_ir (q_r f62 x 1) rdr := Eq.trans (hF.r hx (by rw [kx]; rfl)) z52
      have z67 : q_ir (q_r f62 x 2) scr := Eq.trans (hF.r hx (by rw [kx]; rfl)) z53
      have z68 : q_ir (q_r f62 x 3) fc := Eq.trans (hF.r hx (by rw [kx]; rfl)) z54
      have z69 : q_ir (q_r f62 x 4) hist := Eq.trans (hF.r hx (by rw [kx]; rfl)) z55
      have z70 : q_ir (q_r f62 x 5) rep := Eq.trans (hF.r hx (by rw [kx]; rfl)) z56
      have z71 : q_ir (q_r f62 x 6) now := Eq.trans (hF.r hx (by rw [kx]; rfl)) z57
      have z72 : q_ir (q_r f62 x 7) dr := Eq.trans (hF.r hx (by rw [kx]; rfl)) z58
      have z73 : q_ir (q_r f62 x 8) sv := Eq.trans (hF.r hx (by rw [kx]; rfl)) z59
      have z74 : q_ir (q_r f62 fc 0) tr := Eq.trans (hF.r hfc (by rw [kfc]; rfl)) z60
      refine W.widen (k := 2) (n := 12) (by decide) (by decide) ?_
      refine vx_ret ?_
      refine q_iret cx hr hlk hB dX11_charge_43 ⟨by omega, by omega⟩ ?_
      trivial
    · exact q_throw (text := "the charge is out of range") hfl cx hlk htab hX hB hl.1 (by decide +kernel) q_h880 q_h152 (by decide +kernel) q_xl87a q_xl87b q_xl87c dX11_charge_12 dX11_charge_15 (Or.inr ⟨dX11_charge_16, dX11_charge_19, dX11_charge_22⟩) (by decide) (by decide) (Or.inr ⟨rfl, rfl⟩)
set_option maxHeartbeats 4000000 in
set_option maxRecDepth 100000 in
theorem x_setMiss (l : Launch) (g : q_G) (ad : Nat → Nat) {K : Nat → Nat} {L : List Nat} (hN : L.Nodup) {f : Nat → va_E} (hT : q_Ty g K L f) (hfl : l.stackTraces = false) (x : Nat) (hx : x ∈ L) (kx : K x = 11) (a0 : Int) (la0 : (-2147483648) ≤ a0) (ua0 : a0 ≤ 2147483647) (src : Nat) (hsrc : src ∈ L) (ksrc : K src = 8) (rdr : Nat) (hrdr : rdr ∈ L) (krdr : K rdr = 9) (scr : Nat) (hscr : scr ∈ L) (kscr : K scr = 7) (fc : Nat) (hfc : fc ∈ L) (kfc : K fc = 1) (hist : Nat) (hhist : hist ∈ L) (khist : K hist = 2) (rep : Nat) (hrep : rep ∈ L) (krep : K rep = 6) (now : Nat) (hnow : now ∈ L) (know : K now = 10) (dr : Nat) (hdr : dr ∈ L) (kdr : K dr = 13) (sv : Nat) (hsv : sv ∈ L) (ksv : K sv = 14) (tr : Nat) (htr : tr ∈ L) (ktr : K tr = 15) (hr0 : q_ir (q_r f x 0) src) (hr1 : q_ir (q_r f x 1) rdr) (hr2 : q_ir (q_r f x 2) scr) (hr3 : q_ir (q_r f x 3) fc) (hr4 : q_ir (q_r f x 4) hist) (hr5 : q_ir (q_r f x 5) rep) (hr6 : q_ir (q_r f x 6) now) (hr7 : q_ir (q_r f x 7) dr) (hr8 : q_ir (q_r f x 8) sv) (hr9 : q_ir (q_r f fc 0) tr) : q_Xt l g ad K L yX11_setMiss cX11_setMiss 3 (some .int) 6 82 1 6 [.ref x, .int (q_i a0)] f [(2, 1, 2), (10, 10, 10), (16, 3, 12), (20, 0, 8), (24, 0, 4), (28, 0, 7)] (q_Pi (fun (z : Int) (f1 : Nat → va_E) => True)) (fun (E : String) (f1 : Nat → va_E) => E = "java/lang/IllegalArgumentException" ∧ f = f1) := by
  refine q_xofb (by decide +kernel) hN hT (Nat.le_of_ble_eq_true rfl) ?_
  intro p e s m below meth c ls cx hr hlk htab hX hB hl
  have hl : lv_has ls 3 [(0, .ref x), (1, .int (q_i a0))] := hl
  obtain ⟨H, hH⟩ : ∃ H : Heap, H = s.heap := ⟨_, rfl⟩
  obtain ⟨locs, hlocs⟩ : ∃ z : List Loc, z = [] := ⟨_, rfl⟩
  rw [← hH, ← hlocs] at hB
  rw [← hH, ← hlocs]
  refine q_ild_n cx dX11_setMiss_0 rfl (lv_at hl 1 rfl) ?_
  refine q_iconst cx dX11_setMiss_1 ?_
  refine q_iclt (tgt := 11) cx ⟨by omega, by omega⟩ ⟨by decide, by decide⟩ dX11_setMiss_2 (by decide) (fun c34 => ?_) (fun c34 => ?_)
  · exact q_throw (text := "the misses are out of range") hfl cx hlk htab hX hB hl.1 (by decide +kernel) q_h880 q_h152 (by decide +kernel) q_xl87a q_xl87b q_xl87c dX11_setMiss_11 dX11_setMiss_14 (Or.inr ⟨dX11_setMiss_15, dX11_setMiss_18, dX11_setMiss_21⟩) (by decide) (by decide) ⟨rfl, rfl⟩
  · refine q_ild_n cx dX11_setMiss_5 rfl (lv_at hl 1 rfl) ?_
    refine q_bipush cx dX11_setMiss_6 rfl ?_
    refine q_icle (tgt := 22) cx ⟨by omega, by omega⟩ ⟨by decide, by decide⟩ dX11_setMiss_8 (by decide) (fun c35 => ?_) (fun c35 => ?_)
    · refine q_ald_n cx dX11_setMiss_22 rfl (lv_at hl 0 rfl) ?_
      refine q_gX11_40 cx hB hx kx hr4 dX11_setMiss_23 (fun hb36 kb36 => ?_)
      refine q_ald_n cx dX11_setMiss_26 rfl (lv_at hl 0 rfl) ?_
      refine q_gX11_54 cx hB hx kx hr6 dX11_setMiss_27 (fun hb37 kb37 => ?_)
      refine q_cVv (As := [.ref now]) (rest := []) cx hB (fun _ h => h) hN hhist khist (by decide) rfl (g_X2_keep l g hN hB.2.1 hist hhist khist now hnow know) q_cX11_107 q_dX2_keep (by decide) rfl rfl hl.1 rfl (Nat.le_of_ble_eq_true rfl) dX11_setMiss_30 (fun H locs f38 h40 hF hB => ?_)
      have z41 : q_ir (q_r f38 x 0) src := Eq.trans (hF.r hx (by rw [kx]; rfl)) hr0
      have z42 : q_ir (q_r f38 x 1) rdr := Eq.trans (hF.r hx (by rw [kx]; rfl)) hr1
      have z43 : q_ir (q_r f38 x 2) scr := Eq.trans (hF.r hx (by rw [kx]; rfl)) hr2
      have z44 : q_ir (q_r f38 x 3) fc := Eq.trans (hF.r hx (by rw [kx]; rfl)) hr3
      have z45 : q_ir (q_r f38 x 4) hist := Eq.trans (hF.r hx (by rw [kx]; rfl)) hr4
      have z46 : q_ir (q_r f38 x 5) rep := Eq.trans (hF.r hx (by rw [kx]; rfl)) hr5
      have z47 : q_ir (q_r f38 x 6) now := Eq.trans (hF.r hx (by rw [kx]; rfl)) hr6
      have z48 : q_ir (q_r f38 x 7) dr := Eq.trans (hF.r hx (by rw [kx]; rfl)) hr7
      have z49 : q_ir (q_r f38 x 8) sv := Eq.trans (hF.r hx (by rw [kx]; rfl)) hr8
      have z50 : q_ir (q_r f38 fc 0) tr := Eq.trans (hF.r hfc (by rw [kfc]; rfl)) hr9
      refine q_ald_n cx dX11_setMiss_33 rfl (lv_at hl 0 rfl) ?_
      refine q_gX11_54 cx hB hx kx z47 dX11_setMiss_34 (fun hb51 kb51 => ?_)
      obtain ⟨x52, ex52⟩ : ∃ zz, q_is (q_z f38 now 10) zz := ⟨_, q_isr _⟩
      refine q_gX11_313 cx hB hnow know ex52 dX11_setMiss_37 (fun lb53 ub53 => ?_)
      refine lv_istore_n (lv' := [(2, .int (q_i x52)), (0, .ref x), (1, .int (q_i a0))]) cx.1 cx.2.1 dX11_setMiss_40 rfl hl (by decide) rfl (fun ls hl => ?_)
      refine q_ald_n cx dX11_setMiss_41 rfl (lv_at hl 1 rfl) ?_
      refine q_gX11_54 cx hB hx kx z47 dX11_setMiss_42 (fun hb54 kb54 => ?_)
      refine q_ild_n cx dX11_setMiss_45 rfl (lv_at hl 2 rfl) ?_
      refine q_pX11_313 cx hB hnow know ⟨by omega, by omega⟩ (by omega) (by omega) rfl dX11_setMiss_46 (fun H locs f55 ef55 z56 hB => ?_)
      have z57 : q_ir (q_r f55 x 0) src := by rw [ef55, q_setr (Or.inr (by decide))]; exact z41
      have z58 : q_ir (q_r f55 x 1) rdr := by rw [ef55, q_setr (Or.inr (by decide))]; exact z42
      have z59 : q_ir (q_r f55 x 2) scr := by rw [ef55, q_setr (Or.inr (by decide))]; exact z43
      have z60 : q_ir (q_r f55 x 3) fc := by rw [ef55, q_setr (Or.inr (by decide))]; exact z44
      have z61 : q_ir (q_r f55 x 4) hist := by rw [ef55, q_setr (Or.inr (by decide))]; exact z45
      have z62 : q_ir (q_r f55 x 5) rep := by rw [ef55, q_setr (Or.inr (by decide))]; exact z46
      have z63 : q_ir (q_r f55 x 6) now := by rw [ef55, q_setr (Or.inr (by decide))]; exact z47
      have z64 : q_ir (q_r f55 x 7) dr := by rw [ef55, q_setr (Or.inr (by decide))]; exact z48
      have z65 : q_ir (q_r f55 x 8) sv := by rw [ef55, q_setr (Or.inr (by decide))]; exact z49
      have z66 : q_ir (q_r f55 fc 0) tr := by rw [ef55, q_setr (Or.inr (by decide))]; exact z50
      refine q_ild_n cx dX11_setMiss_49 rfl (lv_at hl 0 rfl) ?_
      refine W.widen (k := 1) (n := 6) (by decide) (by decide) ?_
      refine vx_ret ?_
      refine q_iret cx hr hlk hB dX11_setMiss_50 ⟨by omega, by omega⟩ ?_
      trivial
    · exact q_throw (text := "the misses are out of range") hfl cx hlk htab hX hB hl.1 (by decide +kernel) q_h880 q_h152 (by decide +kernel) q_xl87a q_xl87b q_xl87c dX11_setMiss_11 dX11_setMiss_14 (Or.inr ⟨dX11_setMiss_15, dX11_setMiss_18, dX11_setMiss_21⟩) (by decide) (by decide) ⟨rfl, rfl⟩
set_option maxHeartbeats 4000000 in
set_option maxRecDepth 100000 in
theorem x_reportByte (l : Launch) (g : q_G) (ad : Nat → Nat) {K : Nat → Nat} {L : List Nat} (hN : L.Nodup) {f : Nat → va_E} (hT : q_Ty g K L f) (hfl : l.stackTraces = false) (x : Nat) (hx : x ∈ L) (kx : K x = 11) (a0 : Int) (la0 : (-2147483648) ≤ a0) (ua0 : a0 ≤ 2147483647) (src : Nat) (hsrc : src ∈ L) (ksrc : K src = 8) (rdr : Nat) (hrdr : rdr ∈ L) (krdr : K rdr = 9) (scr : Nat) (hscr : scr ∈ L) (kscr : K scr = 7) (fc : Nat) (hfc : fc ∈ L) (kfc : K fc = 1) (hist : Nat) (hhist : hist ∈ L) (khist : K hist = 2) (rep : Nat) (hrep : rep ∈ L) (krep : K rep = 6) (now : Nat) (hnow : now ∈ L) (know : K now = 10) (dr : Nat) (hdr : dr ∈ L) (kdr : K dr = 13) (sv : Nat) (hsv : sv ∈ L) (ksv : K sv = 14) (tr : Nat) (htr : tr ∈ L) (ktr : K tr = 15) (hr0 : q_ir (q_r f x 0) src) (hr1 : q_ir (q_r f x 1) rdr) (hr2 : q_ir (q_r f x 2) scr) (hr3 : q_ir (q_r f x 3) fc) (hr4 : q_ir (q_r f x 4) hist) (hr5 : q_ir (q_r f x 5) rep) (hr6 : q_ir (q_r f x 6) now) (hr7 : q_ir (q_r f x 7) dr) (hr8 : q_ir (q_r f x 8) sv) (hr9 : q_ir (q_r f fc 0) tr) : q_Xt l g ad K L yX11_reportByte cX11_reportByte 2 (some .int) 6 82 1 6 [.ref x, .int (q_i a0)] f [] (q_Pi (fun (z : Int) (f1 : Nat → va_E) => f = f1)) (fun (E : String) (f1 : Nat → va_E) => E = "java/lang/IndexOutOfBoundsException" ∧ f = f1) := by
  refine q_xofb (by decide +kernel) hN hT (Nat.le_of_ble_eq_true rfl) ?_
  intro p e s m below meth c ls cx hr hlk htab hX hB hl
  have hl : lv_has ls 2 [(0, .ref x), (1, .int (q_i a0))] := hl
  obtain ⟨H, hH⟩ : ∃ H : Heap, H = s.heap := ⟨_, rfl⟩
  obtain ⟨locs, hlocs⟩ : ∃ z : List Loc, z = [] := ⟨_, rfl⟩
  rw [← hH, ← hlocs] at hB
  rw [← hH, ← hlocs]
  refine q_ild_n cx dX11_reportByte_0 rfl (lv_at hl 1 rfl) ?_
  refine q_iflt (tgt := 15) cx ⟨by omega, by omega⟩ dX11_reportByte_1 (by decide) (fun c10 => ?_) (fun c10 => ?_)
  · exact q_throw (text := "no such byte") hfl cx hlk htab hX hB hl.1 (by decide +kernel) q_h1234 q_h159 (by decide +kernel) q_xl145a q_xl145b q_xl145c dX11_reportByte_15 dX11_reportByte_18 (Or.inr ⟨dX11_reportByte_19, dX11_reportByte_22, dX11_reportByte_25⟩) (by decide) (by decide) ⟨rfl, rfl⟩
  · refine q_ild_n cx dX11_reportByte_4 rfl (lv_at hl 1 rfl) ?_
    refine q_ald_n cx dX11_reportByte_5 rfl (lv_at hl 0 rfl) ?_
    refine q_gX11_47 cx hB hx kx hr5 dX11_reportByte_6 (fun hb11 kb11 => ?_)
    obtain ⟨x12, ex12⟩ : ∃ zz, q_is (q_z f rep 1) zz := ⟨_, q_isr _⟩
    refine q_gX11_319 cx hB hrep krep ex12 dX11_reportByte_9 (fun lb13 ub13 => ?_)
    refine q_iclt (tgt := 26) cx ⟨by omega, by omega⟩ ⟨by omega, by omega⟩ dX11_reportByte_12 (by decide) (fun c14 => ?_) (fun c14 => ?_)
    · refine q_ald_n cx dX11_reportByte_26 rfl (lv_at hl 0 rfl) ?_
      refine q_gX11_47 cx hB hx kx hr5 dX11_reportByte_27 (fun hb15 kb15 => ?_)
      refine q_ild_n cx dX11_reportByte_30 rfl (lv_at hl 1 rfl) ?_
      refine q_cVi (As := [.int (q_i a0)]) (rest := []) cx hB (fun _ h => h) hN hrep krep (by decide) rfl (g_X6_byteAt l g hN hB.2.1 rep hrep krep a0 (by omega) (by omega)) q_cX11_322 q_dX6_byteAt (by decide) rfl rfl hl.1 rfl (Nat.le_of_ble_eq_true rfl) dX11_reportByte_31 (fun y17 H locs f16 ry17 h18 hF hB => ?_)
      obtain ⟨rfl, ly17, uy17⟩ := h18
      refine W.widen (k := 1) (n := 6) (by decide) (by decide) ?_
      refine vx_ret ?_
      refine q_iret cx hr hlk hB dX11_reportByte_34 ⟨by omega, by omega⟩ ?_
      exact rfl
    · exact q_throw (text := "no such byte") hfl cx hlk htab hX hB hl.1 (by decide +kernel) q_h1234 q_h159 (by decide +kernel) q_xl145a q_xl145b q_xl145c dX11_reportByte_15 dX11_reportByte_18 (Or.inr ⟨dX11_reportByte_19, dX11_reportByte_22, dX11_reportByte_25⟩) (by decide) (by decide) ⟨rfl, rfl⟩
set_option maxHeartbeats 4000000 in
set_option maxRecDepth 100000 in
theorem x_restore (l : Launch) (g : q_G) (ad : Nat → Nat) {K : Nat → Nat} {L : List Nat} (hN : L.Nodup) {f : Nat → va_E} (hT : q_Ty g K L f) (hfl : l.stackTraces = false) (x : Nat) (hx : x ∈ L) (kx : K x = 11) (src : Nat) (hsrc : src ∈ L) (ksrc : K src = 8) (rdr : Nat) (hrdr : rdr ∈ L) (krdr : K rdr = 9) (scr : Nat) (hscr : scr ∈ L) (kscr : K scr = 7) (fc : Nat) (hfc : fc ∈ L) (kfc : K fc = 1) (hist : Nat) (hhist : hist ∈ L) (khist : K hist = 2) (rep : Nat) (hrep : rep ∈ L) (krep : K rep = 6) (now : Nat) (hnow : now ∈ L) (know : K now = 10) (dr : Nat) (hdr : dr ∈ L) (kdr : K dr = 13) (sv : Nat) (hsv : sv ∈ L) (ksv : K sv = 14) (tr : Nat) (htr : tr ∈ L) (ktr : K tr = 15) (hr0 : q_ir (q_r f x 0) src) (hr1 : q_ir (q_r f x 1) rdr) (hr2 : q_ir (q_r f x 2) scr) (hr3 : q_ir (q_r f x 3) fc) (hr4 : q_ir (q_r f x 4) hist) (hr5 : q_ir (q_r f x 5) rep) (hr6 : q_ir (q_r f x 6) now) (hr7 : q_ir (q_r f x 7) dr) (hr8 : q_ir (q_r f x 8) sv) (hr9 : q_ir (q_r f fc 0) tr) : q_Xt l g ad K L yX11_restore cX11_restore 1 (some .int) 6 82 1 6 [.ref x] f [(2, 2, 2), (3, 0, 4), (4, 0, 7), (5, 0, 8), (10, 3, 12)] (q_Pi (fun (z : Int) (f1 : Nat → va_E) => True)) (fun (E : String) (f1 : Nat → va_E) => E = "java/lang/IllegalStateException" ∧ f = f1) := by
  refine q_xofb (by decide +kernel) hN hT (Nat.le_of_ble_eq_true rfl) ?_
  intro p e s m below meth c ls cx hr hlk htab hX hB hl
  have hl : lv_has ls 1 [(0, .ref x)] := hl
  obtain ⟨H, hH⟩ : ∃ H : Heap, H = s.heap := ⟨_, rfl⟩
  obtain ⟨locs, hlocs⟩ : ∃ z : List Loc, z = [] := ⟨_, rfl⟩
  rw [← hH, ← hlocs] at hB
  rw [← hH, ← hlocs]
  refine q_ald_n cx dX11_restore_0 rfl (lv_at hl 0 rfl) ?_
  obtain ⟨x38, ex38⟩ : ∃ zz, q_is (q_z f x 9) zz := ⟨_, q_isr _⟩
  refine q_gX11_329 cx hB hx kx ex38 dX11_restore_1 (fun lb39 ub39 => ?_)
  refine q_ifne (tgt := 18) cx ⟨by omega, by omega⟩ dX11_restore_4 (by decide) (fun c40 => ?_) (fun c40 => ?_)
  · refine q_ald_n cx dX11_restore_18 rfl (lv_at hl 0 rfl) ?_
    refine q_gX11_54 cx hB hx kx hr6 dX11_restore_19 (fun hb41 kb41 => ?_)
    refine q_ald_n cx dX11_restore_22 rfl (lv_at hl 0 rfl) ?_
    refine q_gX11_61 cx hB hx kx hr8 dX11_restore_23 (fun hb42 kb42 => ?_)
    refine q_cVv (As := [.ref sv]) (rest := []) cx hB (fun _ h => h) hN hnow know (by decide) rfl (g_X10_copyFrom_02 l g hN hB.2.1 now hnow know sv hsv ksv) q_cX11_94 q_dX10_copyFrom (by decide) rfl rfl hl.1 rfl (Nat.le_of_ble_eq_true rfl) dX11_restore_26 (fun H locs f43 h45 hF hB => ?_)
    have z46 : q_is (q_z f43 x 9) x38 := Eq.trans (hF.z hx (by rw [kx]; rfl)) ex38
    have z47 : q_ir (q_r f43 x 0) src := Eq.trans (hF.r hx (by rw [kx]; rfl)) hr0
    have z48 : q_ir (q_r f43 x 1) rdr := Eq.trans (hF.r hx (by rw [kx]; rfl)) hr1
    have z49 : q_ir (q_r f43 x 2) scr := Eq.trans (hF.r hx (by rw [kx]; rfl)) hr2
    have z50 : q_ir (q_r f43 x 3) fc := Eq.trans (hF.r hx (by rw [kx]; rfl)) hr3
    have z51 : q_ir (q_r f43 x 4) hist := Eq.trans (hF.r hx (by rw [kx]; rfl)) hr4
    have z52 : q_ir (q_r f43 x 5) rep := Eq.trans (hF.r hx (by rw [kx]; rfl)) hr5
    have z53 : q_ir (q_r f43 x 6) now := Eq.trans (hF.r hx (by rw [kx]; rfl)) hr6
    have z54 : q_ir (q_r f43 x 7) dr := Eq.trans (hF.r hx (by rw [kx]; rfl)) hr7
    have z55 : q_ir (q_r f43 x 8) sv := Eq.trans (hF.r hx (by rw [kx]; rfl)) hr8
    have z56 : q_ir (q_r f43 fc 0) tr := Eq.trans (hF.r hfc (by rw [kfc]; rfl)) hr9
    refine q_ald_n cx dX11_restore_29 rfl (lv_at hl 0 rfl) ?_
    refine q_gX11_40 cx hB hx kx z51 dX11_restore_30 (fun hb57 kb57 => ?_)
    refine q_cVv (As := []) (rest := []) cx hB (fun _ h => h) hN hhist khist (by decide) rfl (g_X2_forget l g hN hB.2.1 hist hhist khist) q_cX11_98 q_dX2_forget (by decide) rfl rfl hl.1 rfl (Nat.le_of_ble_eq_true rfl) dX11_restore_33 (fun H locs f58 h60 hF hB => ?_)
    have z61 : q_is (q_z f58 x 9) x38 := Eq.trans (hF.z hx (by rw [kx]; rfl)) z46
    have z62 : q_ir (q_r f58 x 0) src := Eq.trans (hF.r hx (by rw [kx]; rfl)) z47
    have z63 : q_ir (q_r f58 x 1) rdr := Eq.trans (hF.r hx (by rw [kx]; rfl)) z48
    have z64 : q_ir (q_r f58 x 2) scr := Eq.trans (hF.r hx (by rw [kx]; rfl)) z49
    have z65 : q_ir (q_r f58 x 3) fc := Eq.trans (hF.r hx (by rw [kx]; rfl)) z50
    have z66 : q_ir (q_r f58 x 4) hist := Eq.trans (hF.r hx (by rw [kx]; rfl)) z51
    have z67 : q_ir (q_r f58 x 5) rep := Eq.trans (hF.r hx (by rw [kx]; rfl)) z52
    have z68 : q_ir (q_r f58 x 6) now := Eq.trans (hF.r hx (by rw [kx]; rfl)) z53
    have z69 : q_ir (q_r f58 x 7) dr := Eq.trans (hF.r hx (by rw [kx]; rfl)) z54
    have z70 : q_ir (q_r f58 x 8) sv := Eq.trans (hF.r hx (by rw [kx]; rfl)) z55
    have z71 : q_ir (q_r f58 fc 0) tr := Eq.trans (hF.r hfc (by rw [kfc]; rfl)) z56
    refine q_ald_n cx dX11_restore_36 rfl (lv_at hl 0 rfl) ?_
    refine q_gX11_54 cx hB hx kx z68 dX11_restore_37 (fun hb72 kb72 => ?_)
    obtain ⟨x73, ex73⟩ : ∃ zz, q_is (q_z f58 now 11) zz := ⟨_, q_isr _⟩
    refine q_gX11_333 cx hB hnow know ex73 dX11_restore_40 (fun lb74 ub74 => ?_)
    refine W.widen (k := 1) (n := 6) (by decide) (by decide) ?_
    refine vx_ret ?_
    refine q_iret cx hr hlk hB dX11_restore_43 ⟨by omega, by omega⟩ ?_
    trivial
  · exact q_throw (text := "nothing was saved") hfl cx hlk htab hX hB hl.1 (by decide +kernel) q_h801 q_h151 (by decide +kernel) q_xl72a q_xl72b q_xl72c dX11_restore_7 dX11_restore_10 (Or.inr ⟨dX11_restore_11, dX11_restore_14, dX11_restore_17⟩) (by decide) (by decide) ⟨rfl, rfl⟩
set_option maxHeartbeats 4000000 in
set_option maxRecDepth 100000 in
theorem x_duty (l : Launch) (g : q_G) (ad : Nat → Nat) {K : Nat → Nat} {L : List Nat} (hN : L.Nodup) {f : Nat → va_E} (hT : q_Ty g K L f) (hfl : l.stackTraces = false) (x : Nat) (hx : x ∈ L) (kx : K x = 11) (a0 : Int) (la0 : (-2147483648) ≤ a0) (ua0 : a0 ≤ 2147483647) (src : Nat) (hsrc : src ∈ L) (ksrc : K src = 8) (rdr : Nat) (hrdr : rdr ∈ L) (krdr : K rdr = 9) (scr : Nat) (hscr : scr ∈ L) (kscr : K scr = 7) (fc : Nat) (hfc : fc ∈ L) (kfc : K fc = 1) (hist : Nat) (hhist : hist ∈ L) (khist : K hist = 2) (rep : Nat) (hrep : rep ∈ L) (krep : K rep = 6) (now : Nat) (hnow : now ∈ L) (know : K now = 10) (dr : Nat) (hdr : dr ∈ L) (kdr : K dr = 13) (sv : Nat) (hsv : sv ∈ L) (ksv : K sv = 14) (tr : Nat) (htr : tr ∈ L) (ktr : K tr = 15) (hr0 : q_ir (q_r f x 0) src) (hr1 : q_ir (q_r f x 1) rdr) (hr2 : q_ir (q_r f x 2) scr) (hr3 : q_ir (q_r f x 3) fc) (hr4 : q_ir (q_r f x 4) hist) (hr5 : q_ir (q_r f x 5) rep) (hr6 : q_ir (q_r f x 6) now) (hr7 : q_ir (q_r f x 7) dr) (hr8 : q_ir (q_r f x 8) sv) (hr9 : q_ir (q_r f fc 0) tr) : q_Xt l g ad K L yX11_duty cX11_duty 2 (some .float) 7 103 1 6 [.ref x, .int (q_i a0)] f [] (q_Pf (fun (z : UInt32) (f1 : Nat → va_E) => f = f1 ∧ (vf_n32 z))) (fun (E : String) (f1 : Nat → va_E) => E = "java/lang/IndexOutOfBoundsException" ∧ f = f1) := by
  refine q_xofb (by decide +kernel) hN hT (Nat.le_of_ble_eq_true rfl) ?_
  intro p e s m below meth c ls cx hr hlk htab hX hB hl
  have hl : lv_has ls 2 [(0, .ref x), (1, .int (q_i a0))] := hl
  obtain ⟨H, hH⟩ : ∃ H : Heap, H = s.heap := ⟨_, rfl⟩
  obtain ⟨locs, hlocs⟩ : ∃ z : List Loc, z = [] := ⟨_, rfl⟩
  rw [← hH, ← hlocs] at hB
  rw [← hH, ← hlocs]
  refine q_ald_n cx dX11_duty_0 rfl (lv_at hl 0 rfl) ?_
  refine q_ild_n cx dX11_duty_1 rfl (lv_at hl 1 rfl) ?_
  refine q_cXV (As := [.int (q_i a0)]) (rest := []) cx hX hB (fun _ h => h) (fun _ h _ => h) hN hx kx (by decide) rfl (x_requireNode l g ad hN hB.2.1 hfl x hx kx a0 (by omega) (by omega) src hsrc ksrc rdr hrdr krdr scr hscr kscr fc hfc kfc hist hhist khist rep hrep krep now hnow know dr hdr kdr sv hsv ksv tr htr ktr hr0 hr1 hr2 hr3 hr4 hr5 hr6 hr7 hr8 hr9) q_cX11_129 q_dX11_requireNode (by decide) rfl rfl hl.1 rfl (Nat.le_of_ble_eq_true rfl) dX11_duty_2 (fun E9 ce9 q9 H locs f22 hex hF hB hcell hcv hcl => ?_) (fun v9 H locs f19 h21 hF hB => ?_)
  · rcases hex with ⟨rfl, rfl⟩
    · exact q_xout hlk htab hB hcell hcv hcl (by decide) ⟨rfl, rfl⟩
  · obtain ⟨rfl, h21⟩ := h21
    refine W.eq (g2 := F0 m 5 ls []) rfl ?_
    obtain rfl := h21
    refine q_ald_n cx dX11_duty_5 rfl (lv_at hl 0 rfl) ?_
    refine q_gX11_54 cx hB hx kx hr6 dX11_duty_6 (fun hb23 kb23 => ?_)
    obtain ⟨x24, ex24⟩ : ∃ zz, q_is (q_z f now 6) zz := ⟨_, q_isr _⟩
    refine q_gX11_192 cx hB hnow know ex24 dX11_duty_9 (fun lb25 ub25 => ?_)
    refine q_ifle (tgt := 39) cx ⟨by omega, by omega⟩ dX11_duty_12 (by decide) (fun c26 => ?_) (fun c26 => ?_)
    · exact absurd c26 (by omega)
    · refine q_ald_n cx dX11_duty_15 rfl (lv_at hl 0 rfl) ?_
      refine q_gX11_54 cx hB hx kx hr6 dX11_duty_16 (fun hb27 kb27 => ?_)
      refine q_ild_n cx dX11_duty_19 rfl (lv_at hl 1 rfl) ?_
      refine q_cVl (As := [.int (q_i a0)]) (rest := []) cx hB (fun _ h => h) hN hnow know (by decide) rfl (g_X10_tableOf l g hN hB.2.1 now hnow know a0 (by omega) (by omega)) q_cX11_184 q_dX10_tableOf (by decide) rfl rfl hl.1 rfl (Nat.le_of_ble_eq_true rfl) dX11_duty_20 (fun y29 H locs f28 h30 hF hB => ?_)
      obtain rfl := h30
      refine q_cSi (As := [.long y29]) (rest := []) cx hB (fun _ h => h) hN (g_Long_bitCount l g hN hB.2.1 y29) q_cX11_195 q_dJ13_bitCount_95d88 (by decide) rfl rfl hl.1 rfl (Nat.le_of_ble_eq_true rfl) dX11_duty_23 (fun y32 H locs f31 ry32 h33 hF hB => ?_)
      obtain ⟨rfl, ly32, uy32⟩ := h33
      refine lv_i2f cx.1 cx.2.1 dX11_duty_26 ?_
      refine q_ald_n cx dX11_duty_27 rfl (lv_at hl 0 rfl) ?_
      refine q_gX11_54 cx hB hx kx hr6 dX11_duty_28 (fun hb34 kb34 => ?_)
      refine q_gX11_192 cx hB hnow know ex24 dX11_duty_31 (fun lb35 ub35 => ?_)
      refine lv_i2f cx.1 cx.2.1 dX11_duty_34 ?_
      have nd36 := k_fdiv (x := y32) (y := x24) (by omega) (by omega)
      refine lv_fdiv cx.1 cx.2.1 dX11_duty_35 nd36 ?_
      refine lv_topf (fun d36 ed36 => ?_)
      rw [← ed36] at nd36
      refine lv_goto (tgt := 40) cx.1 cx.2.1 dX11_duty_36 (by decide) ?_
      refine W.widen (k := 1) (n := 6) (by decide) (by decide) ?_
      refine vx_ret ?_
      refine q_fret cx hr hlk hB dX11_duty_40 ?_
      exact ⟨rfl, nd36⟩
set_option maxHeartbeats 4000000 in
set_option maxRecDepth 100000 in
theorem x_meanEnergy (l : Launch) (g : q_G) {K : Nat → Nat} {L : List Nat} (hN : L.Nodup) {f : Nat → va_E} (hT : q_Ty g K L f) (x : Nat) (hx : x ∈ L) (kx : K x = 11) (src : Nat) (hsrc : src ∈ L) (ksrc : K src = 8) (rdr : Nat) (hrdr : rdr ∈ L) (krdr : K rdr = 9) (scr : Nat) (hscr : scr ∈ L) (kscr : K scr = 7) (fc : Nat) (hfc : fc ∈ L) (kfc : K fc = 1) (hist : Nat) (hhist : hist ∈ L) (khist : K hist = 2) (rep : Nat) (hrep : rep ∈ L) (krep : K rep = 6) (now : Nat) (hnow : now ∈ L) (know : K now = 10) (dr : Nat) (hdr : dr ∈ L) (kdr : K dr = 13) (sv : Nat) (hsv : sv ∈ L) (ksv : K sv = 14) (tr : Nat) (htr : tr ∈ L) (ktr : K tr = 15) (hr0 : q_ir (q_r f x 0) src) (hr1 : q_ir (q_r f x 1) rdr) (hr2 : q_ir (q_r f x 2) scr) (hr3 : q_ir (q_r f x 3) fc) (hr4 : q_ir (q_r f x 4) hist) (hr5 : q_ir (q_r f x 5) rep) (hr6 : q_ir (q_r f x 6) now) (hr7 : q_ir (q_r f x 7) dr) (hr8 : q_ir (q_r f x 8) sv) (hr9 : q_ir (q_r f fc 0) tr) : q_Ct l g K L yX11_meanEnergy cX11_meanEnergy 1 (some .double) 2 43 [.ref x] f [] (q_Pd (fun (z : UInt64) (f1 : Nat → va_E) => f = f1)) := by
  refine q_ofb (by decide +kernel) hN hT (Nat.le_of_ble_eq_true rfl) ?_
  intro p e s m below meth c ls cx hr hlk hB hl
  have hl : lv_has ls 1 [(0, .ref x)] := hl
  obtain ⟨H, hH⟩ : ∃ H : Heap, H = s.heap := ⟨_, rfl⟩
  obtain ⟨locs, hlocs⟩ : ∃ z : List Loc, z = [] := ⟨_, rfl⟩
  rw [← hH, ← hlocs] at hB
  rw [← hH, ← hlocs]
  refine q_ald_n cx dX11_meanEnergy_0 rfl (lv_at hl 0 rfl) ?_
  refine q_gX11_54 cx hB hx kx hr6 dX11_meanEnergy_1 (fun hb12 kb12 => ?_)
  obtain ⟨x13, ex13⟩ : ∃ zz, q_is (q_z f now 3) zz := ⟨_, q_isr _⟩
  refine q_gX11_101 cx hB hnow know ex13 dX11_meanEnergy_4 (fun lb14 ub14 => ?_)
  refine q_ifle (tgt := 30) cx ⟨by omega, by omega⟩ dX11_meanEnergy_7 (by decide) (fun c15 => ?_) (fun c15 => ?_)
  · refine lv_dconst0 cx.1 cx.2.1 dX11_meanEnergy_30 ?_
    refine q_dret cx hr hlk hB dX11_meanEnergy_31 ?_
    exact rfl
  · refine q_ald_n cx dX11_meanEnergy_10 rfl (lv_at hl 0 rfl) ?_
    refine q_gX11_54 cx hB hx kx hr6 dX11_meanEnergy_11 (fun hb16 kb16 => ?_)
    refine q_cVi (As := []) (rest := []) cx hB (fun _ h => h) hN hnow know (by decide) rfl (g_X10_energySum l g hN hB.2.1 now hnow know) q_cX11_201 q_dX10_energySum (by decide) rfl rfl hl.1 rfl (Nat.le_of_ble_eq_true rfl) dX11_meanEnergy_14 (fun y18 H locs f17 ry18 h19 hF hB => ?_)
    obtain rfl := h19
    refine lv_i2d cx.1 cx.2.1 dX11_meanEnergy_17 ?_
    refine q_ald_n cx dX11_meanEnergy_18 rfl (lv_at hl 0 rfl) ?_
    refine q_gX11_54 cx hB hx kx hr6 dX11_meanEnergy_19 (fun hb20 kb20 => ?_)
    refine q_gX11_101 cx hB hnow know ex13 dX11_meanEnergy_22 (fun lb21 ub21 => ?_)
    refine lv_i2d cx.1 cx.2.1 dX11_meanEnergy_25 ?_
    have nd22 := k_ddiv (x := y18) (y := x13) (by omega) (by omega)
    refine lv_ddiv cx.1 cx.2.1 dX11_meanEnergy_26 nd22 ?_
    refine lv_topd (fun d22 ed22 => ?_)
    rw [← ed22] at nd22
    refine lv_goto (tgt := 31) cx.1 cx.2.1 dX11_meanEnergy_27 (by decide) ?_
    refine q_dret cx hr hlk hB dX11_meanEnergy_31 ?_
    exact rfl
set_option maxHeartbeats 4000000 in
set_option maxRecDepth 100000 in
theorem x_worstLink (l : Launch) (g : q_G) {K : Nat → Nat} {L : List Nat} (hN : L.Nodup) {f : Nat → va_E} (hT : q_Ty g K L f) (x : Nat) (hx : x ∈ L) (kx : K x = 11) (src : Nat) (hsrc : src ∈ L) (ksrc : K src = 8) (rdr : Nat) (hrdr : rdr ∈ L) (krdr : K rdr = 9) (scr : Nat) (hscr : scr ∈ L) (kscr : K scr = 7) (fc : Nat) (hfc : fc ∈ L) (kfc : K fc = 1) (hist : Nat) (hhist : hist ∈ L) (khist : K hist = 2) (rep : Nat) (hrep : rep ∈ L) (krep : K rep = 6) (now : Nat) (hnow : now ∈ L) (know : K now = 10) (dr : Nat) (hdr : dr ∈ L) (kdr : K dr = 13) (sv : Nat) (hsv : sv ∈ L) (ksv : K sv = 14) (tr : Nat) (htr : tr ∈ L) (ktr : K tr = 15) (hr0 : q_ir (q_r f x 0) src) (hr1 : q_ir (q_r f x 1) rdr) (hr2 : q_ir (q_r f x 2) scr) (hr3 : q_ir (q_r f x 3) fc) (hr4 : q_ir (q_r f x 4) hist) (hr5 : q_ir (q_r f x 5) rep) (hr6 : q_ir (q_r f x 6) now) (hr7 : q_ir (q_r f x 7) dr) (hr8 : q_ir (q_r f x 8) sv) (hr9 : q_ir (q_r f fc 0) tr) : q_Ct l g K L yX11_worstLink cX11_worstLink 1 (some .int) 6 142 [.ref x] f [] (q_Pi (fun (z : Int) (f1 : Nat → va_E) => f = f1)) := by
  refine q_ofb (by decide +kernel) hN hT (Nat.le_of_ble_eq_true rfl) ?_
  intro p e s m below meth c ls cx hr hlk hB hl
  have hl : lv_has ls 1 [(0, .ref x)] := hl
  obtain ⟨H, hH⟩ : ∃ H : Heap, H = s.heap := ⟨_, rfl⟩
  obtain ⟨locs, hlocs⟩ : ∃ z : List Loc, z = [] := ⟨_, rfl⟩
  rw [← hH, ← hlocs] at hB
  rw [← hH, ← hlocs]
  refine q_ald_n cx dX11_worstLink_0 rfl (lv_at hl 0 rfl) ?_
  refine q_gX11_54 cx hB hx kx hr6 dX11_worstLink_1 (fun hb5 kb5 => ?_)
  refine q_cVi (As := []) (rest := []) cx hB (fun _ h => h) hN hnow know (by decide) rfl (g_X10_latestMeetingLink l g hN hB.2.1 now hnow know) q_cX11_217 q_dX10_latestMeetingLink (by decide) rfl rfl hl.1 rfl (Nat.le_of_ble_eq_true rfl) dX11_worstLink_4 (fun y7 H locs f6 ry7 h8 hF hB => ?_)
  obtain ⟨rfl, ly7, uy7⟩ := h8
  refine q_iret cx hr hlk hB dX11_worstLink_7 ⟨by omega, by omega⟩ ?_
  exact rfl
set_option maxHeartbeats 4000000 in
set_option maxRecDepth 100000 in
theorem x_busiest (l : Launch) (g : q_G) {K : Nat → Nat} {L : List Nat} (hN : L.Nodup) {f : Nat → va_E} (hT : q_Ty g K L f) (x : Nat) (hx : x ∈ L) (kx : K x = 11) (src : Nat) (hsrc : src ∈ L) (ksrc : K src = 8) (rdr : Nat) (hrdr : rdr ∈ L) (krdr : K rdr = 9) (scr : Nat) (hscr : scr ∈ L) (kscr : K scr = 7) (fc : Nat) (hfc : fc ∈ L) (kfc : K fc = 1) (hist : Nat) (hhist : hist ∈ L) (khist : K hist = 2) (rep : Nat) (hrep : rep ∈ L) (krep : K rep = 6) (now : Nat) (hnow : now ∈ L) (know : K now = 10) (dr : Nat) (hdr : dr ∈ L) (kdr : K dr = 13) (sv : Nat) (hsv : sv ∈ L) (ksv : K sv = 14) (tr : Nat) (htr : tr ∈ L) (ktr : K tr = 15) (hr0 : q_ir (q_r f x 0) src) (hr1 : q_ir (q_r f x 1) rdr) (hr2 : q_ir (q_r f x 2) scr) (hr3 : q_ir (q_r f x 3) fc) (hr4 : q_ir (q_r f x 4) hist) (hr5 : q_ir (q_r f x 5) rep) (hr6 : q_ir (q_r f x 6) now) (hr7 : q_ir (q_r f x 7) dr) (hr8 : q_ir (q_r f x 8) sv) (hr9 : q_ir (q_r f fc 0) tr) : q_Ct l g K L yX11_busiest cX11_busiest 1 (some .int) 5 116 [.ref x] f [] (q_Pi (fun (z : Int) (f1 : Nat → va_E) => f = f1)) := by
  refine q_ofb (by decide +kernel) hN hT (Nat.le_of_ble_eq_true rfl) ?_
  intro p e s m below meth c ls cx hr hlk hB hl
  have hl : lv_has ls 1 [(0, .ref x)] := hl
  obtain ⟨H, hH⟩ : ∃ H : Heap, H = s.heap := ⟨_, rfl⟩
  obtain ⟨locs, hlocs⟩ : ∃ z : List Loc, z = [] := ⟨_, rfl⟩
  rw [← hH, ← hlocs] at hB
  rw [← hH, ← hlocs]
  refine q_ald_n cx dX11_busiest_0 rfl (lv_at hl 0 rfl) ?_
  refine q_gX11_54 cx hB hx kx hr6 dX11_busiest_1 (fun hb5 kb5 => ?_)
  refine q_cVi (As := []) (rest := []) cx hB (fun _ h => h) hN hnow know (by decide) rfl (g_X10_ticksToMostAwake l g hN hB.2.1 now hnow know) q_cX11_220 q_dX10_ticksToMostAwake (by decide) rfl rfl hl.1 rfl (Nat.le_of_ble_eq_true rfl) dX11_busiest_4 (fun y7 H locs f6 ry7 h8 hF hB => ?_)
  obtain ⟨rfl, ly7, uy7⟩ := h8
  refine q_iret cx hr hlk hB dX11_busiest_7 ⟨by omega, by omega⟩ ?_
  exact rfl
set_option maxHeartbeats 4000000 in
set_option maxRecDepth 100000 in
theorem x_widest (l : Launch) (g : q_G) {K : Nat → Nat} {L : List Nat} (hN : L.Nodup) {f : Nat → va_E} (hT : q_Ty g K L f) (x : Nat) (hx : x ∈ L) (kx : K x = 11) (src : Nat) (hsrc : src ∈ L) (ksrc : K src = 8) (rdr : Nat) (hrdr : rdr ∈ L) (krdr : K rdr = 9) (scr : Nat) (hscr : scr ∈ L) (kscr : K scr = 7) (fc : Nat) (hfc : fc ∈ L) (kfc : K fc = 1) (hist : Nat) (hhist : hist ∈ L) (khist : K hist = 2) (rep : Nat) (hrep : rep ∈ L) (krep : K rep = 6) (now : Nat) (hnow : now ∈ L) (know : K now = 10) (dr : Nat) (hdr : dr ∈ L) (kdr : K dr = 13) (sv : Nat) (hsv : sv ∈ L) (ksv : K sv = 14) (tr : Nat) (htr : tr ∈ L) (ktr : K tr = 15) (hr0 : q_ir (q_r f x 0) src) (hr1 : q_ir (q_r f x 1) rdr) (hr2 : q_ir (q_r f x 2) scr) (hr3 : q_ir (q_r f x 3) fc) (hr4 : q_ir (q_r f x 4) hist) (hr5 : q_ir (q_r f x 5) rep) (hr6 : q_ir (q_r f x 6) now) (hr7 : q_ir (q_r f x 7) dr) (hr8 : q_ir (q_r f x 8) sv) (hr9 : q_ir (q_r f fc 0) tr) : q_Ct l g K L yX11_widest cX11_widest 1 (some .int) 4 91 [.ref x] f [] (q_Pi (fun (z : Int) (f1 : Nat → va_E) => f = f1)) := by
  refine q_ofb (by decide +kernel) hN hT (Nat.le_of_ble_eq_true rfl) ?_
  intro p e s m below meth c ls cx hr hlk hB hl
  have hl : lv_has ls 1 [(0, .ref x)] := hl
  obtain ⟨H, hH⟩ : ∃ H : Heap, H = s.heap := ⟨_, rfl⟩
  obtain ⟨locs, hlocs⟩ : ∃ z : List Loc, z = [] := ⟨_, rfl⟩
  rw [← hH, ← hlocs] at hB
  rw [← hH, ← hlocs]
  refine q_ald_n cx dX11_widest_0 rfl (lv_at hl 0 rfl) ?_
  refine q_gX11_54 cx hB hx kx hr6 dX11_widest_1 (fun hb5 kb5 => ?_)
  refine q_cVi (As := []) (rest := []) cx hB (fun _ h => h) hN hnow know (by decide) rfl (g_X10_greatestHops l g hN hB.2.1 now hnow know) q_cX11_236 q_dX10_greatestHops (by decide) rfl rfl hl.1 rfl (Nat.le_of_ble_eq_true rfl) dX11_widest_4 (fun y7 H locs f6 ry7 h8 hF hB => ?_)
  obtain ⟨rfl, ly7, uy7⟩ := h8
  refine q_iret cx hr hlk hB dX11_widest_7 ⟨by omega, by omega⟩ ?_
  exact rfl
set_option maxHeartbeats 4000000 in
set_option maxRecDepth 100000 in
theorem x_takesIn (l : Launch) (g : q_G) {K : Nat → Nat} {L : List Nat} (hN : L.Nodup) {f : Nat → va_E} (hT : q_Ty g K L f) (x : Nat) (hx : x ∈ L) (kx : K x = 11) (src : Nat) (hsrc : src ∈ L) (ksrc : K src = 8) (rdr : Nat) (hrdr : rdr ∈ L) (krdr : K rdr = 9) (scr : Nat) (hscr : scr ∈ L) (kscr : K scr = 7) (fc : Nat) (hfc : fc ∈ L) (kfc : K fc = 1) (hist : Nat) (hhist : hist ∈ L) (khist : K hist = 2) (rep : Nat) (hrep : rep ∈ L) (krep : K rep = 6) (now : Nat) (hnow : now ∈ L) (know : K now = 10) (dr : Nat) (hdr : dr ∈ L) (kdr : K dr = 13) (sv : Nat) (hsv : sv ∈ L) (ksv : K sv = 14) (tr : Nat) (htr : tr ∈ L) (ktr : K tr = 15) (hr0 : q_ir (q_r f x 0) src) (hr1 : q_ir (q_r f x 1) rdr) (hr2 : q_ir (q_r f x 2) scr) (hr3 : q_ir (q_r f x 3) fc) (hr4 : q_ir (q_r f x 4) hist) (hr5 : q_ir (q_r f x 5) rep) (hr6 : q_ir (q_r f x 6) now) (hr7 : q_ir (q_r f x 7) dr) (hr8 : q_ir (q_r f x 8) sv) (hr9 : q_ir (q_r f fc 0) tr) : q_Ct l g K L yX11_takesIn cX11_takesIn 1 (some .int) 6 147 [.ref x] f [(15, 3, 15), (19, 0, 9), (23, 0, 4), (27, 0, 7)] (q_Pi (fun (z : Int) (f1 : Nat → va_E) => True)) := by
  refine q_ofb (by decide +kernel) hN hT (Nat.le_of_ble_eq_true rfl) ?_
  intro p e s m below meth c ls cx hr hlk hB hl
  have hl : lv_has ls 1 [(0, .ref x)] := hl
  obtain ⟨H, hH⟩ : ∃ H : Heap, H = s.heap := ⟨_, rfl⟩
  obtain ⟨locs, hlocs⟩ : ∃ z : List Loc, z = [] := ⟨_, rfl⟩
  rw [← hH, ← hlocs] at hB
  rw [← hH, ← hlocs]
  refine q_ald_n cx dX11_takesIn_0 rfl (lv_at hl 0 rfl) ?_
  refine q_gX11_33 cx hB hx kx hr3 dX11_takesIn_1 (fun hb16 kb16 => ?_)
  refine q_ald_n cx dX11_takesIn_4 rfl (lv_at hl 0 rfl) ?_
  refine q_gX11_54 cx hB hx kx hr6 dX11_takesIn_5 (fun hb17 kb17 => ?_)
  refine q_cVi (As := [.ref now]) (rest := []) cx hB (fun _ h => h) hN hfc kfc (by decide) rfl (g_X1_ticksToShiftTaken l g hN hB.2.1 fc hfc kfc now hnow know) q_cX11_258 q_dX1_ticksToShiftTaken (by decide) rfl rfl hl.1 rfl (Nat.le_of_ble_eq_true rfl) dX11_takesIn_8 (fun y19 H locs f18 ry19 h20 hF hB => ?_)
  obtain ⟨ly19, uy19⟩ := h20
  have z21 : q_ir (q_r f18 x 0) src := Eq.trans (hF.r hx (by rw [kx]; rfl)) hr0
  have z22 : q_ir (q_r f18 x 1) rdr := Eq.trans (hF.r hx (by rw [kx]; rfl)) hr1
  have z23 : q_ir (q_r f18 x 2) scr := Eq.trans (hF.r hx (by rw [kx]; rfl)) hr2
  have z24 : q_ir (q_r f18 x 3) fc := Eq.trans (hF.r hx (by rw [kx]; rfl)) hr3
  have z25 : q_ir (q_r f18 x 4) hist := Eq.trans (hF.r hx (by rw [kx]; rfl)) hr4
  have z26 : q_ir (q_r f18 x 5) rep := Eq.trans (hF.r hx (by rw [kx]; rfl)) hr5
  have z27 : q_ir (q_r f18 x 6) now := Eq.trans (hF.r hx (by rw [kx]; rfl)) hr6
  have z28 : q_ir (q_r f18 x 7) dr := Eq.trans (hF.r hx (by rw [kx]; rfl)) hr7
  have z29 : q_ir (q_r f18 x 8) sv := Eq.trans (hF.r hx (by rw [kx]; rfl)) hr8
  have z30 : q_ir (q_r f18 fc 0) tr := Eq.trans (hF.r hfc (by rw [kfc]; rfl)) hr9
  refine q_iret cx hr hlk hB dX11_takesIn_11 ⟨by omega, by omega⟩ ?_
  trivial
set_option maxHeartbeats 4000000 in
set_option maxRecDepth 100000 in
theorem x_report (l : Launch) (g : q_G) {K : Nat → Nat} {L : List Nat} (hN : L.Nodup) {f : Nat → va_E} (hT : q_Ty g K L f) (x : Nat) (hx : x ∈ L) (kx : K x = 11) (src : Nat) (hsrc : src ∈ L) (ksrc : K src = 8) (rdr : Nat) (hrdr : rdr ∈ L) (krdr : K rdr = 9) (scr : Nat) (hscr : scr ∈ L) (kscr : K scr = 7) (fc : Nat) (hfc : fc ∈ L) (kfc : K fc = 1) (hist : Nat) (hhist : hist ∈ L) (khist : K hist = 2) (rep : Nat) (hrep : rep ∈ L) (krep : K rep = 6) (now : Nat) (hnow : now ∈ L) (know : K now = 10) (dr : Nat) (hdr : dr ∈ L) (kdr : K dr = 13) (sv : Nat) (hsv : sv ∈ L) (ksv : K sv = 14) (tr : Nat) (htr : tr ∈ L) (ktr : K tr = 15) (hr0 : q_ir (q_r f x 0) src) (hr1 : q_ir (q_r f x 1) rdr) (hr2 : q_ir (q_r f x 2) scr) (hr3 : q_ir (q_r f x 3) fc) (hr4 : q_ir (q_r f x 4) hist) (hr5 : q_ir (q_r f x 5) rep) (hr6 : q_ir (q_r f x 6) now) (hr7 : q_ir (q_r f x 7) dr) (hr8 : q_ir (q_r f x 8) sv) (hr9 : q_ir (q_r f fc 0) tr) : q_Ct l g K L yX11_report cX11_report 1 (some .int) 5 112 [.ref x] f [(6, 1, 1), (143, 0, 599)] (q_Pi (fun (z : Int) (f1 : Nat → va_E) => True)) := by
  refine q_ofb (by decide +kernel) hN hT (Nat.le_of_ble_eq_true rfl) ?_
  intro p e s m below meth c ls cx hr hlk hB hl
  have hl : lv_has ls 1 [(0, .ref x)] := hl
  obtain ⟨H, hH⟩ : ∃ H : Heap, H = s.heap := ⟨_, rfl⟩
  obtain ⟨locs, hlocs⟩ : ∃ z : List Loc, z = [] := ⟨_, rfl⟩
  rw [← hH, ← hlocs] at hB
  rw [← hH, ← hlocs]
  refine q_ald_n cx dX11_report_0 rfl (lv_at hl 0 rfl) ?_
  refine q_gX11_47 cx hB hx kx hr5 dX11_report_1 (fun hb16 kb16 => ?_)
  refine q_ald_n cx dX11_report_4 rfl (lv_at hl 0 rfl) ?_
  refine q_gX11_54 cx hB hx kx hr6 dX11_report_5 (fun hb17 kb17 => ?_)
  refine q_cVi (As := [.ref now]) (rest := []) cx hB (fun _ h => h) hN hrep krep (by decide) rfl (g_X6_writeOf l g hN hB.2.1 rep hrep krep now hnow know) q_cX11_316 q_dX6_writeOf (by decide) rfl rfl hl.1 rfl (Nat.le_of_ble_eq_true rfl) dX11_report_8 (fun y19 H locs f18 ry19 h20 hF hB => ?_)
  have z21 : q_ir (q_r f18 x 0) src := Eq.trans (hF.r hx (by rw [kx]; rfl)) hr0
  have z22 : q_ir (q_r f18 x 1) rdr := Eq.trans (hF.r hx (by rw [kx]; rfl)) hr1
  have z23 : q_ir (q_r f18 x 2) scr := Eq.trans (hF.r hx (by rw [kx]; rfl)) hr2
  have z24 : q_ir (q_r f18 x 3) fc := Eq.trans (hF.r hx (by rw [kx]; rfl)) hr3
  have z25 : q_ir (q_r f18 x 4) hist := Eq.trans (hF.r hx (by rw [kx]; rfl)) hr4
  have z26 : q_ir (q_r f18 x 5) rep := Eq.trans (hF.r hx (by rw [kx]; rfl)) hr5
  have z27 : q_ir (q_r f18 x 6) now := Eq.trans (hF.r hx (by rw [kx]; rfl)) hr6
  have z28 : q_ir (q_r f18 x 7) dr := Eq.trans (hF.r hx (by rw [kx]; rfl)) hr7
  have z29 : q_ir (q_r f18 x 8) sv := Eq.trans (hF.r hx (by rw [kx]; rfl)) hr8
  have z30 : q_ir (q_r f18 fc 0) tr := Eq.trans (hF.r hfc (by rw [kfc]; rfl)) hr9
  refine q_iret cx hr hlk hB dX11_report_11 ⟨by omega, by omega⟩ ?_
  trivial
set_option maxHeartbeats 4000000 in
set_option maxRecDepth 100000 in
theorem x_undo (l : Launch) (g : q_G) {K : Nat → Nat} {L : List Nat} (hN : L.Nodup) {f : Nat → va_E} (hT : q_Ty g K L f) (x : Nat) (hx : x ∈ L) (kx : K x = 11) (src : Nat) (hsrc : src ∈ L) (ksrc : K src = 8) (rdr : Nat) (hrdr : rdr ∈ L) (krdr : K rdr = 9) (scr : Nat) (hscr : scr ∈ L) (kscr : K scr = 7) (fc : Nat) (hfc : fc ∈ L) (kfc : K fc = 1) (hist : Nat) (hhist : hist ∈ L) (khist : K hist = 2) (rep : Nat) (hrep : rep ∈ L) (krep : K rep = 6) (now : Nat) (hnow : now ∈ L) (know : K now = 10) (dr : Nat) (hdr : dr ∈ L) (kdr : K dr = 13) (sv : Nat) (hsv : sv ∈ L) (ksv : K sv = 14) (tr : Nat) (htr : tr ∈ L) (ktr : K tr = 15) (hr0 : q_ir (q_r f x 0) src) (hr1 : q_ir (q_r f x 1) rdr) (hr2 : q_ir (q_r f x 2) scr) (hr3 : q_ir (q_r f x 3) fc) (hr4 : q_ir (q_r f x 4) hist) (hr5 : q_ir (q_r f x 5) rep) (hr6 : q_ir (q_r f x 6) now) (hr7 : q_ir (q_r f x 7) dr) (hr8 : q_ir (q_r f x 8) sv) (hr9 : q_ir (q_r f fc 0) tr) : q_Ct l g K L yX11_undo cX11_undo 1 (some .int) 3 64 [.ref x] f [(2, 1, 2), (3, 0, 4), (4, 0, 7), (5, 0, 8), (10, 3, 12)] (q_Pi (fun (z : Int) (f1 : Nat → va_E) => True)) := by
  refine q_ofb (by decide +kernel) hN hT (Nat.le_of_ble_eq_true rfl) ?_
  intro p e s m below meth c ls cx hr hlk hB hl
  have hl : lv_has ls 1 [(0, .ref x)] := hl
  obtain ⟨H, hH⟩ : ∃ H : Heap, H = s.heap := ⟨_, rfl⟩
  obtain ⟨locs, hlocs⟩ : ∃ z : List Loc, z = [] := ⟨_, rfl⟩
  rw [← hH, ← hlocs] at hB
  rw [← hH, ← hlocs]
  refine q_ald_n cx dX11_undo_0 rfl (lv_at hl 0 rfl) ?_
  refine q_gX11_40 cx hB hx kx hr4 dX11_undo_1 (fun hb20 kb20 => ?_)
  refine q_ald_n cx dX11_undo_4 rfl (lv_at hl 0 rfl) ?_
  refine q_gX11_54 cx hB hx kx hr6 dX11_undo_5 (fun hb21 kb21 => ?_)
  refine q_cVi (As := [.ref now]) (rest := []) cx hB (fun _ h => h) hN hhist khist (by decide) rfl (g_X2_takeBack l g hN hB.2.1 hist hhist khist now hnow know) q_cX11_325 q_dX2_takeBack (by decide) rfl rfl hl.1 rfl (Nat.le_of_ble_eq_true rfl) dX11_undo_8 (fun y23 H locs f22 ry23 h24 hF hB => ?_)
  obtain ⟨ly23, uy23⟩ := h24
  have z25 : q_ir (q_r f22 x 0) src := Eq.trans (hF.r hx (by rw [kx]; rfl)) hr0
  have z26 : q_ir (q_r f22 x 1) rdr := Eq.trans (hF.r hx (by rw [kx]; rfl)) hr1
  have z27 : q_ir (q_r f22 x 2) scr := Eq.trans (hF.r hx (by rw [kx]; rfl)) hr2
  have z28 : q_ir (q_r f22 x 3) fc := Eq.trans (hF.r hx (by rw [kx]; rfl)) hr3
  have z29 : q_ir (q_r f22 x 4) hist := Eq.trans (hF.r hx (by rw [kx]; rfl)) hr4
  have z30 : q_ir (q_r f22 x 5) rep := Eq.trans (hF.r hx (by rw [kx]; rfl)) hr5
  have z31 : q_ir (q_r f22 x 6) now := Eq.trans (hF.r hx (by rw [kx]; rfl)) hr6
  have z32 : q_ir (q_r f22 x 7) dr := Eq.trans (hF.r hx (by rw [kx]; rfl)) hr7
  have z33 : q_ir (q_r f22 x 8) sv := Eq.trans (hF.r hx (by rw [kx]; rfl)) hr8
  have z34 : q_ir (q_r f22 fc 0) tr := Eq.trans (hF.r hfc (by rw [kfc]; rfl)) hr9
  refine q_ifeq (tgt := 24) cx ⟨by omega, by omega⟩ dX11_undo_11 (by decide) (fun c35 => ?_) (fun c35 => ?_)
  · refine q_iconst cx dX11_undo_24 ?_
    refine q_iret cx hr hlk hB dX11_undo_25 ⟨by decide, by decide⟩ ?_
    trivial
  · refine q_ald_n cx dX11_undo_14 rfl (lv_at hl 0 rfl) ?_
    refine q_gX11_40 cx hB hx kx z29 dX11_undo_15 (fun hb36 kb36 => ?_)
    obtain ⟨x37, ex37⟩ : ∃ zz, q_is (q_z f22 hist 2) zz := ⟨_, q_isr _⟩
    refine q_gX11_122 cx hB hhist khist ex37 dX11_undo_18 (fun lb38 ub38 => ?_)
    refine lv_goto (tgt := 25) cx.1 cx.2.1 dX11_undo_21 (by decide) ?_
    refine q_iret cx hr hlk hB dX11_undo_25 ⟨by omega, by omega⟩ ?_
    trivial
set_option maxHeartbeats 4000000 in
set_option maxRecDepth 100000 in
theorem x_save (l : Launch) (g : q_G) {K : Nat → Nat} {L : List Nat} (hN : L.Nodup) {f : Nat → va_E} (hT : q_Ty g K L f) (x : Nat) (hx : x ∈ L) (kx : K x = 11) (src : Nat) (hsrc : src ∈ L) (ksrc : K src = 8) (rdr : Nat) (hrdr : rdr ∈ L) (krdr : K rdr = 9) (scr : Nat) (hscr : scr ∈ L) (kscr : K scr = 7) (fc : Nat) (hfc : fc ∈ L) (kfc : K fc = 1) (hist : Nat) (hhist : hist ∈ L) (khist : K hist = 2) (rep : Nat) (hrep : rep ∈ L) (krep : K rep = 6) (now : Nat) (hnow : now ∈ L) (know : K now = 10) (dr : Nat) (hdr : dr ∈ L) (kdr : K dr = 13) (sv : Nat) (hsv : sv ∈ L) (ksv : K sv = 14) (tr : Nat) (htr : tr ∈ L) (ktr : K tr = 15) (hr0 : q_ir (q_r f x 0) src) (hr1 : q_ir (q_r f x 1) rdr) (hr2 : q_ir (q_r f x 2) scr) (hr3 : q_ir (q_r f x 3) fc) (hr4 : q_ir (q_r f x 4) hist) (hr5 : q_ir (q_r f x 5) rep) (hr6 : q_ir (q_r f x 6) now) (hr7 : q_ir (q_r f x 7) dr) (hr8 : q_ir (q_r f x 8) sv) (hr9 : q_ir (q_r f fc 0) tr) : q_Ct l g K L yX11_save cX11_save 1 (some .int) 2 43 [.ref x] f [(11, 9, 9), (14, 3, 12), (18, 0, 8), (22, 0, 4), (26, 0, 7)] (q_Pi (fun (z : Int) (f1 : Nat → va_E) => True)) := by
  refine q_ofb (by decide +kernel) hN hT (Nat.le_of_ble_eq_true rfl) ?_
  intro p e s m below meth c ls cx hr hlk hB hl
  have hl : lv_has ls 1 [(0, .ref x)] := hl
  obtain ⟨H, hH⟩ : ∃ H : Heap, H = s.heap := ⟨_, rfl⟩
  obtain ⟨locs, hlocs⟩ : ∃ z : List Loc, z = [] := ⟨_, rfl⟩
  rw [← hH, ← hlocs] at hB
  rw [← hH, ← hlocs]
  refine q_ald_n cx dX11_save_0 rfl (lv_at hl 0 rfl) ?_
  refine q_gX11_61 cx hB hx kx hr8 dX11_save_1 (fun hb31 kb31 => ?_)
  refine q_ald_n cx dX11_save_4 rfl (lv_at hl 0 rfl) ?_
  refine q_gX11_54 cx hB hx kx hr6 dX11_save_5 (fun hb32 kb32 => ?_)
  refine q_cVv (As := [.ref now]) (rest := []) cx hB (fun _ h => h) hN hsv ksv (by decide) rfl (g_X10_copyFrom_20 l g hN hB.2.1 sv hsv ksv now hnow know) q_cX11_94 q_dX10_copyFrom (by decide) rfl rfl hl.1 rfl (Nat.le_of_ble_eq_true rfl) dX11_save_8 (fun H locs f33 h35 hF hB => ?_)
  have z36 : q_ir (q_r f33 x 0) src := Eq.trans (hF.r hx (by rw [kx]; rfl)) hr0
  have z37 : q_ir (q_r f33 x 1) rdr := Eq.trans (hF.r hx (by rw [kx]; rfl)) hr1
  have z38 : q_ir (q_r f33 x 2) scr := Eq.trans (hF.r hx (by rw [kx]; rfl)) hr2
  have z39 : q_ir (q_r f33 x 3) fc := Eq.trans (hF.r hx (by rw [kx]; rfl)) hr3
  have z40 : q_ir (q_r f33 x 4) hist := Eq.trans (hF.r hx (by rw [kx]; rfl)) hr4
  have z41 : q_ir (q_r f33 x 5) rep := Eq.trans (hF.r hx (by rw [kx]; rfl)) hr5
  have z42 : q_ir (q_r f33 x 6) now := Eq.trans (hF.r hx (by rw [kx]; rfl)) hr6
  have z43 : q_ir (q_r f33 x 7) dr := Eq.trans (hF.r hx (by rw [kx]; rfl)) hr7
  have z44 : q_ir (q_r f33 x 8) sv := Eq.trans (hF.r hx (by rw [kx]; rfl)) hr8
  have z45 : q_ir (q_r f33 fc 0) tr := Eq.trans (hF.r hfc (by rw [kfc]; rfl)) hr9
  refine q_ald_n cx dX11_save_11 rfl (lv_at hl 0 rfl) ?_
  refine q_iconst cx dX11_save_12 ?_
  refine q_pX11_329 cx hB hx kx ⟨by decide, by decide⟩ (by decide) (by decide) rfl dX11_save_13 (fun H locs f46 ef46 z47 hB => ?_)
  have z48 : q_ir (q_r f46 x 0) src := by rw [ef46, q_setr (Or.inr (by decide))]; exact z36
  have z49 : q_ir (q_r f46 x 1) rdr := by rw [ef46, q_setr (Or.inr (by decide))]; exact z37
  have z50 : q_ir (q_r f46 x 2) scr := by rw [ef46, q_setr (Or.inr (by decide))]; exact z38
  have z51 : q_ir (q_r f46 x 3) fc := by rw [ef46, q_setr (Or.inr (by decide))]; exact z39
  have z52 : q_ir (q_r f46 x 4) hist := by rw [ef46, q_setr (Or.inr (by decide))]; exact z40
  have z53 : q_ir (q_r f46 x 5) rep := by rw [ef46, q_setr (Or.inr (by decide))]; exact z41
  have z54 : q_ir (q_r f46 x 6) now := by rw [ef46, q_setr (Or.inr (by decide))]; exact z42
  have z55 : q_ir (q_r f46 x 7) dr := by rw [ef46, q_setr (Or.inr (by decide))]; exact z43
  have z56 : q_ir (q_r f46 x 8) sv := by rw [ef46, q_setr (Or.inr (by decide))]; exact z44
  have z57 : q_ir (q_r f46 fc 0) tr := by rw [ef46, q_setr (Or.inr (by decide))]; exact z45
  refine q_ald_n cx dX11_save_16 rfl (lv_at hl 0 rfl) ?_
  refine q_gX11_54 cx hB hx kx z54 dX11_save_17 (fun hb58 kb58 => ?_)
  obtain ⟨x59, ex59⟩ : ∃ zz, q_is (q_z f46 now 11) zz := ⟨_, q_isr _⟩
  refine q_gX11_333 cx hB hnow know ex59 dX11_save_20 (fun lb60 ub60 => ?_)
  refine q_iret cx hr hlk hB dX11_save_23 ⟨by omega, by omega⟩ ?_
  trivial
