set_option maxHeartbeats 4000000 in
set_option maxRecDepth 100000 in
theorem f_xtick (l : Launch) (g : q_G) (ad : Nat → Nat) {K : Nat → Nat} {L : List Nat} (hN : L.Nodup) {f : Nat → va_E} (hT : q_Ty g K L f) (hfl : l.stackTraces = false) (nl9 : List (List Int)) (x : Nat) (hx : x ∈ L) (kx : K x = 11) (a0 : Int) (la0 : (-2147483648) ≤ a0) (ua0 : a0 ≤ 2147483647) (so : Nat) (hso : so ∈ L) (kso : K so = 8) (rd : Nat) (hrd : rd ∈ L) (krd : K rd = 9) (scr : Nat) (hscr : scr ∈ L) (kscr : K scr = 7) (fc : Nat) (hfc : fc ∈ L) (kfc : K fc = 1) (hist : Nat) (hhist : hist ∈ L) (khist : K hist = 2) (rep : Nat) (hrep : rep ∈ L) (krep : K rep = 6) (now : Nat) (hnow : now ∈ L) (know : K now = 10) (dr : Nat) (hdr : dr ∈ L) (kdr : K dr = 13) (sv : Nat) (hsv : sv ∈ L) (ksv : K sv = 14) (tr : Nat) (htr : tr ∈ L) (ktr : K tr = 15) (ba : Nat) (hba : ba ∈ L) (kba : K ba = 142) (nds : Nat) (hnds : nds ∈ L) (knds : K nds = 111) (ka : Nat) (hka : ka ∈ L) (kka : K ka = 140) (ndn : Nat) (hndn : ndn ∈ L) (kndn : K ndn = 110) (nsv : Nat) (hnsv : nsv ∈ L) (knsv : K nsv = 112) (hr0 : q_ir (q_r f x 0) so) (hr1 : q_ir (q_r f x 1) rd) (hr2 : q_ir (q_r f x 2) scr) (hr3 : q_ir (q_r f x 3) fc) (hr4 : q_ir (q_r f x 4) hist) (hr5 : q_ir (q_r f x 5) rep) (hr6 : q_ir (q_r f x 6) now) (hr7 : q_ir (q_r f x 7) dr) (hr8 : q_ir (q_r f x 8) sv) (hr9 : q_ir (q_r f fc 0) tr) (hr10 : q_ir (q_r f so 0) ba) (hr11 : q_ir (q_r f dr 0) nds) (hr12 : q_ir (q_r f hist 0) ka) (hr13 : q_ir (q_r f now 0) ndn) (hr14 : q_ir (q_r f sv 0) nsv) (hvn : tk_vn K L 5 f now ndn nl9) (hvk : tk_vk K L f hist ka now ndn) : q_Xt l g ad K L yX11_tick cX11_tick 2 (some .int) 6 125 1 6 [.ref x, .int (q_i a0)] f [(2, 1, 2), (3, 2, 4), (4, 2, 3), (4, 5, 6), (5, 3, 4), (5, 6, 9), (10, 11, 15), (16, 3, 12), (20, 0, 8), (24, 0, 4), (28, 0, 7)] (q_Pi (fun (z : Int) (f1 : Nat → va_E) => (tk_vk K L f1 hist ka now ndn))) (fun (E : String) (f1 : Nat → va_E) => (E = "java/lang/IllegalArgumentException" ∧ f = f1) ∨ (E = "java/lang/IllegalStateException" ∧ f = f1)) := by
  refine q_xofb (by decide +kernel) hN hT (Nat.le_of_ble_eq_true rfl) ?_
  intro p e s m below meth c ls cx hr hlk htab hX hB hl
  have hl : lv_has ls 2 [(0, .ref x), (1, .int (q_i a0))] := hl
  obtain ⟨H, hH⟩ : ∃ H : Heap, H = s.heap := ⟨_, rfl⟩
  obtain ⟨locs, hlocs⟩ : ∃ z : List Loc, z = [] := ⟨_, rfl⟩
  rw [← hH, ← hlocs] at hB
  rw [← hH, ← hlocs]
  refine q_ild_n cx dX11_tick_0 rfl (lv_at hl 1 rfl) ?_
  refine q_cSi (As := [.int (q_i a0)]) (rest := []) cx hB (fun _ h => h) hN (g_X10_isTickCount l g hN hB.2.1 a0 (by omega) (by omega)) q_cX11_267 q_dX10_isTickCount (by decide) rfl rfl hl.1 rfl (Nat.le_of_ble_eq_true rfl) dX11_tick_1 (fun y54 H locs f53 ry54 h55 hF hB => ?_)
  obtain ⟨rfl, ly54, uy54⟩ := h55
  refine q_ifne (tgt := 17) cx ⟨by omega, by omega⟩ dX11_tick_4 (by decide) (fun c56 => ?_) (fun c56 => ?_)
  · refine q_ald_n cx dX11_tick_17 rfl (lv_at hl 0 rfl) ?_
    refine q_gX11_54 cx hB hx kx hr6 dX11_tick_18 (fun hb57 kb57 => ?_)
    refine q_ild_n cx dX11_tick_21 rfl (lv_at hl 1 rfl) ?_
    refine q_cVi (As := [.int (q_i a0)]) (rest := []) cx hB (fun _ h => h) hN hnow know (by decide) rfl (g_X10_hasTimeFor l g hN hB.2.1 now hnow know a0 (by omega) (by omega)) q_cX11_270 q_dX10_hasTimeFor (by decide) rfl rfl hl.1 rfl (Nat.le_of_ble_eq_true rfl) dX11_tick_22 (fun y59 H locs f58 ry59 h60 hF hB => ?_)
    obtain ⟨rfl, ly59, uy59⟩ := h60
    refine q_ifne (tgt := 39) cx ⟨by omega, by omega⟩ dX11_tick_25 (by decide) (fun c61 => ?_) (fun c61 => ?_)
    · refine q_ald_n cx dX11_tick_39 rfl (lv_at hl 0 rfl) ?_
      refine q_gX11_40 cx hB hx kx hr4 dX11_tick_40 (fun hb62 kb62 => ?_)
      refine q_ald_n cx dX11_tick_43 rfl (lv_at hl 0 rfl) ?_
      refine q_gX11_54 cx hB hx kx hr6 dX11_tick_44 (fun hb63 kb63 => ?_)
      refine q_cVv (As := [.ref now]) (rest := []) cx hB (fun _ h => h) hN hhist khist (by decide) rfl (f_keep l g hN hB.2.1 nl9 hist hhist khist now hnow know ka hka kka ndn hndn kndn hr12 hr13 hvn hvk) q_cX11_107 q_dX2_keep (by decide) rfl rfl hl.1 rfl (Nat.le_of_ble_eq_true rfl) dX11_tick_47 (fun H locs f64 h66 hF hB => ?_)
      have t67 := h66
      have z68 : q_ir (q_r f64 x 0) so := Eq.trans (hF.r hx (by rw [kx]; rfl)) hr0
      have z69 : q_ir (q_r f64 x 1) rd := Eq.trans (hF.r hx (by rw [kx]; rfl)) hr1
      have z70 : q_ir (q_r f64 x 2) scr := Eq.trans (hF.r hx (by rw [kx]; rfl)) hr2
      have z71 : q_ir (q_r f64 x 3) fc := Eq.trans (hF.r hx (by rw [kx]; rfl)) hr3
      have z72 : q_ir (q_r f64 x 4) hist := Eq.trans (hF.r hx (by rw [kx]; rfl)) hr4
      have z73 : q_ir (q_r f64 x 5) rep := Eq.trans (hF.r hx (by rw [kx]; rfl)) hr5
      have z74 : q_ir (q_r f64 x 6) now := Eq.trans (hF.r hx (by rw [kx]; rfl)) hr6
      have z75 : q_ir (q_r f64 x 7) dr := Eq.trans (hF.r hx (by rw [kx]; rfl)) hr7
      have z76 : q_ir (q_r f64 x 8) sv := Eq.trans (hF.r hx (by rw [kx]; rfl)) hr8
      have z77 : q_ir (q_r f64 fc 0) tr := Eq.trans (hF.r hfc (by rw [kfc]; rfl)) hr9
      have z78 : q_ir (q_r f64 so 0) ba := Eq.trans (hF.r hso (by rw [kso]; rfl)) hr10
      have z79 : q_ir (q_r f64 dr 0) nds := Eq.trans (hF.r hdr (by rw [kdr]; rfl)) hr11
      have z80 : q_ir (q_r f64 hist 0) ka := Eq.trans (hF.r hhist (by rw [khist]; rfl)) hr12
      have z81 : q_ir (q_r f64 now 0) ndn := Eq.trans (hF.r hnow (by rw [know]; rfl)) hr13
      have z82 : q_ir (q_r f64 sv 0) nsv := Eq.trans (hF.r hsv (by rw [ksv]; rfl)) hr14
      have g83 : tk_vn K L 5 f64 now ndn nl9 := tk_vn_tr hvn (hF.z hnow (by rw [know]; rfl)) (fun a9 h9 k9 => hF.j h9 (by rw [k9]; rfl)) (fun i9 => hF.r hndn (by rw [kndn]; rfl))
      refine q_ald_n cx dX11_tick_50 rfl (lv_at hl 0 rfl) ?_
      refine q_gX11_54 cx hB hx kx z74 dX11_tick_51 (fun hb84 kb84 => ?_)
      refine q_ild_n cx dX11_tick_54 rfl (lv_at hl 1 rfl) ?_
      refine q_cVi (As := [.int (q_i a0)]) (rest := []) cx hB (fun _ h => h) hN hnow know (by decide) rfl (g_X10_passTicks l g hN hB.2.1 now hnow know a0 (by omega) (by omega)) q_cX11_275 q_dX10_passTicks (by decide) rfl rfl hl.1 rfl (Nat.le_of_ble_eq_true rfl) dX11_tick_55 (fun y86 H locs f85 ry86 h87 hF hB => ?_)
      have z88 : q_ir (q_r f85 x 0) so := Eq.trans (hF.r hx (by rw [kx]; rfl)) z68
      have z89 : q_ir (q_r f85 x 1) rd := Eq.trans (hF.r hx (by rw [kx]; rfl)) z69
      have z90 : q_ir (q_r f85 x 2) scr := Eq.trans (hF.r hx (by rw [kx]; rfl)) z70
      have z91 : q_ir (q_r f85 x 3) fc := Eq.trans (hF.r hx (by rw [kx]; rfl)) z71
      have z92 : q_ir (q_r f85 x 4) hist := Eq.trans (hF.r hx (by rw [kx]; rfl)) z72
      have z93 : q_ir (q_r f85 x 5) rep := Eq.trans (hF.r hx (by rw [kx]; rfl)) z73
      have z94 : q_ir (q_r f85 x 6) now := Eq.trans (hF.r hx (by rw [kx]; rfl)) z74
      have z95 : q_ir (q_r f85 x 7) dr := Eq.trans (hF.r hx (by rw [kx]; rfl)) z75
      have z96 : q_ir (q_r f85 x 8) sv := Eq.trans (hF.r hx (by rw [kx]; rfl)) z76
      have z97 : q_ir (q_r f85 fc 0) tr := Eq.trans (hF.r hfc (by rw [kfc]; rfl)) z77
      have z98 : q_ir (q_r f85 so 0) ba := Eq.trans (hF.r hso (by rw [kso]; rfl)) z78
      have z99 : q_ir (q_r f85 dr 0) nds := Eq.trans (hF.r hdr (by rw [kdr]; rfl)) z79
      have z100 : q_ir (q_r f85 hist 0) ka := Eq.trans (hF.r hhist (by rw [khist]; rfl)) z80
      have z101 : q_ir (q_r f85 now 0) ndn := Eq.trans (hF.r hnow (by rw [know]; rfl)) z81
      have z102 : q_ir (q_r f85 sv 0) nsv := Eq.trans (hF.r hsv (by rw [ksv]; rfl)) z82
      have g103 : tk_vn K L 5 f85 now ndn nl9 := tk_vn_tr g83 (hF.z hnow (by rw [know]; rfl)) (fun a9 h9 k9 => hF.j h9 (by rw [k9]; rfl)) (fun i9 => hF.r hndn (by rw [kndn]; rfl))
      have g104 : tk_vk K L f85 hist ka now ndn := tk_vk_tr t67 (hF.z hhist (by rw [khist]; rfl)) (hF.z hhist (by rw [khist]; rfl)) (hF.z hnow (by rw [know]; rfl)) (fun a9 h9 k9 => hF.j h9 (by rw [k9]; rfl)) (fun i9 => hF.r hndn (by rw [kndn]; rfl)) (fun a9 h9 k9 => hF.z h9 (by rw [k9]; rfl)) (fun a9 h9 k9 => hF.j h9 (by rw [k9]; rfl)) (fun i9 => hF.r hka (by rw [kka]; rfl)) (fun a9 h9 k9 => hF.r h9 (by rw [k9]; rfl)) (fun a9 h9 k9 i9 => hF.r h9 (by rw [k9]; rfl))
      refine W.widen (k := 1) (n := 6) (by decide) (by decide) ?_
      refine vx_ret ?_
      refine q_iret cx hr hlk hB dX11_tick_58 ⟨by omega, by omega⟩ ?_
      exact g104
    · exact q_throw (text := "the time would be too late") hfl cx hlk htab hX hB hl.1 (by decide +kernel) q_h801 q_h151 (by decide +kernel) q_xl72a q_xl72b q_xl72c dX11_tick_28 dX11_tick_31 (Or.inr ⟨dX11_tick_32, dX11_tick_35, dX11_tick_38⟩) (by decide) (by decide) (Or.inr ⟨rfl, rfl⟩)
  · exact q_throw (text := "ticks are out of range") hfl cx hlk htab hX hB hl.1 (by decide +kernel) q_h880 q_h152 (by decide +kernel) q_xl87a q_xl87b q_xl87c dX11_tick_7 dX11_tick_10 (Or.inl ⟨dX11_tick_11, dX11_tick_13, dX11_tick_16⟩) (by decide) (by decide) (Or.inl ⟨rfl, rfl⟩)
set_option maxHeartbeats 4000000 in
set_option maxRecDepth 100000 in
theorem f_xsend (l : Launch) (g : q_G) (ad : Nat → Nat) {K : Nat → Nat} {L : List Nat} (hN : L.Nodup) {f : Nat → va_E} (hT : q_Ty g K L f) (hfl : l.stackTraces = false) (nl9 : List (List Int)) (x : Nat) (hx : x ∈ L) (kx : K x = 11) (a0 : Int) (la0 : (-2147483648) ≤ a0) (ua0 : a0 ≤ 2147483647) (b0 : Int) (lb0 : (-2147483648) ≤ b0) (ub0 : b0 ≤ 2147483647) (c0 : Int) (lc0 : (-2147483648) ≤ c0) (uc0 : c0 ≤ 2147483647) (z0 : Int) (lz0 : 0 ≤ z0) (uz0 : z0 ≤ 1) (so : Nat) (hso : so ∈ L) (kso : K so = 8) (rd : Nat) (hrd : rd ∈ L) (krd : K rd = 9) (scr : Nat) (hscr : scr ∈ L) (kscr : K scr = 7) (fc : Nat) (hfc : fc ∈ L) (kfc : K fc = 1) (hist : Nat) (hhist : hist ∈ L) (khist : K hist = 2) (rep : Nat) (hrep : rep ∈ L) (krep : K rep = 6) (now : Nat) (hnow : now ∈ L) (know : K now = 10) (dr : Nat) (hdr : dr ∈ L) (kdr : K dr = 13) (sv : Nat) (hsv : sv ∈ L) (ksv : K sv = 14) (tr : Nat) (htr : tr ∈ L) (ktr : K tr = 15) (ba : Nat) (hba : ba ∈ L) (kba : K ba = 142) (nds : Nat) (hnds : nds ∈ L) (knds : K nds = 111) (ka : Nat) (hka : ka ∈ L) (kka : K ka = 140) (ndn : Nat) (hndn : ndn ∈ L) (kndn : K ndn = 110) (nsv : Nat) (hnsv : nsv ∈ L) (knsv : K nsv = 112) (hr0 : q_ir (q_r f x 0) so) (hr1 : q_ir (q_r f x 1) rd) (hr2 : q_ir (q_r f x 2) scr) (hr3 : q_ir (q_r f x 3) fc) (hr4 : q_ir (q_r f x 4) hist) (hr5 : q_ir (q_r f x 5) rep) (hr6 : q_ir (q_r f x 6) now) (hr7 : q_ir (q_r f x 7) dr) (hr8 : q_ir (q_r f x 8) sv) (hr9 : q_ir (q_r f fc 0) tr) (hr10 : q_ir (q_r f so 0) ba) (hr11 : q_ir (q_r f dr 0) nds) (hr12 : q_ir (q_r f hist 0) ka) (hr13 : q_ir (q_r f now 0) ndn) (hr14 : q_ir (q_r f sv 0) nsv) (hvn : tk_vn K L 5 f now ndn nl9) (hvk : tk_vk K L f hist ka now ndn) : q_Xt l g ad K L yX11_send cX11_send 5 (some .int) 7 103 3 18 [.ref x, .int (q_i a0), .int (q_i b0), .int (q_i c0), .int (q_i z0)] f [(2, 1, 2), (4, 0, 7), (10, 5, 5), (16, 3, 12), (20, 0, 8), (24, 0, 4), (28, 0, 7)] (q_Pi (fun (z : Int) (f1 : Nat → va_E) => (tk_vk K L f1 hist ka now ndn))) (fun (E : String) (f1 : Nat → va_E) => (E = "java/lang/IndexOutOfBoundsException" ∧ f = f1) ∨ (E = "java/lang/IllegalArgumentException" ∧ f = f1) ∨ (E = "java/lang/IllegalStateException" ∧ f = f1)) := by
  refine q_xofb (by decide +kernel) hN hT (Nat.le_of_ble_eq_true rfl) ?_
  intro p e s m below meth c ls cx hr hlk htab hX hB hl
  have hl : lv_has ls 5 [(0, .ref x), (1, .int (q_i a0)), (2, .int (q_i b0)), (3, .int (q_i c0)), (4, .int (q_i z0))] := hl
  obtain ⟨H, hH⟩ : ∃ H : Heap, H = s.heap := ⟨_, rfl⟩
  obtain ⟨locs, hlocs⟩ : ∃ z : List Loc, z = [] := ⟨_, rfl⟩
  rw [← hH, ← hlocs] at hB
  rw [← hH, ← hlocs]
  refine q_ald_n cx dX11_send_0 rfl (lv_at hl 0 rfl) ?_
  refine q_ild_n cx dX11_send_1 rfl (lv_at hl 1 rfl) ?_
  refine q_cXV (As := [.int (q_i a0)]) (rest := []) cx hX hB (fun _ h => h) (fun _ h _ => h) hN hx kx (by decide) rfl (x_requireNode l g ad hN hB.2.1 hfl x hx kx a0 (by omega) (by omega) so hso kso rd hrd krd scr hscr kscr fc hfc kfc hist hhist khist rep hrep krep now hnow know dr hdr kdr sv hsv ksv tr htr ktr hr0 hr1 hr2 hr3 hr4 hr5 hr6 hr7 hr8 hr9) q_cX11_129 q_dX11_requireNode (by decide) rfl rfl hl.1 rfl (Nat.le_of_ble_eq_true rfl) dX11_send_2 (fun E9 ce9 q9 H locs f64 hex hF hB hcell hcv hcl => ?_) (fun v9 H locs f61 h63 hF hB => ?_)
  · rcases hex with ⟨rfl, rfl⟩
    · exact q_xout hlk htab hB hcell hcv hcl (by decide) (Or.inl ⟨rfl, rfl⟩)
  · obtain ⟨rfl, h63⟩ := h63
    refine W.eq (g2 := F0 m 5 ls []) rfl ?_
    obtain rfl := h63
    refine q_ald_n cx dX11_send_5 rfl (lv_at hl 0 rfl) ?_
    refine q_ild_n cx dX11_send_6 rfl (lv_at hl 2 rfl) ?_
    refine q_cXV (As := [.int (q_i b0)]) (rest := []) cx hX hB (fun _ h => h) (fun _ h _ => h) hN hx kx (by decide) rfl (x_requireNode l g ad hN hB.2.1 hfl x hx kx b0 (by omega) (by omega) so hso kso rd hrd krd scr hscr kscr fc hfc kfc hist hhist khist rep hrep krep now hnow know dr hdr kdr sv hsv ksv tr htr ktr hr0 hr1 hr2 hr3 hr4 hr5 hr6 hr7 hr8 hr9) q_cX11_129 q_dX11_requireNode (by decide) rfl rfl hl.1 rfl (Nat.le_of_ble_eq_true rfl) dX11_send_7 (fun E9 ce9 q9 H locs f68 hex hF hB hcell hcv hcl => ?_) (fun v9 H locs f65 h67 hF hB => ?_)
    · rcases hex with ⟨rfl, rfl⟩
      · exact q_xout hlk htab hB hcell hcv hcl (by decide) (Or.inl ⟨rfl, rfl⟩)
    · obtain ⟨rfl, h67⟩ := h67
      refine W.eq (g2 := F0 m 10 ls []) rfl ?_
      obtain rfl := h67
      refine q_ild_n cx dX11_send_10 rfl (lv_at hl 1 rfl) ?_
      refine q_ild_n cx dX11_send_11 rfl (lv_at hl 2 rfl) ?_
      refine q_ild_n cx dX11_send_12 rfl (lv_at hl 3 rfl) ?_
      refine q_cSi (As := [.int (q_i a0), .int (q_i b0), .int (q_i c0)]) (rest := []) cx hB (fun _ h => h) hN (g_X10_isSending l g hN hB.2.1 a0 (by omega) (by omega) b0 (by omega) (by omega) c0 (by omega) (by omega)) q_cX11_278 q_dX10_isSending (by decide) rfl rfl hl.1 rfl (Nat.le_of_ble_eq_true rfl) dX11_send_13 (fun y70 H locs f69 ry70 h71 hF hB => ?_)
      obtain ⟨rfl, ly70, uy70⟩ := h71
      refine q_ifne (tgt := 30) cx ⟨by omega, by omega⟩ dX11_send_16 (by decide) (fun c72 => ?_) (fun c72 => ?_)
      · refine q_ald_n cx dX11_send_30 rfl (lv_at hl 0 rfl) ?_
        refine q_gX11_54 cx hB hx kx hr6 dX11_send_31 (fun hb73 kb73 => ?_)
        refine q_ild_n cx dX11_send_34 rfl (lv_at hl 1 rfl) ?_
        refine q_ild_n cx dX11_send_35 rfl (lv_at hl 2 rfl) ?_
        refine q_cVi (As := [.int (q_i a0), .int (q_i b0)]) (rest := []) cx hB (fun _ h => h) hN hnow know (by decide) rfl (g_X10_canSend l g hN hB.2.1 now hnow know a0 (by omega) (by omega) b0 (by omega) (by omega)) q_cX11_284 q_dX10_canSend (by decide) rfl rfl hl.1 rfl (Nat.le_of_ble_eq_true rfl) dX11_send_36 (fun y75 H locs f74 ry75 h76 hF hB => ?_)
        obtain ⟨rfl, ly75, uy75⟩ := h76
        refine q_ifne (tgt := 53) cx ⟨by omega, by omega⟩ dX11_send_39 (by decide) (fun c77 => ?_) (fun c77 => ?_)
        · refine q_ald_n cx dX11_send_53 rfl (lv_at hl 0 rfl) ?_
          refine q_gX11_40 cx hB hx kx hr4 dX11_send_54 (fun hb78 kb78 => ?_)
          refine q_ald_n cx dX11_send_57 rfl (lv_at hl 0 rfl) ?_
          refine q_gX11_54 cx hB hx kx hr6 dX11_send_58 (fun hb79 kb79 => ?_)
          refine q_cVv (As := [.ref now]) (rest := []) cx hB (fun _ h => h) hN hhist khist (by decide) rfl (f_keep l g hN hB.2.1 nl9 hist hhist khist now hnow know ka hka kka ndn hndn kndn hr12 hr13 hvn hvk) q_cX11_107 q_dX2_keep (by decide) rfl rfl hl.1 rfl (Nat.le_of_ble_eq_true rfl) dX11_send_61 (fun H locs f80 h82 hF hB => ?_)
          have t83 := h82
          have z84 : q_ir (q_r f80 x 0) so := Eq.trans (hF.r hx (by rw [kx]; rfl)) hr0
          have z85 : q_ir (q_r f80 x 1) rd := Eq.trans (hF.r hx (by rw [kx]; rfl)) hr1
          have z86 : q_ir (q_r f80 x 2) scr := Eq.trans (hF.r hx (by rw [kx]; rfl)) hr2
          have z87 : q_ir (q_r f80 x 3) fc := Eq.trans (hF.r hx (by rw [kx]; rfl)) hr3
          have z88 : q_ir (q_r f80 x 4) hist := Eq.trans (hF.r hx (by rw [kx]; rfl)) hr4
          have z89 : q_ir (q_r f80 x 5) rep := Eq.trans (hF.r hx (by rw [kx]; rfl)) hr5
          have z90 : q_ir (q_r f80 x 6) now := Eq.trans (hF.r hx (by rw [kx]; rfl)) hr6
          have z91 : q_ir (q_r f80 x 7) dr := Eq.trans (hF.r hx (by rw [kx]; rfl)) hr7
          have z92 : q_ir (q_r f80 x 8) sv := Eq.trans (hF.r hx (by rw [kx]; rfl)) hr8
          have z93 : q_ir (q_r f80 fc 0) tr := Eq.trans (hF.r hfc (by rw [kfc]; rfl)) hr9
          have z94 : q_ir (q_r f80 so 0) ba := Eq.trans (hF.r hso (by rw [kso]; rfl)) hr10
          have z95 : q_ir (q_r f80 dr 0) nds := Eq.trans (hF.r hdr (by rw [kdr]; rfl)) hr11
          have z96 : q_ir (q_r f80 hist 0) ka := Eq.trans (hF.r hhist (by rw [khist]; rfl)) hr12
          have z97 : q_ir (q_r f80 now 0) ndn := Eq.trans (hF.r hnow (by rw [know]; rfl)) hr13
          have z98 : q_ir (q_r f80 sv 0) nsv := Eq.trans (hF.r hsv (by rw [ksv]; rfl)) hr14
          have g99 : tk_vn K L 5 f80 now ndn nl9 := tk_vn_tr hvn (hF.z hnow (by rw [know]; rfl)) (fun a9 h9 k9 => hF.j h9 (by rw [k9]; rfl)) (fun i9 => hF.r hndn (by rw [kndn]; rfl))
          refine q_ald_n cx dX11_send_64 rfl (lv_at hl 0 rfl) ?_
          refine q_gX11_54 cx hB hx kx z90 dX11_send_65 (fun hb100 kb100 => ?_)
          refine q_ild_n cx dX11_send_68 rfl (lv_at hl 1 rfl) ?_
          refine q_ild_n cx dX11_send_69 rfl (lv_at hl 2 rfl) ?_
          refine q_ild_n cx dX11_send_70 rfl (lv_at hl 3 rfl) ?_
          refine lv_iload cx.1 cx.2.1 dX11_send_71 (lv_at hl 4 rfl) ?_
          refine q_cVi (As := [.int (q_i a0), .int (q_i b0), .int (q_i c0), .int (q_i z0)]) (rest := []) cx hB (fun _ h => h) hN hnow know (by decide) rfl (g_X10_addMessage l g hN hB.2.1 now hnow know a0 (by omega) (by omega) b0 (by omega) (by omega) c0 (by omega) (by omega) z0 (by omega) (by omega)) q_cX11_290 q_dX10_addMessage (by decide) rfl rfl hl.1 rfl (Nat.le_of_ble_eq_true rfl) dX11_send_73 (fun y102 H locs f101 ry102 h103 hF hB => ?_)
          obtain ⟨ly102, uy102⟩ := h103
          have z104 : q_ir (q_r f101 x 0) so := Eq.trans (hF.r hx (by rw [kx]; rfl)) z84
          have z105 : q_ir (q_r f101 x 1) rd := Eq.trans (hF.r hx (by rw [kx]; rfl)) z85
          have z106 : q_ir (q_r f101 x 2) scr := Eq.trans (hF.r hx (by rw [kx]; rfl)) z86
          have z107 : q_ir (q_r f101 x 3) fc := Eq.trans (hF.r hx (by rw [kx]; rfl)) z87
          have z108 : q_ir (q_r f101 x 4) hist := Eq.trans (hF.r hx (by rw [kx]; rfl)) z88
          have z109 : q_ir (q_r f101 x 5) rep := Eq.trans (hF.r hx (by rw [kx]; rfl)) z89
          have z110 : q_ir (q_r f101 x 6) now := Eq.trans (hF.r hx (by rw [kx]; rfl)) z90
          have z111 : q_ir (q_r f101 x 7) dr := Eq.trans (hF.r hx (by rw [kx]; rfl)) z91
          have z112 : q_ir (q_r f101 x 8) sv := Eq.trans (hF.r hx (by rw [kx]; rfl)) z92
          have z113 : q_ir (q_r f101 fc 0) tr := Eq.trans (hF.r hfc (by rw [kfc]; rfl)) z93
          have z114 : q_ir (q_r f101 so 0) ba := Eq.trans (hF.r hso (by rw [kso]; rfl)) z94
          have z115 : q_ir (q_r f101 dr 0) nds := Eq.trans (hF.r hdr (by rw [kdr]; rfl)) z95
          have z116 : q_ir (q_r f101 hist 0) ka := Eq.trans (hF.r hhist (by rw [khist]; rfl)) z96
          have z117 : q_ir (q_r f101 now 0) ndn := Eq.trans (hF.r hnow (by rw [know]; rfl)) z97
          have z118 : q_ir (q_r f101 sv 0) nsv := Eq.trans (hF.r hsv (by rw [ksv]; rfl)) z98
          have g119 : tk_vn K L 5 f101 now ndn nl9 := tk_vn_tr g99 (hF.z hnow (by rw [know]; rfl)) (fun a9 h9 k9 => hF.j h9 (by rw [k9]; rfl)) (fun i9 => hF.r hndn (by rw [kndn]; rfl))
          have g120 : tk_vk K L f101 hist ka now ndn := tk_vk_tr t83 (hF.z hhist (by rw [khist]; rfl)) (hF.z hhist (by rw [khist]; rfl)) (hF.z hnow (by rw [know]; rfl)) (fun a9 h9 k9 => hF.j h9 (by rw [k9]; rfl)) (fun i9 => hF.r hndn (by rw [kndn]; rfl)) (fun a9 h9 k9 => hF.z h9 (by rw [k9]; rfl)) (fun a9 h9 k9 => hF.j h9 (by rw [k9]; rfl)) (fun i9 => hF.r hka (by rw [kka]; rfl)) (fun a9 h9 k9 => hF.r h9 (by rw [k9]; rfl)) (fun a9 h9 k9 i9 => hF.r h9 (by rw [k9]; rfl))
          refine W.widen (k := 3) (n := 18) (by decide) (by decide) ?_
          refine vx_ret ?_
          refine q_iret cx hr hlk hB dX11_send_76 ⟨by omega, by omega⟩ ?_
          exact g120
        · exact q_throw (text := "a node is out, or too many messages") hfl cx hlk htab hX hB hl.1 (by decide +kernel) q_h801 q_h151 (by decide +kernel) q_xl72a q_xl72b q_xl72c dX11_send_42 dX11_send_45 (Or.inr ⟨dX11_send_46, dX11_send_49, dX11_send_52⟩) (by decide) (by decide) (Or.inr (Or.inr ⟨rfl, rfl⟩))
      · exact q_throw (text := "the same node, or within is out of range") hfl cx hlk htab hX hB hl.1 (by decide +kernel) q_h880 q_h152 (by decide +kernel) q_xl87a q_xl87b q_xl87c dX11_send_19 dX11_send_22 (Or.inr ⟨dX11_send_23, dX11_send_26, dX11_send_29⟩) (by decide) (by decide) (Or.inr (Or.inl ⟨rfl, rfl⟩))
set_option maxHeartbeats 4000000 in
set_option maxRecDepth 100000 in
theorem f_xsetShift (l : Launch) (g : q_G) (ad : Nat → Nat) {K : Nat → Nat} {L : List Nat} (hN : L.Nodup) {f : Nat → va_E} (hT : q_Ty g K L f) (hfl : l.stackTraces = false) (nl9 : List (List Int)) (x : Nat) (hx : x ∈ L) (kx : K x = 11) (a0 : Int) (la0 : (-2147483648) ≤ a0) (ua0 : a0 ≤ 2147483647) (b0 : Int) (lb0 : (-2147483648) ≤ b0) (ub0 : b0 ≤ 2147483647) (so : Nat) (hso : so ∈ L) (kso : K so = 8) (rd : Nat) (hrd : rd ∈ L) (krd : K rd = 9) (scr : Nat) (hscr : scr ∈ L) (kscr : K scr = 7) (fc : Nat) (hfc : fc ∈ L) (kfc : K fc = 1) (hist : Nat) (hhist : hist ∈ L) (khist : K hist = 2) (rep : Nat) (hrep : rep ∈ L) (krep : K rep = 6) (now : Nat) (hnow : now ∈ L) (know : K now = 10) (dr : Nat) (hdr : dr ∈ L) (kdr : K dr = 13) (sv : Nat) (hsv : sv ∈ L) (ksv : K sv = 14) (tr : Nat) (htr : tr ∈ L) (ktr : K tr = 15) (ba : Nat) (hba : ba ∈ L) (kba : K ba = 142) (nds : Nat) (hnds : nds ∈ L) (knds : K nds = 111) (ka : Nat) (hka : ka ∈ L) (kka : K ka = 140) (ndn : Nat) (hndn : ndn ∈ L) (kndn : K ndn = 110) (nsv : Nat) (hnsv : nsv ∈ L) (knsv : K nsv = 112) (hr0 : q_ir (q_r f x 0) so) (hr1 : q_ir (q_r f x 1) rd) (hr2 : q_ir (q_r f x 2) scr) (hr3 : q_ir (q_r f x 3) fc) (hr4 : q_ir (q_r f x 4) hist) (hr5 : q_ir (q_r f x 5) rep) (hr6 : q_ir (q_r f x 6) now) (hr7 : q_ir (q_r f x 7) dr) (hr8 : q_ir (q_r f x 8) sv) (hr9 : q_ir (q_r f fc 0) tr) (hr10 : q_ir (q_r f so 0) ba) (hr11 : q_ir (q_r f dr 0) nds) (hr12 : q_ir (q_r f hist 0) ka) (hr13 : q_ir (q_r f now 0) ndn) (hr14 : q_ir (q_r f sv 0) nsv) (hvn : tk_vn K L 5 f now ndn nl9) (hvk : tk_vk K L f hist ka now ndn) : q_Xt l g ad K L yX11_setShift cX11_setShift 4 (some .int) 7 103 2 12 [.ref x, .int (q_i a0), .int (q_i b0)] f [(2, 1, 2), (5, 3, 3), (16, 3, 12), (20, 0, 8), (24, 0, 4), (28, 0, 7)] (q_Pi (fun (z : Int) (f1 : Nat → va_E) => (tk_vk K L f1 hist ka now ndn))) (fun (E : String) (f1 : Nat → va_E) => (E = "java/lang/IndexOutOfBoundsException" ∧ f = f1) ∨ (E = "java/lang/IllegalArgumentException" ∧ f = f1)) := by
  refine q_xofb (by decide +kernel) hN hT (Nat.le_of_ble_eq_true rfl) ?_
  intro p e s m below meth c ls cx hr hlk htab hX hB hl
  have hl : lv_has ls 4 [(0, .ref x), (1, .int (q_i a0)), (2, .int (q_i b0))] := hl
  obtain ⟨H, hH⟩ : ∃ H : Heap, H = s.heap := ⟨_, rfl⟩
  obtain ⟨locs, hlocs⟩ : ∃ z : List Loc, z = [] := ⟨_, rfl⟩
  rw [← hH, ← hlocs] at hB
  rw [← hH, ← hlocs]
  refine q_ald_n cx dX11_setShift_0 rfl (lv_at hl 0 rfl) ?_
  refine q_ild_n cx dX11_setShift_1 rfl (lv_at hl 1 rfl) ?_
  refine q_cXV (As := [.int (q_i a0)]) (rest := []) cx hX hB (fun _ h => h) (fun _ h _ => h) hN hx kx (by decide) rfl (x_requireNode l g ad hN hB.2.1 hfl x hx kx a0 (by omega) (by omega) so hso kso rd hrd krd scr hscr kscr fc hfc kfc hist hhist khist rep hrep krep now hnow know dr hdr kdr sv hsv ksv tr htr ktr hr0 hr1 hr2 hr3 hr4 hr5 hr6 hr7 hr8 hr9) q_cX11_129 q_dX11_requireNode (by decide) rfl rfl hl.1 rfl (Nat.le_of_ble_eq_true rfl) dX11_setShift_2 (fun E9 ce9 q9 H locs f63 hex hF hB hcell hcv hcl => ?_) (fun v9 H locs f60 h62 hF hB => ?_)
  · rcases hex with ⟨rfl, rfl⟩
    · exact q_xout hlk htab hB hcell hcv hcl (by decide) (Or.inl ⟨rfl, rfl⟩)
  · obtain ⟨rfl, h62⟩ := h62
    refine W.eq (g2 := F0 m 5 ls []) rfl ?_
    obtain rfl := h62
    refine q_ald_n cx dX11_setShift_5 rfl (lv_at hl 0 rfl) ?_
    refine q_ild_n cx dX11_setShift_6 rfl (lv_at hl 2 rfl) ?_
    refine q_cXV (As := [.int (q_i b0)]) (rest := []) cx hX hB (fun _ h => h) (fun _ h _ => h) hN hx kx (by decide) rfl (x_requireDay l g ad hN hB.2.1 hfl x hx kx b0 (by omega) (by omega) so hso kso rd hrd krd scr hscr kscr fc hfc kfc hist hhist khist rep hrep krep now hnow know dr hdr kdr sv hsv ksv tr htr ktr hr0 hr1 hr2 hr3 hr4 hr5 hr6 hr7 hr8 hr9) q_cX11_181 q_dX11_requireDay (by decide) rfl rfl hl.1 rfl (Nat.le_of_ble_eq_true rfl) dX11_setShift_7 (fun E9 ce9 q9 H locs f67 hex hF hB hcell hcv hcl => ?_) (fun v9 H locs f64 h66 hF hB => ?_)
    · rcases hex with ⟨rfl, rfl⟩
      · exact q_xout hlk htab hB hcell hcv hcl (by decide) (Or.inr ⟨rfl, rfl⟩)
    · obtain ⟨rfl, h66⟩ := h66
      refine W.eq (g2 := F0 m 10 ls []) rfl ?_
      obtain rfl := h66
      refine q_ald_n cx dX11_setShift_10 rfl (lv_at hl 0 rfl) ?_
      refine q_gX11_40 cx hB hx kx hr4 dX11_setShift_11 (fun hb68 kb68 => ?_)
      refine q_ald_n cx dX11_setShift_14 rfl (lv_at hl 0 rfl) ?_
      refine q_gX11_54 cx hB hx kx hr6 dX11_setShift_15 (fun hb69 kb69 => ?_)
      refine q_cVv (As := [.ref now]) (rest := []) cx hB (fun _ h => h) hN hhist khist (by decide) rfl (f_keep l g hN hB.2.1 nl9 hist hhist khist now hnow know ka hka kka ndn hndn kndn hr12 hr13 hvn hvk) q_cX11_107 q_dX2_keep (by decide) rfl rfl hl.1 rfl (Nat.le_of_ble_eq_true rfl) dX11_setShift_18 (fun H locs f70 h72 hF hB => ?_)
      have t73 := h72
      have z74 : q_ir (q_r f70 x 0) so := Eq.trans (hF.r hx (by rw [kx]; rfl)) hr0
      have z75 : q_ir (q_r f70 x 1) rd := Eq.trans (hF.r hx (by rw [kx]; rfl)) hr1
      have z76 : q_ir (q_r f70 x 2) scr := Eq.trans (hF.r hx (by rw [kx]; rfl)) hr2
      have z77 : q_ir (q_r f70 x 3) fc := Eq.trans (hF.r hx (by rw [kx]; rfl)) hr3
      have z78 : q_ir (q_r f70 x 4) hist := Eq.trans (hF.r hx (by rw [kx]; rfl)) hr4
      have z79 : q_ir (q_r f70 x 5) rep := Eq.trans (hF.r hx (by rw [kx]; rfl)) hr5
      have z80 : q_ir (q_r f70 x 6) now := Eq.trans (hF.r hx (by rw [kx]; rfl)) hr6
      have z81 : q_ir (q_r f70 x 7) dr := Eq.trans (hF.r hx (by rw [kx]; rfl)) hr7
      have z82 : q_ir (q_r f70 x 8) sv := Eq.trans (hF.r hx (by rw [kx]; rfl)) hr8
      have z83 : q_ir (q_r f70 fc 0) tr := Eq.trans (hF.r hfc (by rw [kfc]; rfl)) hr9
      have z84 : q_ir (q_r f70 so 0) ba := Eq.trans (hF.r hso (by rw [kso]; rfl)) hr10
      have z85 : q_ir (q_r f70 dr 0) nds := Eq.trans (hF.r hdr (by rw [kdr]; rfl)) hr11
      have z86 : q_ir (q_r f70 hist 0) ka := Eq.trans (hF.r hhist (by rw [khist]; rfl)) hr12
      have z87 : q_ir (q_r f70 now 0) ndn := Eq.trans (hF.r hnow (by rw [know]; rfl)) hr13
      have z88 : q_ir (q_r f70 sv 0) nsv := Eq.trans (hF.r hsv (by rw [ksv]; rfl)) hr14
      have g89 : tk_vn K L 5 f70 now ndn nl9 := tk_vn_tr hvn (hF.z hnow (by rw [know]; rfl)) (fun a9 h9 k9 => hF.j h9 (by rw [k9]; rfl)) (fun i9 => hF.r hndn (by rw [kndn]; rfl))
      refine q_ald_n cx dX11_setShift_21 rfl (lv_at hl 0 rfl) ?_
      refine q_gX11_54 cx hB hx kx z80 dX11_setShift_22 (fun hb90 kb90 => ?_)
      refine q_ild_n cx dX11_setShift_25 rfl (lv_at hl 1 rfl) ?_
      refine q_cVr (As := [.int (q_i a0)]) (rest := []) cx hB (fun _ h => h) hN hnow know (by decide) rfl (g_X10_nodeAt l g hN hB.2.1 now hnow know a0 (by omega) (by omega)) q_cX11_167 q_dX10_nodeAt (by decide) rfl rfl hl.1 rfl (Nat.le_of_ble_eq_true rfl) dX11_setShift_26 (fun y92 H locs f91 h93 hF hB => ?_)
      obtain ⟨rfl, hy92, ky92⟩ := h93
      obtain ⟨x94, ex94⟩ : ∃ zz, q_is (q_z f70 y92 3) zz := ⟨_, q_isr _⟩
      refine q_gX11_210 cx hB hy92 ky92 ex94 dX11_setShift_29 (fun lb95 ub95 => ?_)
      refine lv_istore_n (lv' := [(3, .int (q_i x94)), (0, .ref x), (1, .int (q_i a0)), (2, .int (q_i b0))]) cx.1 cx.2.1 dX11_setShift_32 rfl hl (by decide) rfl (fun ls hl => ?_)
      refine q_ald_n cx dX11_setShift_33 rfl (lv_at hl 1 rfl) ?_
      refine q_gX11_54 cx hB hx kx z80 dX11_setShift_34 (fun hb96 kb96 => ?_)
      refine q_ild_n cx dX11_setShift_37 rfl (lv_at hl 2 rfl) ?_
      refine q_cVr (As := [.int (q_i a0)]) (rest := []) cx hB (fun _ h => h) hN hnow know (by decide) rfl (g_X10_nodeAt l g hN hB.2.1 now hnow know a0 (by omega) (by omega)) q_cX11_167 q_dX10_nodeAt (by decide) rfl rfl hl.1 rfl (Nat.le_of_ble_eq_true rfl) dX11_setShift_38 (fun y98 H locs f97 h99 hF hB => ?_)
      obtain ⟨rfl, hy98, ky98⟩ := h99
      refine q_ild_n cx dX11_setShift_41 rfl (lv_at hl 3 rfl) ?_
      refine q_pX11_210 cx hB hy98 ky98 ⟨by omega, by omega⟩ (by omega) (by omega) rfl dX11_setShift_42 (fun H locs f100 ef100 z101 hB => ?_)
      have z102 : q_ir (q_r f100 x 0) so := by rw [ef100, q_setr (Or.inr (by decide))]; exact z74
      have z103 : q_ir (q_r f100 x 1) rd := by rw [ef100, q_setr (Or.inr (by decide))]; exact z75
      have z104 : q_ir (q_r f100 x 2) scr := by rw [ef100, q_setr (Or.inr (by decide))]; exact z76
      have z105 : q_ir (q_r f100 x 3) fc := by rw [ef100, q_setr (Or.inl (fun q => by rw [q, ky98] at kx; exact absurd kx (by decide)))]; exact z77
      have z106 : q_ir (q_r f100 x 4) hist := by rw [ef100, q_setr (Or.inr (by decide))]; exact z78
      have z107 : q_ir (q_r f100 x 5) rep := by rw [ef100, q_setr (Or.inr (by decide))]; exact z79
      have z108 : q_ir (q_r f100 x 6) now := by rw [ef100, q_setr (Or.inr (by decide))]; exact z80
      have z109 : q_ir (q_r f100 x 7) dr := by rw [ef100, q_setr (Or.inr (by decide))]; exact z81
      have z110 : q_ir (q_r f100 x 8) sv := by rw [ef100, q_setr (Or.inr (by decide))]; exact z82
      have z111 : q_ir (q_r f100 fc 0) tr := by rw [ef100, q_setr (Or.inr (by decide))]; exact z83
      have z112 : q_ir (q_r f100 so 0) ba := by rw [ef100, q_setr (Or.inr (by decide))]; exact z84
      have z113 : q_ir (q_r f100 dr 0) nds := by rw [ef100, q_setr (Or.inr (by decide))]; exact z85
      have z114 : q_ir (q_r f100 hist 0) ka := by rw [ef100, q_setr (Or.inr (by decide))]; exact z86
      have z115 : q_ir (q_r f100 now 0) ndn := by rw [ef100, q_setr (Or.inr (by decide))]; exact z87
      have z116 : q_ir (q_r f100 sv 0) nsv := by rw [ef100, q_setr (Or.inr (by decide))]; exact z88
      have g117 : tk_vn K L 5 f100 now ndn nl9 := tk_vn_tr g89 (by rw [ef100, q_setz (Or.inl (fun q => by rw [q, ky98] at know; exact absurd know (by decide)))]) (fun a9 h9 k9 => by rw [ef100, q_setj (Or.inr (by decide))]) (fun i9 => by rw [ef100, q_setr (Or.inl (fun q => by rw [q, ky98] at kndn; exact absurd kndn (by decide)))])
      have g118 : tk_vk K L f100 hist ka now ndn := tk_vk_tr t73 (by rw [ef100, q_setz (Or.inr (by decide))]) (by rw [ef100, q_setz (Or.inr (by decide))]) (by rw [ef100, q_setz (Or.inl (fun q => by rw [q, ky98] at know; exact absurd know (by decide)))]) (fun a9 h9 k9 => by rw [ef100, q_setj (Or.inr (by decide))]) (fun i9 => by rw [ef100, q_setr (Or.inl (fun q => by rw [q, ky98] at kndn; exact absurd kndn (by decide)))]) (fun a9 h9 k9 => by rw [ef100, q_setz (Or.inl (fun q => by rw [q, ky98] at k9; exact absurd k9 (by decide)))]) (fun a9 h9 k9 => by rw [ef100, q_setj (Or.inl (fun q => by rw [q, ky98] at k9; exact absurd k9 (by decide)))]) (fun i9 => by rw [ef100, q_setr (Or.inl (fun q => by rw [q, ky98] at kka; exact absurd kka (by decide)))]) (fun a9 h9 k9 => by rw [ef100, q_setr (Or.inl (fun q => by rw [q, ky98] at k9; exact absurd k9 (by decide)))]) (fun a9 h9 k9 i9 => by rw [ef100, q_setr (Or.inl (fun q => by rw [q, ky98] at k9; exact absurd k9 (by decide)))])
      refine q_ild_n cx dX11_setShift_45 rfl (lv_at hl 0 rfl) ?_
      refine W.widen (k := 2) (n := 12) (by decide) (by decide) ?_
      refine vx_ret ?_
      refine q_iret cx hr hlk hB dX11_setShift_46 ⟨by omega, by omega⟩ ?_
      exact g118
set_option maxHeartbeats 4000000 in
set_option maxRecDepth 100000 in
theorem f_xwatch (l : Launch) (g : q_G) (ad : Nat → Nat) {K : Nat → Nat} {L : List Nat} (hN : L.Nodup) {f : Nat → va_E} (hT : q_Ty g K L f) (hfl : l.stackTraces = false) (nl9 : List (List Int)) (x : Nat) (hx : x ∈ L) (kx : K x = 11) (a0 : Int) (la0 : (-2147483648) ≤ a0) (ua0 : a0 ≤ 2147483647) (b0 : Int) (lb0 : (-2147483648) ≤ b0) (ub0 : b0 ≤ 2147483647) (z0 : Int) (lz0 : 0 ≤ z0) (uz0 : z0 ≤ 1) (so : Nat) (hso : so ∈ L) (kso : K so = 8) (rd : Nat) (hrd : rd ∈ L) (krd : K rd = 9) (scr : Nat) (hscr : scr ∈ L) (kscr : K scr = 7) (fc : Nat) (hfc : fc ∈ L) (kfc : K fc = 1) (hist : Nat) (hhist : hist ∈ L) (khist : K hist = 2) (rep : Nat) (hrep : rep ∈ L) (krep : K rep = 6) (now : Nat) (hnow : now ∈ L) (know : K now = 10) (dr : Nat) (hdr : dr ∈ L) (kdr : K dr = 13) (sv : Nat) (hsv : sv ∈ L) (ksv : K sv = 14) (tr : Nat) (htr : tr ∈ L) (ktr : K tr = 15) (ba : Nat) (hba : ba ∈ L) (kba : K ba = 142) (nds : Nat) (hnds : nds ∈ L) (knds : K nds = 111) (ka : Nat) (hka : ka ∈ L) (kka : K ka = 140) (ndn : Nat) (hndn : ndn ∈ L) (kndn : K ndn = 110) (nsv : Nat) (hnsv : nsv ∈ L) (knsv : K nsv = 112) (hr0 : q_ir (q_r f x 0) so) (hr1 : q_ir (q_r f x 1) rd) (hr2 : q_ir (q_r f x 2) scr) (hr3 : q_ir (q_r f x 3) fc) (hr4 : q_ir (q_r f x 4) hist) (hr5 : q_ir (q_r f x 5) rep) (hr6 : q_ir (q_r f x 6) now) (hr7 : q_ir (q_r f x 7) dr) (hr8 : q_ir (q_r f x 8) sv) (hr9 : q_ir (q_r f fc 0) tr) (hr10 : q_ir (q_r f so 0) ba) (hr11 : q_ir (q_r f dr 0) nds) (hr12 : q_ir (q_r f hist 0) ka) (hr13 : q_ir (q_r f now 0) ndn) (hr14 : q_ir (q_r f sv 0) nsv) (hvn : tk_vn K L 5 f now ndn nl9) (hvk : tk_vk K L f hist ka now ndn) : q_Xt l g ad K L yX11_watch cX11_watch 4 (some .boolean) 7 103 2 12 [.ref x, .int (q_i a0), .int (q_i b0), .int (q_i z0)] f [(2, 1, 2), (5, 1, 1), (16, 3, 12), (20, 0, 8), (24, 0, 4), (28, 0, 7)] (q_Pi (fun (z : Int) (f1 : Nat → va_E) => 0 ≤ z ∧ z ≤ 1 ∧ (tk_vk K L f1 hist ka now ndn))) (fun (E : String) (f1 : Nat → va_E) => (E = "java/lang/IndexOutOfBoundsException" ∧ f = f1) ∨ (E = "java/lang/IllegalArgumentException" ∧ f = f1)) := by
  refine q_xofb (by decide +kernel) hN hT (Nat.le_of_ble_eq_true rfl) ?_
  intro p e s m below meth c ls cx hr hlk htab hX hB hl
  have hl : lv_has ls 4 [(0, .ref x), (1, .int (q_i a0)), (2, .int (q_i b0)), (3, .int (q_i z0))] := hl
  obtain ⟨H, hH⟩ : ∃ H : Heap, H = s.heap := ⟨_, rfl⟩
  obtain ⟨locs, hlocs⟩ : ∃ z : List Loc, z = [] := ⟨_, rfl⟩
  rw [← hH, ← hlocs] at hB
  rw [← hH, ← hlocs]
  refine q_ald_n cx dX11_watch_0 rfl (lv_at hl 0 rfl) ?_
  refine q_ild_n cx dX11_watch_1 rfl (lv_at hl 1 rfl) ?_
  refine q_cXV (As := [.int (q_i a0)]) (rest := []) cx hX hB (fun _ h => h) (fun _ h _ => h) hN hx kx (by decide) rfl (x_requireNode l g ad hN hB.2.1 hfl x hx kx a0 (by omega) (by omega) so hso kso rd hrd krd scr hscr kscr fc hfc kfc hist hhist khist rep hrep krep now hnow know dr hdr kdr sv hsv ksv tr htr ktr hr0 hr1 hr2 hr3 hr4 hr5 hr6 hr7 hr8 hr9) q_cX11_129 q_dX11_requireNode (by decide) rfl rfl hl.1 rfl (Nat.le_of_ble_eq_true rfl) dX11_watch_2 (fun E9 ce9 q9 H locs f60 hex hF hB hcell hcv hcl => ?_) (fun v9 H locs f57 h59 hF hB => ?_)
  · rcases hex with ⟨rfl, rfl⟩
    · exact q_xout hlk htab hB hcell hcv hcl (by decide) (Or.inl ⟨rfl, rfl⟩)
  · obtain ⟨rfl, h59⟩ := h59
    refine W.eq (g2 := F0 m 5 ls []) rfl ?_
    obtain rfl := h59
    refine q_ald_n cx dX11_watch_5 rfl (lv_at hl 0 rfl) ?_
    refine q_ild_n cx dX11_watch_6 rfl (lv_at hl 2 rfl) ?_
    refine q_cXV (As := [.int (q_i b0)]) (rest := []) cx hX hB (fun _ h => h) (fun _ h _ => h) hN hx kx (by decide) rfl (x_requireDay l g ad hN hB.2.1 hfl x hx kx b0 (by omega) (by omega) so hso kso rd hrd krd scr hscr kscr fc hfc kfc hist hhist khist rep hrep krep now hnow know dr hdr kdr sv hsv ksv tr htr ktr hr0 hr1 hr2 hr3 hr4 hr5 hr6 hr7 hr8 hr9) q_cX11_181 q_dX11_requireDay (by decide) rfl rfl hl.1 rfl (Nat.le_of_ble_eq_true rfl) dX11_watch_7 (fun E9 ce9 q9 H locs f64 hex hF hB hcell hcv hcl => ?_) (fun v9 H locs f61 h63 hF hB => ?_)
    · rcases hex with ⟨rfl, rfl⟩
      · exact q_xout hlk htab hB hcell hcv hcl (by decide) (Or.inr ⟨rfl, rfl⟩)
    · obtain ⟨rfl, h63⟩ := h63
      refine W.eq (g2 := F0 m 10 ls []) rfl ?_
      obtain rfl := h63
      refine q_ald_n cx dX11_watch_10 rfl (lv_at hl 0 rfl) ?_
      refine q_gX11_54 cx hB hx kx hr6 dX11_watch_11 (fun hb65 kb65 => ?_)
      refine q_ild_n cx dX11_watch_14 rfl (lv_at hl 1 rfl) ?_
      refine q_ild_n cx dX11_watch_15 rfl (lv_at hl 2 rfl) ?_
      refine q_cVi (As := [.int (q_i a0), .int (q_i b0)]) (rest := []) cx hB (fun _ h => h) hN hnow know (by decide) rfl (g_X10_isWatched l g hN hB.2.1 now hnow know a0 (by omega) (by omega) b0 (by omega) (by omega)) q_cX11_294 q_dX10_isWatched (by decide) rfl rfl hl.1 rfl (Nat.le_of_ble_eq_true rfl) dX11_watch_16 (fun y67 H locs f66 ry67 h68 hF hB => ?_)
      obtain ⟨rfl, ly67, uy67⟩ := h68
      refine q_ild_n cx dX11_watch_19 rfl (lv_at hl 3 rfl) ?_
      refine q_icne (tgt := 25) cx ⟨by omega, by omega⟩ ⟨by omega, by omega⟩ dX11_watch_20 (by decide) (fun c69 => ?_) (fun c69 => ?_)
      · refine q_ald_n cx dX11_watch_25 rfl (lv_at hl 0 rfl) ?_
        refine q_gX11_40 cx hB hx kx hr4 dX11_watch_26 (fun hb70 kb70 => ?_)
        refine q_ald_n cx dX11_watch_29 rfl (lv_at hl 0 rfl) ?_
        refine q_gX11_54 cx hB hx kx hr6 dX11_watch_30 (fun hb71 kb71 => ?_)
        refine q_cVv (As := [.ref now]) (rest := []) cx hB (fun _ h => h) hN hhist khist (by decide) rfl (f_keep l g hN hB.2.1 nl9 hist hhist khist now hnow know ka hka kka ndn hndn kndn hr12 hr13 hvn hvk) q_cX11_107 q_dX2_keep (by decide) rfl rfl hl.1 rfl (Nat.le_of_ble_eq_true rfl) dX11_watch_33 (fun H locs f72 h74 hF hB => ?_)
        have t75 := h74
        have z76 : q_ir (q_r f72 x 0) so := Eq.trans (hF.r hx (by rw [kx]; rfl)) hr0
        have z77 : q_ir (q_r f72 x 1) rd := Eq.trans (hF.r hx (by rw [kx]; rfl)) hr1
        have z78 : q_ir (q_r f72 x 2) scr := Eq.trans (hF.r hx (by rw [kx]; rfl)) hr2
        have z79 : q_ir (q_r f72 x 3) fc := Eq.trans (hF.r hx (by rw [kx]; rfl)) hr3
        have z80 : q_ir (q_r f72 x 4) hist := Eq.trans (hF.r hx (by rw [kx]; rfl)) hr4
        have z81 : q_ir (q_r f72 x 5) rep := Eq.trans (hF.r hx (by rw [kx]; rfl)) hr5
        have z82 : q_ir (q_r f72 x 6) now := Eq.trans (hF.r hx (by rw [kx]; rfl)) hr6
        have z83 : q_ir (q_r f72 x 7) dr := Eq.trans (hF.r hx (by rw [kx]; rfl)) hr7
        have z84 : q_ir (q_r f72 x 8) sv := Eq.trans (hF.r hx (by rw [kx]; rfl)) hr8
        have z85 : q_ir (q_r f72 fc 0) tr := Eq.trans (hF.r hfc (by rw [kfc]; rfl)) hr9
        have z86 : q_ir (q_r f72 so 0) ba := Eq.trans (hF.r hso (by rw [kso]; rfl)) hr10
        have z87 : q_ir (q_r f72 dr 0) nds := Eq.trans (hF.r hdr (by rw [kdr]; rfl)) hr11
        have z88 : q_ir (q_r f72 hist 0) ka := Eq.trans (hF.r hhist (by rw [khist]; rfl)) hr12
        have z89 : q_ir (q_r f72 now 0) ndn := Eq.trans (hF.r hnow (by rw [know]; rfl)) hr13
        have z90 : q_ir (q_r f72 sv 0) nsv := Eq.trans (hF.r hsv (by rw [ksv]; rfl)) hr14
        have g91 : tk_vn K L 5 f72 now ndn nl9 := tk_vn_tr hvn (hF.z hnow (by rw [know]; rfl)) (fun a9 h9 k9 => hF.j h9 (by rw [k9]; rfl)) (fun i9 => hF.r hndn (by rw [kndn]; rfl))
        refine q_ald_n cx dX11_watch_36 rfl (lv_at hl 0 rfl) ?_
        refine q_gX11_54 cx hB hx kx z82 dX11_watch_37 (fun hb92 kb92 => ?_)
        refine q_ild_n cx dX11_watch_40 rfl (lv_at hl 1 rfl) ?_
        refine q_ild_n cx dX11_watch_41 rfl (lv_at hl 2 rfl) ?_
        refine q_cVv (As := [.int (q_i a0), .int (q_i b0)]) (rest := []) cx hB (fun _ h => h) hN hnow know (by decide) rfl (g_X10_turnWatch l g hN hB.2.1 now hnow know a0 (by omega) (by omega) b0 (by omega) (by omega)) q_cX11_297 q_dX10_turnWatch (by decide) rfl rfl hl.1 rfl (Nat.le_of_ble_eq_true rfl) dX11_watch_42 (fun H locs f93 h95 hF hB => ?_)
        have z96 : q_ir (q_r f93 x 0) so := Eq.trans (hF.r hx (by rw [kx]; rfl)) z76
        have z97 : q_ir (q_r f93 x 1) rd := Eq.trans (hF.r hx (by rw [kx]; rfl)) z77
        have z98 : q_ir (q_r f93 x 2) scr := Eq.trans (hF.r hx (by rw [kx]; rfl)) z78
        have z99 : q_ir (q_r f93 x 3) fc := Eq.trans (hF.r hx (by rw [kx]; rfl)) z79
        have z100 : q_ir (q_r f93 x 4) hist := Eq.trans (hF.r hx (by rw [kx]; rfl)) z80
        have z101 : q_ir (q_r f93 x 5) rep := Eq.trans (hF.r hx (by rw [kx]; rfl)) z81
        have z102 : q_ir (q_r f93 x 6) now := Eq.trans (hF.r hx (by rw [kx]; rfl)) z82
        have z103 : q_ir (q_r f93 x 7) dr := Eq.trans (hF.r hx (by rw [kx]; rfl)) z83
        have z104 : q_ir (q_r f93 x 8) sv := Eq.trans (hF.r hx (by rw [kx]; rfl)) z84
        have z105 : q_ir (q_r f93 fc 0) tr := Eq.trans (hF.r hfc (by rw [kfc]; rfl)) z85
        have z106 : q_ir (q_r f93 so 0) ba := Eq.trans (hF.r hso (by rw [kso]; rfl)) z86
        have z107 : q_ir (q_r f93 dr 0) nds := Eq.trans (hF.r hdr (by rw [kdr]; rfl)) z87
        have z108 : q_ir (q_r f93 hist 0) ka := Eq.trans (hF.r hhist (by rw [khist]; rfl)) z88
        have z109 : q_ir (q_r f93 now 0) ndn := Eq.trans (hF.r hnow (by rw [know]; rfl)) z89
        have z110 : q_ir (q_r f93 sv 0) nsv := Eq.trans (hF.r hsv (by rw [ksv]; rfl)) z90
        have g111 : tk_vn K L 5 f93 now ndn nl9 := tk_vn_tr g91 (hF.z hnow (by rw [know]; rfl)) (fun a9 h9 k9 => hF.j h9 (by rw [k9]; rfl)) (fun i9 => hF.r hndn (by rw [kndn]; rfl))
        have g112 : tk_vk K L f93 hist ka now ndn := tk_vk_tr t75 (hF.z hhist (by rw [khist]; rfl)) (hF.z hhist (by rw [khist]; rfl)) (hF.z hnow (by rw [know]; rfl)) (fun a9 h9 k9 => hF.j h9 (by rw [k9]; rfl)) (fun i9 => hF.r hndn (by rw [kndn]; rfl)) (fun a9 h9 k9 => hF.z h9 (by rw [k9]; rfl)) (fun a9 h9 k9 => hF.j h9 (by rw [k9]; rfl)) (fun i9 => hF.r hka (by rw [kka]; rfl)) (fun a9 h9 k9 => hF.r h9 (by rw [k9]; rfl)) (fun a9 h9 k9 i9 => hF.r h9 (by rw [k9]; rfl))
        refine q_iconst cx dX11_watch_45 ?_
        refine W.widen (k := 2) (n := 12) (by decide) (by decide) ?_
        refine vx_ret ?_
        refine q_zret cx hr hlk hB dX11_watch_46 (by decide) (by decide) ?_
        exact ⟨(by decide), (by decide), g112⟩
      · refine q_iconst cx dX11_watch_23 ?_
        refine W.widen (k := 2) (n := 12) (by decide) (by decide) ?_
        refine vx_ret ?_
        refine q_zret cx hr hlk hB dX11_watch_24 (by decide) (by decide) ?_
        exact ⟨(by decide), (by decide), hvk⟩
set_option maxHeartbeats 4000000 in
set_option maxRecDepth 100000 in
theorem f_xsetBorn (l : Launch) (g : q_G) (ad : Nat → Nat) {K : Nat → Nat} {L : List Nat} (hN : L.Nodup) {f : Nat → va_E} (hT : q_Ty g K L f) (hfl : l.stackTraces = false) (nl9 : List (List Int)) (x : Nat) (hx : x ∈ L) (kx : K x = 11) (a0 : Int) (la0 : (-2147483648) ≤ a0) (ua0 : a0 ≤ 2147483647) (b0 : Int) (lb0 : (-2147483648) ≤ b0) (ub0 : b0 ≤ 2147483647) (so : Nat) (hso : so ∈ L) (kso : K so = 8) (rd : Nat) (hrd : rd ∈ L) (krd : K rd = 9) (scr : Nat) (hscr : scr ∈ L) (kscr : K scr = 7) (fc : Nat) (hfc : fc ∈ L) (kfc : K fc = 1) (hist : Nat) (hhist : hist ∈ L) (khist : K hist = 2) (rep : Nat) (hrep : rep ∈ L) (krep : K rep = 6) (now : Nat) (hnow : now ∈ L) (know : K now = 10) (dr : Nat) (hdr : dr ∈ L) (kdr : K dr = 13) (sv : Nat) (hsv : sv ∈ L) (ksv : K sv = 14) (tr : Nat) (htr : tr ∈ L) (ktr : K tr = 15) (ba : Nat) (hba : ba ∈ L) (kba : K ba = 142) (nds : Nat) (hnds : nds ∈ L) (knds : K nds = 111) (ka : Nat) (hka : ka ∈ L) (kka : K ka = 140) (ndn : Nat) (hndn : ndn ∈ L) (kndn : K ndn = 110) (nsv : Nat) (hnsv : nsv ∈ L) (knsv : K nsv = 112) (hr0 : q_ir (q_r f x 0) so) (hr1 : q_ir (q_r f x 1) rd) (hr2 : q_ir (q_r f x 2) scr) (hr3 : q_ir (q_r f x 3) fc) (hr4 : q_ir (q_r f x 4) hist) (hr5 : q_ir (q_r f x 5) rep) (hr6 : q_ir (q_r f x 6) now) (hr7 : q_ir (q_r f x 7) dr) (hr8 : q_ir (q_r f x 8) sv) (hr9 : q_ir (q_r f fc 0) tr) (hr10 : q_ir (q_r f so 0) ba) (hr11 : q_ir (q_r f dr 0) nds) (hr12 : q_ir (q_r f hist 0) ka) (hr13 : q_ir (q_r f now 0) ndn) (hr14 : q_ir (q_r f sv 0) nsv) (hvn : tk_vn K L 5 f now ndn nl9) (hvk : tk_vk K L f hist ka now ndn) : q_Xt l g ad K L yX11_setBorn cX11_setBorn 4 (some .int) 7 103 2 12 [.ref x, .int (q_i a0), .int (q_i b0)] f [(2, 1, 2), (5, 2, 2), (16, 3, 12), (20, 0, 8), (24, 0, 4), (28, 0, 7)] (q_Pi (fun (z : Int) (f1 : Nat → va_E) => (tk_vk K L f1 hist ka now ndn))) (fun (E : String) (f1 : Nat → va_E) => (E = "java/lang/IndexOutOfBoundsException" ∧ f = f1) ∨ (E = "java/lang/IllegalArgumentException" ∧ f = f1)) := by
  refine q_xofb (by decide +kernel) hN hT (Nat.le_of_ble_eq_true rfl) ?_
  intro p e s m below meth c ls cx hr hlk htab hX hB hl
  have hl : lv_has ls 4 [(0, .ref x), (1, .int (q_i a0)), (2, .int (q_i b0))] := hl
  obtain ⟨H, hH⟩ : ∃ H : Heap, H = s.heap := ⟨_, rfl⟩
  obtain ⟨locs, hlocs⟩ : ∃ z : List Loc, z = [] := ⟨_, rfl⟩
  rw [← hH, ← hlocs] at hB
  rw [← hH, ← hlocs]
  refine q_ald_n cx dX11_setBorn_0 rfl (lv_at hl 0 rfl) ?_
  refine q_ild_n cx dX11_setBorn_1 rfl (lv_at hl 1 rfl) ?_
  refine q_cXV (As := [.int (q_i a0)]) (rest := []) cx hX hB (fun _ h => h) (fun _ h _ => h) hN hx kx (by decide) rfl (x_requireNode l g ad hN hB.2.1 hfl x hx kx a0 (by omega) (by omega) so hso kso rd hrd krd scr hscr kscr fc hfc kfc hist hhist khist rep hrep krep now hnow know dr hdr kdr sv hsv ksv tr htr ktr hr0 hr1 hr2 hr3 hr4 hr5 hr6 hr7 hr8 hr9) q_cX11_129 q_dX11_requireNode (by decide) rfl rfl hl.1 rfl (Nat.le_of_ble_eq_true rfl) dX11_setBorn_2 (fun E9 ce9 q9 H locs f63 hex hF hB hcell hcv hcl => ?_) (fun v9 H locs f60 h62 hF hB => ?_)
  · rcases hex with ⟨rfl, rfl⟩
    · exact q_xout hlk htab hB hcell hcv hcl (by decide) (Or.inl ⟨rfl, rfl⟩)
  · obtain ⟨rfl, h62⟩ := h62
    refine W.eq (g2 := F0 m 5 ls []) rfl ?_
    obtain rfl := h62
    refine q_ald_n cx dX11_setBorn_5 rfl (lv_at hl 0 rfl) ?_
    refine q_ild_n cx dX11_setBorn_6 rfl (lv_at hl 2 rfl) ?_
    refine q_cXV (As := [.int (q_i b0)]) (rest := []) cx hX hB (fun _ h => h) (fun _ h _ => h) hN hx kx (by decide) rfl (x_requireDay l g ad hN hB.2.1 hfl x hx kx b0 (by omega) (by omega) so hso kso rd hrd krd scr hscr kscr fc hfc kfc hist hhist khist rep hrep krep now hnow know dr hdr kdr sv hsv ksv tr htr ktr hr0 hr1 hr2 hr3 hr4 hr5 hr6 hr7 hr8 hr9) q_cX11_181 q_dX11_requireDay (by decide) rfl rfl hl.1 rfl (Nat.le_of_ble_eq_true rfl) dX11_setBorn_7 (fun E9 ce9 q9 H locs f67 hex hF hB hcell hcv hcl => ?_) (fun v9 H locs f64 h66 hF hB => ?_)
    · rcases hex with ⟨rfl, rfl⟩
      · exact q_xout hlk htab hB hcell hcv hcl (by decide) (Or.inr ⟨rfl, rfl⟩)
    · obtain ⟨rfl, h66⟩ := h66
      refine W.eq (g2 := F0 m 10 ls []) rfl ?_
      obtain rfl := h66
      refine q_ald_n cx dX11_setBorn_10 rfl (lv_at hl 0 rfl) ?_
      refine q_gX11_40 cx hB hx kx hr4 dX11_setBorn_11 (fun hb68 kb68 => ?_)
      refine q_ald_n cx dX11_setBorn_14 rfl (lv_at hl 0 rfl) ?_
      refine q_gX11_54 cx hB hx kx hr6 dX11_setBorn_15 (fun hb69 kb69 => ?_)
      refine q_cVv (As := [.ref now]) (rest := []) cx hB (fun _ h => h) hN hhist khist (by decide) rfl (f_keep l g hN hB.2.1 nl9 hist hhist khist now hnow know ka hka kka ndn hndn kndn hr12 hr13 hvn hvk) q_cX11_107 q_dX2_keep (by decide) rfl rfl hl.1 rfl (Nat.le_of_ble_eq_true rfl) dX11_setBorn_18 (fun H locs f70 h72 hF hB => ?_)
      have t73 := h72
      have z74 : q_ir (q_r f70 x 0) so := Eq.trans (hF.r hx (by rw [kx]; rfl)) hr0
      have z75 : q_ir (q_r f70 x 1) rd := Eq.trans (hF.r hx (by rw [kx]; rfl)) hr1
      have z76 : q_ir (q_r f70 x 2) scr := Eq.trans (hF.r hx (by rw [kx]; rfl)) hr2
      have z77 : q_ir (q_r f70 x 3) fc := Eq.trans (hF.r hx (by rw [kx]; rfl)) hr3
      have z78 : q_ir (q_r f70 x 4) hist := Eq.trans (hF.r hx (by rw [kx]; rfl)) hr4
      have z79 : q_ir (q_r f70 x 5) rep := Eq.trans (hF.r hx (by rw [kx]; rfl)) hr5
      have z80 : q_ir (q_r f70 x 6) now := Eq.trans (hF.r hx (by rw [kx]; rfl)) hr6
      have z81 : q_ir (q_r f70 x 7) dr := Eq.trans (hF.r hx (by rw [kx]; rfl)) hr7
      have z82 : q_ir (q_r f70 x 8) sv := Eq.trans (hF.r hx (by rw [kx]; rfl)) hr8
      have z83 : q_ir (q_r f70 fc 0) tr := Eq.trans (hF.r hfc (by rw [kfc]; rfl)) hr9
      have z84 : q_ir (q_r f70 so 0) ba := Eq.trans (hF.r hso (by rw [kso]; rfl)) hr10
      have z85 : q_ir (q_r f70 dr 0) nds := Eq.trans (hF.r hdr (by rw [kdr]; rfl)) hr11
      have z86 : q_ir (q_r f70 hist 0) ka := Eq.trans (hF.r hhist (by rw [khist]; rfl)) hr12
      have z87 : q_ir (q_r f70 now 0) ndn := Eq.trans (hF.r hnow (by rw [know]; rfl)) hr13
      have z88 : q_ir (q_r f70 sv 0) nsv := Eq.trans (hF.r hsv (by rw [ksv]; rfl)) hr14
      have g89 : tk_vn K L 5 f70 now ndn nl9 := tk_vn_tr hvn (hF.z hnow (by rw [know]; rfl)) (fun a9 h9 k9 => hF.j h9 (by rw [k9]; rfl)) (fun i9 => hF.r hndn (by rw [kndn]; rfl))
      refine q_ald_n cx dX11_setBorn_21 rfl (lv_at hl 0 rfl) ?_
      refine q_gX11_54 cx hB hx kx z80 dX11_setBorn_22 (fun hb90 kb90 => ?_)
      refine q_ild_n cx dX11_setBorn_25 rfl (lv_at hl 1 rfl) ?_
      refine q_cVr (As := [.int (q_i a0)]) (rest := []) cx hB (fun _ h => h) hN hnow know (by decide) rfl (g_X10_nodeAt l g hN hB.2.1 now hnow know a0 (by omega) (by omega)) q_cX11_167 q_dX10_nodeAt (by decide) rfl rfl hl.1 rfl (Nat.le_of_ble_eq_true rfl) dX11_setBorn_26 (fun y92 H locs f91 h93 hF hB => ?_)
      obtain ⟨rfl, hy92, ky92⟩ := h93
      obtain ⟨x94, ex94⟩ : ∃ zz, q_is (q_z f70 y92 2) zz := ⟨_, q_isr _⟩
      refine q_gX11_300 cx hB hy92 ky92 ex94 dX11_setBorn_29 (fun lb95 ub95 => ?_)
      refine lv_istore_n (lv' := [(3, .int (q_i x94)), (0, .ref x), (1, .int (q_i a0)), (2, .int (q_i b0))]) cx.1 cx.2.1 dX11_setBorn_32 rfl hl (by decide) rfl (fun ls hl => ?_)
      refine q_ald_n cx dX11_setBorn_33 rfl (lv_at hl 1 rfl) ?_
      refine q_gX11_54 cx hB hx kx z80 dX11_setBorn_34 (fun hb96 kb96 => ?_)
      refine q_ild_n cx dX11_setBorn_37 rfl (lv_at hl 2 rfl) ?_
      refine q_cVr (As := [.int (q_i a0)]) (rest := []) cx hB (fun _ h => h) hN hnow know (by decide) rfl (g_X10_nodeAt l g hN hB.2.1 now hnow know a0 (by omega) (by omega)) q_cX11_167 q_dX10_nodeAt (by decide) rfl rfl hl.1 rfl (Nat.le_of_ble_eq_true rfl) dX11_setBorn_38 (fun y98 H locs f97 h99 hF hB => ?_)
      obtain ⟨rfl, hy98, ky98⟩ := h99
      refine q_ild_n cx dX11_setBorn_41 rfl (lv_at hl 3 rfl) ?_
      refine q_pX11_300 cx hB hy98 ky98 ⟨by omega, by omega⟩ (by omega) (by omega) rfl dX11_setBorn_42 (fun H locs f100 ef100 z101 hB => ?_)
      have z102 : q_ir (q_r f100 x 0) so := by rw [ef100, q_setr (Or.inr (by decide))]; exact z74
      have z103 : q_ir (q_r f100 x 1) rd := by rw [ef100, q_setr (Or.inr (by decide))]; exact z75
      have z104 : q_ir (q_r f100 x 2) scr := by rw [ef100, q_setr (Or.inl (fun q => by rw [q, ky98] at kx; exact absurd kx (by decide)))]; exact z76
      have z105 : q_ir (q_r f100 x 3) fc := by rw [ef100, q_setr (Or.inr (by decide))]; exact z77
      have z106 : q_ir (q_r f100 x 4) hist := by rw [ef100, q_setr (Or.inr (by decide))]; exact z78
      have z107 : q_ir (q_r f100 x 5) rep := by rw [ef100, q_setr (Or.inr (by decide))]; exact z79
      have z108 : q_ir (q_r f100 x 6) now := by rw [ef100, q_setr (Or.inr (by decide))]; exact z80
      have z109 : q_ir (q_r f100 x 7) dr := by rw [ef100, q_setr (Or.inr (by decide))]; exact z81
      have z110 : q_ir (q_r f100 x 8) sv := by rw [ef100, q_setr (Or.inr (by decide))]; exact z82
      have z111 : q_ir (q_r f100 fc 0) tr := by rw [ef100, q_setr (Or.inr (by decide))]; exact z83
      have z112 : q_ir (q_r f100 so 0) ba := by rw [ef100, q_setr (Or.inr (by decide))]; exact z84
      have z113 : q_ir (q_r f100 dr 0) nds := by rw [ef100, q_setr (Or.inr (by decide))]; exact z85
      have z114 : q_ir (q_r f100 hist 0) ka := by rw [ef100, q_setr (Or.inr (by decide))]; exact z86
      have z115 : q_ir (q_r f100 now 0) ndn := by rw [ef100, q_setr (Or.inr (by decide))]; exact z87
      have z116 : q_ir (q_r f100 sv 0) nsv := by rw [ef100, q_setr (Or.inr (by decide))]; exact z88
      have g117 : tk_vn K L 5 f100 now ndn nl9 := tk_vn_tr g89 (by rw [ef100, q_setz (Or.inr (by decide))]) (fun a9 h9 k9 => by rw [ef100, q_setj (Or.inr (by decide))]) (fun i9 => by rw [ef100, q_setr (Or.inl (fun q => by rw [q, ky98] at kndn; exact absurd kndn (by decide)))])
      have g118 : tk_vk K L f100 hist ka now ndn := tk_vk_tr t73 (by rw [ef100, q_setz (Or.inr (by decide))]) (by rw [ef100, q_setz (Or.inl (fun q => by rw [q, ky98] at khist; exact absurd khist (by decide)))]) (by rw [ef100, q_setz (Or.inr (by decide))]) (fun a9 h9 k9 => by rw [ef100, q_setj (Or.inr (by decide))]) (fun i9 => by rw [ef100, q_setr (Or.inl (fun q => by rw [q, ky98] at kndn; exact absurd kndn (by decide)))]) (fun a9 h9 k9 => by rw [ef100, q_setz (Or.inl (fun q => by rw [q, ky98] at k9; exact absurd k9 (by decide)))]) (fun a9 h9 k9 => by rw [ef100, q_setj (Or.inl (fun q => by rw [q, ky98] at k9; exact absurd k9 (by decide)))]) (fun i9 => by rw [ef100, q_setr (Or.inl (fun q => by rw [q, ky98] at kka; exact absurd kka (by decide)))]) (fun a9 h9 k9 => by rw [ef100, q_setr (Or.inl (fun q => by rw [q, ky98] at k9; exact absurd k9 (by decide)))]) (fun a9 h9 k9 i9 => by rw [ef100, q_setr (Or.inl (fun q => by rw [q, ky98] at k9; exact absurd k9 (by decide)))])
      refine q_ild_n cx dX11_setBorn_45 rfl (lv_at hl 0 rfl) ?_
      refine W.widen (k := 2) (n := 12) (by decide) (by decide) ?_
      refine vx_ret ?_
      refine q_iret cx hr hlk hB dX11_setBorn_46 ⟨by omega, by omega⟩ ?_
      exact g118
set_option maxHeartbeats 4000000 in
set_option maxRecDepth 100000 in
theorem f_xcharge (l : Launch) (g : q_G) (ad : Nat → Nat) {K : Nat → Nat} {L : List Nat} (hN : L.Nodup) {f : Nat → va_E} (hT : q_Ty g K L f) (hfl : l.stackTraces = false) (nl9 : List (List Int)) (x : Nat) (hx : x ∈ L) (kx : K x = 11) (a0 : Int) (la0 : (-2147483648) ≤ a0) (ua0 : a0 ≤ 2147483647) (b0 : Int) (lb0 : (-2147483648) ≤ b0) (ub0 : b0 ≤ 2147483647) (so : Nat) (hso : so ∈ L) (kso : K so = 8) (rd : Nat) (hrd : rd ∈ L) (krd : K rd = 9) (scr : Nat) (hscr : scr ∈ L) (kscr : K scr = 7) (fc : Nat) (hfc : fc ∈ L) (kfc : K fc = 1) (hist : Nat) (hhist : hist ∈ L) (khist : K hist = 2) (rep : Nat) (hrep : rep ∈ L) (krep : K rep = 6) (now : Nat) (hnow : now ∈ L) (know : K now = 10) (dr : Nat) (hdr : dr ∈ L) (kdr : K dr = 13) (sv : Nat) (hsv : sv ∈ L) (ksv : K sv = 14) (tr : Nat) (htr : tr ∈ L) (ktr : K tr = 15) (ba : Nat) (hba : ba ∈ L) (kba : K ba = 142) (nds : Nat) (hnds : nds ∈ L) (knds : K nds = 111) (ka : Nat) (hka : ka ∈ L) (kka : K ka = 140) (ndn : Nat) (hndn : ndn ∈ L) (kndn : K ndn = 110) (nsv : Nat) (hnsv : nsv ∈ L) (knsv : K nsv = 112) (hr0 : q_ir (q_r f x 0) so) (hr1 : q_ir (q_r f x 1) rd) (hr2 : q_ir (q_r f x 2) scr) (hr3 : q_ir (q_r f x 3) fc) (hr4 : q_ir (q_r f x 4) hist) (hr5 : q_ir (q_r f x 5) rep) (hr6 : q_ir (q_r f x 6) now) (hr7 : q_ir (q_r f x 7) dr) (hr8 : q_ir (q_r f x 8) sv) (hr9 : q_ir (q_r f fc 0) tr) (hr10 : q_ir (q_r f so 0) ba) (hr11 : q_ir (q_r f dr 0) nds) (hr12 : q_ir (q_r f hist 0) ka) (hr13 : q_ir (q_r f now 0) ndn) (hr14 : q_ir (q_r f sv 0) nsv) (hvn : tk_vn K L 5 f now ndn nl9) (hvk : tk_vk K L f hist ka now ndn) : q_Xt l g ad K L yX11_charge cX11_charge 3 (some .int) 7 103 2 12 [.ref x, .int (q_i a0), .int (q_i b0)] f [(2, 1, 2), (5, 4, 4), (16, 3, 12), (20, 0, 8), (24, 0, 4), (28, 0, 7)] (q_Pi (fun (z : Int) (f1 : Nat → va_E) => (tk_vk K L f1 hist ka now ndn))) (fun (E : String) (f1 : Nat → va_E) => (E = "java/lang/IndexOutOfBoundsException" ∧ f = f1) ∨ (E = "java/lang/IllegalArgumentException" ∧ f = f1)) := by
  refine q_xofb (by decide +kernel) hN hT (Nat.le_of_ble_eq_true rfl) ?_
  intro p e s m below meth c ls cx hr hlk htab hX hB hl
  have hl : lv_has ls 3 [(0, .ref x), (1, .int (q_i a0)), (2, .int (q_i b0))] := hl
  obtain ⟨H, hH⟩ : ∃ H : Heap, H = s.heap := ⟨_, rfl⟩
  obtain ⟨locs, hlocs⟩ : ∃ z : List Loc, z = [] := ⟨_, rfl⟩
  rw [← hH, ← hlocs] at hB
  rw [← hH, ← hlocs]
  refine q_ald_n cx dX11_charge_0 rfl (lv_at hl 0 rfl) ?_
  refine q_ild_n cx dX11_charge_1 rfl (lv_at hl 1 rfl) ?_
  refine q_cXV (As := [.int (q_i a0)]) (rest := []) cx hX hB (fun _ h => h) (fun _ h _ => h) hN hx kx (by decide) rfl (x_requireNode l g ad hN hB.2.1 hfl x hx kx a0 (by omega) (by omega) so hso kso rd hrd krd scr hscr kscr fc hfc kfc hist hhist khist rep hrep krep now hnow know dr hdr kdr sv hsv ksv tr htr ktr hr0 hr1 hr2 hr3 hr4 hr5 hr6 hr7 hr8 hr9) q_cX11_129 q_dX11_requireNode (by decide) rfl rfl hl.1 rfl (Nat.le_of_ble_eq_true rfl) dX11_charge_2 (fun E9 ce9 q9 H locs f55 hex hF hB hcell hcv hcl => ?_) (fun v9 H locs f52 h54 hF hB => ?_)
  · rcases hex with ⟨rfl, rfl⟩
    · exact q_xout hlk htab hB hcell hcv hcl (by decide) (Or.inl ⟨rfl, rfl⟩)
  · obtain ⟨rfl, h54⟩ := h54
    refine W.eq (g2 := F0 m 5 ls []) rfl ?_
    obtain rfl := h54
    refine q_ild_n cx dX11_charge_5 rfl (lv_at hl 2 rfl) ?_
    refine q_cSi (As := [.int (q_i b0)]) (rest := []) cx hB (fun _ h => h) hN (g_X10_isCharge l g hN hB.2.1 b0 (by omega) (by omega)) q_cX11_303 q_dX10_isCharge (by decide) rfl rfl hl.1 rfl (Nat.le_of_ble_eq_true rfl) dX11_charge_6 (fun y57 H locs f56 ry57 h58 hF hB => ?_)
    obtain ⟨rfl, ly57, uy57⟩ := h58
    refine q_ifne (tgt := 23) cx ⟨by omega, by omega⟩ dX11_charge_9 (by decide) (fun c59 => ?_) (fun c59 => ?_)
    · refine q_ald_n cx dX11_charge_23 rfl (lv_at hl 0 rfl) ?_
      refine q_gX11_40 cx hB hx kx hr4 dX11_charge_24 (fun hb60 kb60 => ?_)
      refine q_ald_n cx dX11_charge_27 rfl (lv_at hl 0 rfl) ?_
      refine q_gX11_54 cx hB hx kx hr6 dX11_charge_28 (fun hb61 kb61 => ?_)
      refine q_cVv (As := [.ref now]) (rest := []) cx hB (fun _ h => h) hN hhist khist (by decide) rfl (f_keep l g hN hB.2.1 nl9 hist hhist khist now hnow know ka hka kka ndn hndn kndn hr12 hr13 hvn hvk) q_cX11_107 q_dX2_keep (by decide) rfl rfl hl.1 rfl (Nat.le_of_ble_eq_true rfl) dX11_charge_31 (fun H locs f62 h64 hF hB => ?_)
      have t65 := h64
      have z66 : q_ir (q_r f62 x 0) so := Eq.trans (hF.r hx (by rw [kx]; rfl)) hr0
      have z67 : q_ir (q_r f62 x 1) rd := Eq.trans (hF.r hx (by rw [kx]; rfl)) hr1
      have z68 : q_ir (q_r f62 x 2) scr := Eq.trans (hF.r hx (by rw [kx]; rfl)) hr2
      have z69 : q_ir (q_r f62 x 3) fc := Eq.trans (hF.r hx (by rw [kx]; rfl)) hr3
      have z70 : q_ir (q_r f62 x 4) hist := Eq.trans (hF.r hx (by rw [kx]; rfl)) hr4
      have z71 : q_ir (q_r f62 x 5) rep := Eq.trans (hF.r hx (by rw [kx]; rfl)) hr5
      have z72 : q_ir (q_r f62 x 6) now := Eq.trans (hF.r hx (by rw [kx]; rfl)) hr6
      have z73 : q_ir (q_r f62 x 7) dr := Eq.trans (hF.r hx (by rw [kx]; rfl)) hr7
      have z74 : q_ir (q_r f62 x 8) sv := Eq.trans (hF.r hx (by rw [kx]; rfl)) hr8
      have z75 : q_ir (q_r f62 fc 0) tr := Eq.trans (hF.r hfc (by rw [kfc]; rfl)) hr9
      have z76 : q_ir (q_r f62 so 0) ba := Eq.trans (hF.r hso (by rw [kso]; rfl)) hr10
      have z77 : q_ir (q_r f62 dr 0) nds := Eq.trans (hF.r hdr (by rw [kdr]; rfl)) hr11
      have z78 : q_ir (q_r f62 hist 0) ka := Eq.trans (hF.r hhist (by rw [khist]; rfl)) hr12
      have z79 : q_ir (q_r f62 now 0) ndn := Eq.trans (hF.r hnow (by rw [know]; rfl)) hr13
      have z80 : q_ir (q_r f62 sv 0) nsv := Eq.trans (hF.r hsv (by rw [ksv]; rfl)) hr14
      have g81 : tk_vn K L 5 f62 now ndn nl9 := tk_vn_tr hvn (hF.z hnow (by rw [know]; rfl)) (fun a9 h9 k9 => hF.j h9 (by rw [k9]; rfl)) (fun i9 => hF.r hndn (by rw [kndn]; rfl))
      refine q_ald_n cx dX11_charge_34 rfl (lv_at hl 0 rfl) ?_
      refine q_gX11_54 cx hB hx kx z72 dX11_charge_35 (fun hb82 kb82 => ?_)
      refine q_ild_n cx dX11_charge_38 rfl (lv_at hl 1 rfl) ?_
      refine q_ild_n cx dX11_charge_39 rfl (lv_at hl 2 rfl) ?_
      refine q_cVi (As := [.int (q_i a0), .int (q_i b0)]) (rest := []) cx hB (fun _ h => h) hN hnow know (by decide) rfl (g_X10_addEnergy l g hN hB.2.1 now hnow know a0 (by omega) (by omega) b0 (by omega) (by omega)) q_cX11_308 q_dX10_addEnergy (by decide) rfl rfl hl.1 rfl (Nat.le_of_ble_eq_true rfl) dX11_charge_40 (fun y84 H locs f83 ry84 h85 hF hB => ?_)
      have uy84 := h85
      have z86 : q_ir (q_r f83 x 0) so := Eq.trans (hF.r hx (by rw [kx]; rfl)) z66
      have z87 : q_ir (q_r f83 x 1) rd := Eq.trans (hF.r hx (by rw [kx]; rfl)) z67
      have z88 : q_ir (q_r f83 x 2) scr := Eq.trans (hF.r hx (by rw [kx]; rfl)) z68
      have z89 : q_ir (q_r f83 x 3) fc := Eq.trans (hF.r hx (by rw [kx]; rfl)) z69
      have z90 : q_ir (q_r f83 x 4) hist := Eq.trans (hF.r hx (by rw [kx]; rfl)) z70
      have z91 : q_ir (q_r f83 x 5) rep := Eq.trans (hF.r hx (by rw [kx]; rfl)) z71
      have z92 : q_ir (q_r f83 x 6) now := Eq.trans (hF.r hx (by rw [kx]; rfl)) z72
      have z93 : q_ir (q_r f83 x 7) dr := Eq.trans (hF.r hx (by rw [kx]; rfl)) z73
      have z94 : q_ir (q_r f83 x 8) sv := Eq.trans (hF.r hx (by rw [kx]; rfl)) z74
      have z95 : q_ir (q_r f83 fc 0) tr := Eq.trans (hF.r hfc (by rw [kfc]; rfl)) z75
      have z96 : q_ir (q_r f83 so 0) ba := Eq.trans (hF.r hso (by rw [kso]; rfl)) z76
      have z97 : q_ir (q_r f83 dr 0) nds := Eq.trans (hF.r hdr (by rw [kdr]; rfl)) z77
      have z98 : q_ir (q_r f83 hist 0) ka := Eq.trans (hF.r hhist (by rw [khist]; rfl)) z78
      have z99 : q_ir (q_r f83 now 0) ndn := Eq.trans (hF.r hnow (by rw [know]; rfl)) z79
      have z100 : q_ir (q_r f83 sv 0) nsv := Eq.trans (hF.r hsv (by rw [ksv]; rfl)) z80
      have g101 : tk_vn K L 5 f83 now ndn nl9 := tk_vn_tr g81 (hF.z hnow (by rw [know]; rfl)) (fun a9 h9 k9 => hF.j h9 (by rw [k9]; rfl)) (fun i9 => hF.r hndn (by rw [kndn]; rfl))
      have g102 : tk_vk K L f83 hist ka now ndn := tk_vk_tr t65 (hF.z hhist (by rw [khist]; rfl)) (hF.z hhist (by rw [khist]; rfl)) (hF.z hnow (by rw [know]; rfl)) (fun a9 h9 k9 => hF.j h9 (by rw [k9]; rfl)) (fun i9 => hF.r hndn (by rw [kndn]; rfl)) (fun a9 h9 k9 => hF.z h9 (by rw [k9]; rfl)) (fun a9 h9 k9 => hF.j h9 (by rw [k9]; rfl)) (fun i9 => hF.r hka (by rw [kka]; rfl)) (fun a9 h9 k9 => hF.r h9 (by rw [k9]; rfl)) (fun a9 h9 k9 i9 => hF.r h9 (by rw [k9]; rfl))
      refine W.widen (k := 2) (n := 12) (by decide) (by decide) ?_
      refine vx_ret ?_
      refine q_iret cx hr hlk hB dX11_charge_43 ⟨by omega, by omega⟩ ?_
      exact g102
    · exact q_throw (text := "the charge is out of range") hfl cx hlk htab hX hB hl.1 (by decide +kernel) q_h880 q_h152 (by decide +kernel) q_xl87a q_xl87b q_xl87c dX11_charge_12 dX11_charge_15 (Or.inr ⟨dX11_charge_16, dX11_charge_19, dX11_charge_22⟩) (by decide) (by decide) (Or.inr ⟨rfl, rfl⟩)
set_option maxHeartbeats 4000000 in
set_option maxRecDepth 100000 in
theorem f_xsetMiss (l : Launch) (g : q_G) (ad : Nat → Nat) {K : Nat → Nat} {L : List Nat} (hN : L.Nodup) {f : Nat → va_E} (hT : q_Ty g K L f) (hfl : l.stackTraces = false) (nl9 : List (List Int)) (x : Nat) (hx : x ∈ L) (kx : K x = 11) (a0 : Int) (la0 : (-2147483648) ≤ a0) (ua0 : a0 ≤ 2147483647) (so : Nat) (hso : so ∈ L) (kso : K so = 8) (rd : Nat) (hrd : rd ∈ L) (krd : K rd = 9) (scr : Nat) (hscr : scr ∈ L) (kscr : K scr = 7) (fc : Nat) (hfc : fc ∈ L) (kfc : K fc = 1) (hist : Nat) (hhist : hist ∈ L) (khist : K hist = 2) (rep : Nat) (hrep : rep ∈ L) (krep : K rep = 6) (now : Nat) (hnow : now ∈ L) (know : K now = 10) (dr : Nat) (hdr : dr ∈ L) (kdr : K dr = 13) (sv : Nat) (hsv : sv ∈ L) (ksv : K sv = 14) (tr : Nat) (htr : tr ∈ L) (ktr : K tr = 15) (ba : Nat) (hba : ba ∈ L) (kba : K ba = 142) (nds : Nat) (hnds : nds ∈ L) (knds : K nds = 111) (ka : Nat) (hka : ka ∈ L) (kka : K ka = 140) (ndn : Nat) (hndn : ndn ∈ L) (kndn : K ndn = 110) (nsv : Nat) (hnsv : nsv ∈ L) (knsv : K nsv = 112) (hr0 : q_ir (q_r f x 0) so) (hr1 : q_ir (q_r f x 1) rd) (hr2 : q_ir (q_r f x 2) scr) (hr3 : q_ir (q_r f x 3) fc) (hr4 : q_ir (q_r f x 4) hist) (hr5 : q_ir (q_r f x 5) rep) (hr6 : q_ir (q_r f x 6) now) (hr7 : q_ir (q_r f x 7) dr) (hr8 : q_ir (q_r f x 8) sv) (hr9 : q_ir (q_r f fc 0) tr) (hr10 : q_ir (q_r f so 0) ba) (hr11 : q_ir (q_r f dr 0) nds) (hr12 : q_ir (q_r f hist 0) ka) (hr13 : q_ir (q_r f now 0) ndn) (hr14 : q_ir (q_r f sv 0) nsv) (hvn : tk_vn K L 5 f now ndn nl9) (hvk : tk_vk K L f hist ka now ndn) : q_Xt l g ad K L yX11_setMiss cX11_setMiss 3 (some .int) 6 82 1 6 [.ref x, .int (q_i a0)] f [(2, 1, 2), (10, 10, 10), (16, 3, 12), (20, 0, 8), (24, 0, 4), (28, 0, 7)] (q_Pi (fun (z : Int) (f1 : Nat → va_E) => (tk_vk K L f1 hist ka now ndn))) (fun (E : String) (f1 : Nat → va_E) => E = "java/lang/IllegalArgumentException" ∧ f = f1) := by
  refine q_xofb (by decide +kernel) hN hT (Nat.le_of_ble_eq_true rfl) ?_
  intro p e s m below meth c ls cx hr hlk htab hX hB hl
  have hl : lv_has ls 3 [(0, .ref x), (1, .int (q_i a0))] := hl
  obtain ⟨H, hH⟩ : ∃ H : Heap, H = s.heap := ⟨_, rfl⟩
  obtain ⟨locs, hlocs⟩ : ∃ z : List Loc, z = [] := ⟨_, rfl⟩
  rw [← hH, ← hlocs] at hB
  rw [← hH, ← hlocs]
  refine q_ild_n cx dX11_setMiss_0 rfl (lv_at hl 1 rfl) ?_
  refine q_iconst cx dX11_setMiss_1 ?_
  refine q_iclt (tgt := 11) cx ⟨by omega, by omega⟩ ⟨by decide, by decide⟩ dX11_setMiss_2 (by decide) (fun c48 => ?_) (fun c48 => ?_)
  · exact q_throw (text := "the misses are out of range") hfl cx hlk htab hX hB hl.1 (by decide +kernel) q_h880 q_h152 (by decide +kernel) q_xl87a q_xl87b q_xl87c dX11_setMiss_11 dX11_setMiss_14 (Or.inr ⟨dX11_setMiss_15, dX11_setMiss_18, dX11_setMiss_21⟩) (by decide) (by decide) ⟨rfl, rfl⟩
  · refine q_ild_n cx dX11_setMiss_5 rfl (lv_at hl 1 rfl) ?_
    refine q_bipush cx dX11_setMiss_6 rfl ?_
    refine q_icle (tgt := 22) cx ⟨by omega, by omega⟩ ⟨by decide, by decide⟩ dX11_setMiss_8 (by decide) (fun c49 => ?_) (fun c49 => ?_)
    · refine q_ald_n cx dX11_setMiss_22 rfl (lv_at hl 0 rfl) ?_
      refine q_gX11_40 cx hB hx kx hr4 dX11_setMiss_23 (fun hb50 kb50 => ?_)
      refine q_ald_n cx dX11_setMiss_26 rfl (lv_at hl 0 rfl) ?_
      refine q_gX11_54 cx hB hx kx hr6 dX11_setMiss_27 (fun hb51 kb51 => ?_)
      refine q_cVv (As := [.ref now]) (rest := []) cx hB (fun _ h => h) hN hhist khist (by decide) rfl (f_keep l g hN hB.2.1 nl9 hist hhist khist now hnow know ka hka kka ndn hndn kndn hr12 hr13 hvn hvk) q_cX11_107 q_dX2_keep (by decide) rfl rfl hl.1 rfl (Nat.le_of_ble_eq_true rfl) dX11_setMiss_30 (fun H locs f52 h54 hF hB => ?_)
      have t55 := h54
      have z56 : q_ir (q_r f52 x 0) so := Eq.trans (hF.r hx (by rw [kx]; rfl)) hr0
      have z57 : q_ir (q_r f52 x 1) rd := Eq.trans (hF.r hx (by rw [kx]; rfl)) hr1
      have z58 : q_ir (q_r f52 x 2) scr := Eq.trans (hF.r hx (by rw [kx]; rfl)) hr2
      have z59 : q_ir (q_r f52 x 3) fc := Eq.trans (hF.r hx (by rw [kx]; rfl)) hr3
      have z60 : q_ir (q_r f52 x 4) hist := Eq.trans (hF.r hx (by rw [kx]; rfl)) hr4
      have z61 : q_ir (q_r f52 x 5) rep := Eq.trans (hF.r hx (by rw [kx]; rfl)) hr5
      have z62 : q_ir (q_r f52 x 6) now := Eq.trans (hF.r hx (by rw [kx]; rfl)) hr6
      have z63 : q_ir (q_r f52 x 7) dr := Eq.trans (hF.r hx (by rw [kx]; rfl)) hr7
      have z64 : q_ir (q_r f52 x 8) sv := Eq.trans (hF.r hx (by rw [kx]; rfl)) hr8
      have z65 : q_ir (q_r f52 fc 0) tr := Eq.trans (hF.r hfc (by rw [kfc]; rfl)) hr9
      have z66 : q_ir (q_r f52 so 0) ba := Eq.trans (hF.r hso (by rw [kso]; rfl)) hr10
      have z67 : q_ir (q_r f52 dr 0) nds := Eq.trans (hF.r hdr (by rw [kdr]; rfl)) hr11
      have z68 : q_ir (q_r f52 hist 0) ka := Eq.trans (hF.r hhist (by rw [khist]; rfl)) hr12
      have z69 : q_ir (q_r f52 now 0) ndn := Eq.trans (hF.r hnow (by rw [know]; rfl)) hr13
      have z70 : q_ir (q_r f52 sv 0) nsv := Eq.trans (hF.r hsv (by rw [ksv]; rfl)) hr14
      have g71 : tk_vn K L 5 f52 now ndn nl9 := tk_vn_tr hvn (hF.z hnow (by rw [know]; rfl)) (fun a9 h9 k9 => hF.j h9 (by rw [k9]; rfl)) (fun i9 => hF.r hndn (by rw [kndn]; rfl))
      refine q_ald_n cx dX11_setMiss_33 rfl (lv_at hl 0 rfl) ?_
      refine q_gX11_54 cx hB hx kx z62 dX11_setMiss_34 (fun hb72 kb72 => ?_)
      obtain ⟨x73, ex73⟩ : ∃ zz, q_is (q_z f52 now 10) zz := ⟨_, q_isr _⟩
      refine q_gX11_313 cx hB hnow know ex73 dX11_setMiss_37 (fun lb74 ub74 => ?_)
      refine lv_istore_n (lv' := [(2, .int (q_i x73)), (0, .ref x), (1, .int (q_i a0))]) cx.1 cx.2.1 dX11_setMiss_40 rfl hl (by decide) rfl (fun ls hl => ?_)
      refine q_ald_n cx dX11_setMiss_41 rfl (lv_at hl 1 rfl) ?_
      refine q_gX11_54 cx hB hx kx z62 dX11_setMiss_42 (fun hb75 kb75 => ?_)
      refine q_ild_n cx dX11_setMiss_45 rfl (lv_at hl 2 rfl) ?_
      refine q_pX11_313 cx hB hnow know ⟨by omega, by omega⟩ (by omega) (by omega) rfl dX11_setMiss_46 (fun H locs f76 ef76 z77 hB => ?_)
      have z78 : q_ir (q_r f76 x 0) so := by rw [ef76, q_setr (Or.inr (by decide))]; exact z56
      have z79 : q_ir (q_r f76 x 1) rd := by rw [ef76, q_setr (Or.inr (by decide))]; exact z57
      have z80 : q_ir (q_r f76 x 2) scr := by rw [ef76, q_setr (Or.inr (by decide))]; exact z58
      have z81 : q_ir (q_r f76 x 3) fc := by rw [ef76, q_setr (Or.inr (by decide))]; exact z59
      have z82 : q_ir (q_r f76 x 4) hist := by rw [ef76, q_setr (Or.inr (by decide))]; exact z60
      have z83 : q_ir (q_r f76 x 5) rep := by rw [ef76, q_setr (Or.inr (by decide))]; exact z61
      have z84 : q_ir (q_r f76 x 6) now := by rw [ef76, q_setr (Or.inr (by decide))]; exact z62
      have z85 : q_ir (q_r f76 x 7) dr := by rw [ef76, q_setr (Or.inr (by decide))]; exact z63
      have z86 : q_ir (q_r f76 x 8) sv := by rw [ef76, q_setr (Or.inr (by decide))]; exact z64
      have z87 : q_ir (q_r f76 fc 0) tr := by rw [ef76, q_setr (Or.inr (by decide))]; exact z65
      have z88 : q_ir (q_r f76 so 0) ba := by rw [ef76, q_setr (Or.inr (by decide))]; exact z66
      have z89 : q_ir (q_r f76 dr 0) nds := by rw [ef76, q_setr (Or.inr (by decide))]; exact z67
      have z90 : q_ir (q_r f76 hist 0) ka := by rw [ef76, q_setr (Or.inr (by decide))]; exact z68
      have z91 : q_ir (q_r f76 now 0) ndn := by rw [ef76, q_setr (Or.inr (by decide))]; exact z69
      have z92 : q_ir (q_r f76 sv 0) nsv := by rw [ef76, q_setr (Or.inr (by decide))]; exact z70
      have g93 : tk_vn K L 5 f76 now ndn nl9 := tk_vn_tr g71 (by rw [ef76, q_setz (Or.inr (by decide))]) (fun a9 h9 k9 => by rw [ef76, q_setj (Or.inl (fun q => by rw [q, know] at k9; exact absurd k9 (by decide)))]) (fun i9 => by rw [ef76, q_setr (Or.inl (fun q => by rw [q, know] at kndn; exact absurd kndn (by decide)))])
      have g94 : tk_vk K L f76 hist ka now ndn := tk_vk_tr t55 (by rw [ef76, q_setz (Or.inr (by decide))]) (by rw [ef76, q_setz (Or.inr (by decide))]) (by rw [ef76, q_setz (Or.inr (by decide))]) (fun a9 h9 k9 => by rw [ef76, q_setj (Or.inl (fun q => by rw [q, know] at k9; exact absurd k9 (by decide)))]) (fun i9 => by rw [ef76, q_setr (Or.inl (fun q => by rw [q, know] at kndn; exact absurd kndn (by decide)))]) (fun a9 h9 k9 => by rw [ef76, q_setz (Or.inl (fun q => by rw [q, know] at k9; exact absurd k9 (by decide)))]) (fun a9 h9 k9 => by rw [ef76, q_setj (Or.inl (fun q => by rw [q, know] at k9; exact absurd k9 (by decide)))]) (fun i9 => by rw [ef76, q_setr (Or.inl (fun q => by rw [q, know] at kka; exact absurd kka (by decide)))]) (fun a9 h9 k9 => by rw [ef76, q_setr (Or.inl (fun q => by rw [q, know] at k9; exact absurd k9 (by decide)))]) (fun a9 h9 k9 i9 => by rw [ef76, q_setr (Or.inl (fun q => by rw [q, know] at k9; exact absurd k9 (by decide)))])
      refine q_ild_n cx dX11_setMiss_49 rfl (lv_at hl 0 rfl) ?_
      refine W.widen (k := 1) (n := 6) (by decide) (by decide) ?_
      refine vx_ret ?_
      refine q_iret cx hr hlk hB dX11_setMiss_50 ⟨by omega, by omega⟩ ?_
      exact g94
    · exact q_throw (text := "the misses are out of range") hfl cx hlk htab hX hB hl.1 (by decide +kernel) q_h880 q_h152 (by decide +kernel) q_xl87a q_xl87b q_xl87c dX11_setMiss_11 dX11_setMiss_14 (Or.inr ⟨dX11_setMiss_15, dX11_setMiss_18, dX11_setMiss_21⟩) (by decide) (by decide) ⟨rfl, rfl⟩
set_option maxHeartbeats 4000000 in
set_option maxRecDepth 100000 in
theorem f_xrunScript (l : Launch) (g : q_G) (ad : Nat → Nat) {K : Nat → Nat} {L : List Nat} (hN : L.Nodup) {f : Nat → va_E} (hT : q_Ty g K L f) (hfl : l.stackTraces = false) (nl9 : List (List Int)) (x : Nat) (hx : x ∈ L) (kx : K x = 11) (so : Nat) (hso : so ∈ L) (kso : K so = 8) (rd : Nat) (hrd : rd ∈ L) (krd : K rd = 9) (scr : Nat) (hscr : scr ∈ L) (kscr : K scr = 7) (fc : Nat) (hfc : fc ∈ L) (kfc : K fc = 1) (hist : Nat) (hhist : hist ∈ L) (khist : K hist = 2) (rep : Nat) (hrep : rep ∈ L) (krep : K rep = 6) (now : Nat) (hnow : now ∈ L) (know : K now = 10) (dr : Nat) (hdr : dr ∈ L) (kdr : K dr = 13) (sv : Nat) (hsv : sv ∈ L) (ksv : K sv = 14) (tr : Nat) (htr : tr ∈ L) (ktr : K tr = 15) (ba : Nat) (hba : ba ∈ L) (kba : K ba = 142) (nds : Nat) (hnds : nds ∈ L) (knds : K nds = 111) (ka : Nat) (hka : ka ∈ L) (kka : K ka = 140) (ndn : Nat) (hndn : ndn ∈ L) (kndn : K ndn = 110) (nsv : Nat) (hnsv : nsv ∈ L) (knsv : K nsv = 112) (hr0 : q_ir (q_r f x 0) so) (hr1 : q_ir (q_r f x 1) rd) (hr2 : q_ir (q_r f x 2) scr) (hr3 : q_ir (q_r f x 3) fc) (hr4 : q_ir (q_r f x 4) hist) (hr5 : q_ir (q_r f x 5) rep) (hr6 : q_ir (q_r f x 6) now) (hr7 : q_ir (q_r f x 7) dr) (hr8 : q_ir (q_r f x 8) sv) (hr9 : q_ir (q_r f fc 0) tr) (hr10 : q_ir (q_r f so 0) ba) (hr11 : q_ir (q_r f dr 0) nds) (hr12 : q_ir (q_r f hist 0) ka) (hr13 : q_ir (q_r f now 0) ndn) (hr14 : q_ir (q_r f sv 0) nsv) (hvn : tk_vn K L 5 f now ndn nl9) (hvk : tk_vk K L f hist ka now ndn) : q_Xt l g ad K L yX11_runScript cX11_runScript 2 (some .int) 8 175 1 6 [.ref x] f [(0, 0, 6), (2, 1, 2), (3, 2, 4), (4, 0, 7), (5, 1, 1), (5, 3, 4), (5, 6, 9), (7, 1, 4), (8, 1, 9), (10, 5, 5), (10, 11, 15), (16, 3, 12), (20, 0, 8), (24, 0, 4), (28, 0, 7)] (q_Pi (fun (z : Int) (f1 : Nat → va_E) => q_is (q_z f1 so 1) 0 ∧ (tk_vk K L f1 hist ka now ndn))) (fun (E : String) (f1 : Nat → va_E) => E = "java/lang/IllegalArgumentException" ∧ q_is (q_z f1 so 1) 0 ∧ (tk_vk K L f1 hist ka now ndn)) := by
  refine q_xofb (by decide +kernel) hN hT (Nat.le_of_ble_eq_true rfl) ?_
  intro p e s m below meth c ls cx hr hlk htab hX hB hl
  have hl : lv_has ls 2 [(0, .ref x)] := hl
  obtain ⟨H, hH⟩ : ∃ H : Heap, H = s.heap := ⟨_, rfl⟩
  obtain ⟨locs, hlocs⟩ : ∃ z : List Loc, z = [] := ⟨_, rfl⟩
  rw [← hH, ← hlocs] at hB
  rw [← hH, ← hlocs]
  refine q_ald_n cx dX11_runScript_0 rfl (lv_at hl 0 rfl) ?_
  refine q_gX11_26 cx hB hx kx hr2 dX11_runScript_1 (fun hb92 kb92 => ?_)
  refine q_ald_n cx dX11_runScript_4 rfl (lv_at hl 0 rfl) ?_
  refine q_gX11_10 cx hB hx kx hr0 dX11_runScript_5 (fun hb93 kb93 => ?_)
  refine q_ald_n cx dX11_runScript_8 rfl (lv_at hl 0 rfl) ?_
  refine q_gX11_54 cx hB hx kx hr6 dX11_runScript_9 (fun hb94 kb94 => ?_)
  refine q_cXV (As := [.ref so, .ref now]) (rest := []) cx hX hB (fun _ h => h) (fun _ h _ => h) hN hscr kscr (by decide) rfl (g_X7_readAll l g ad hN hB.2.1 hfl scr hscr kscr so hso kso now hnow know) q_cX11_104 q_dX7_readAll (by decide) rfl rfl hl.1 rfl (Nat.le_of_ble_eq_true rfl) dX11_runScript_12 (fun E9 ce9 q9 H locs f98 hex hF hB hcell hcv hcl => ?_) (fun v9 H locs f95 h97 hF hB => ?_)
  · exact hex.elim
  · obtain ⟨y96, rfl, ry96, h97⟩ := h97
    refine W.eq (g2 := F0 m 15 ls [.int (q_i y96)]) rfl ?_
    obtain ⟨ly96, uy96⟩ := h97
    have z99 : q_ir (q_r f95 x 0) so := Eq.trans (hF.r hx (by rw [kx]; rfl)) hr0
    have z100 : q_ir (q_r f95 x 1) rd := Eq.trans (hF.r hx (by rw [kx]; rfl)) hr1
    have z101 : q_ir (q_r f95 x 2) scr := Eq.trans (hF.r hx (by rw [kx]; rfl)) hr2
    have z102 : q_ir (q_r f95 x 3) fc := Eq.trans (hF.r hx (by rw [kx]; rfl)) hr3
    have z103 : q_ir (q_r f95 x 4) hist := Eq.trans (hF.r hx (by rw [kx]; rfl)) hr4
    have z104 : q_ir (q_r f95 x 5) rep := Eq.trans (hF.r hx (by rw [kx]; rfl)) hr5
    have z105 : q_ir (q_r f95 x 6) now := Eq.trans (hF.r hx (by rw [kx]; rfl)) hr6
    have z106 : q_ir (q_r f95 x 7) dr := Eq.trans (hF.r hx (by rw [kx]; rfl)) hr7
    have z107 : q_ir (q_r f95 x 8) sv := Eq.trans (hF.r hx (by rw [kx]; rfl)) hr8
    have z108 : q_ir (q_r f95 fc 0) tr := Eq.trans (hF.r hfc (by rw [kfc]; rfl)) hr9
    have z109 : q_ir (q_r f95 so 0) ba := Eq.trans (hF.r hso (by rw [kso]; rfl)) hr10
    have z110 : q_ir (q_r f95 dr 0) nds := Eq.trans (hF.r hdr (by rw [kdr]; rfl)) hr11
    have z111 : q_ir (q_r f95 hist 0) ka := Eq.trans (hF.r hhist (by rw [khist]; rfl)) hr12
    have z112 : q_ir (q_r f95 now 0) ndn := Eq.trans (hF.r hnow (by rw [know]; rfl)) hr13
    have z113 : q_ir (q_r f95 sv 0) nsv := Eq.trans (hF.r hsv (by rw [ksv]; rfl)) hr14
    have g114 : tk_vn K L 5 f95 now ndn nl9 := tk_vn_tr hvn (hF.z hnow (by rw [know]; rfl)) (fun a9 h9 k9 => hF.j h9 (by rw [k9]; rfl)) (fun i9 => hF.r hndn (by rw [kndn]; rfl))
    have g115 : tk_vk K L f95 hist ka now ndn := tk_vk_tr hvk (hF.z hhist (by rw [khist]; rfl)) (hF.z hhist (by rw [khist]; rfl)) (hF.z hnow (by rw [know]; rfl)) (fun a9 h9 k9 => hF.j h9 (by rw [k9]; rfl)) (fun i9 => hF.r hndn (by rw [kndn]; rfl)) (fun a9 h9 k9 => hF.z h9 (by rw [k9]; rfl)) (fun a9 h9 k9 => hF.j h9 (by rw [k9]; rfl)) (fun i9 => hF.r hka (by rw [kka]; rfl)) (fun a9 h9 k9 => hF.r h9 (by rw [k9]; rfl)) (fun a9 h9 k9 i9 => hF.r h9 (by rw [k9]; rfl))
    refine lv_istore_n (lv' := [(1, .int (q_i y96)), (0, .ref x)]) cx.1 cx.2.1 dX11_runScript_15 rfl hl (by decide) rfl (fun ls hl => ?_)
    refine q_ald_n cx dX11_runScript_16 rfl (lv_at hl 1 rfl) ?_
    refine q_gX11_10 cx hB hx kx z99 dX11_runScript_17 (fun hb116 kb116 => ?_)
    refine q_iconst cx dX11_runScript_20 ?_
    refine q_pX11_79 cx hB hso kso ⟨by decide, by decide⟩ (by decide) (by decide) rfl dX11_runScript_21 (fun H locs f117 ef117 z118 hB => ?_)
    have z119 : q_ir (q_r f117 x 0) so := by rw [ef117, q_setr (Or.inr (by decide))]; exact z99
    have z120 : q_ir (q_r f117 x 1) rd := by rw [ef117, q_setr (Or.inl (fun q => by rw [q, kso] at kx; exact absurd kx (by decide)))]; exact z100
    have z121 : q_ir (q_r f117 x 2) scr := by rw [ef117, q_setr (Or.inr (by decide))]; exact z101
    have z122 : q_ir (q_r f117 x 3) fc := by rw [ef117, q_setr (Or.inr (by decide))]; exact z102
    have z123 : q_ir (q_r f117 x 4) hist := by rw [ef117, q_setr (Or.inr (by decide))]; exact z103
    have z124 : q_ir (q_r f117 x 5) rep := by rw [ef117, q_setr (Or.inr (by decide))]; exact z104
    have z125 : q_ir (q_r f117 x 6) now := by rw [ef117, q_setr (Or.inr (by decide))]; exact z105
    have z126 : q_ir (q_r f117 x 7) dr := by rw [ef117, q_setr (Or.inr (by decide))]; exact z106
    have z127 : q_ir (q_r f117 x 8) sv := by rw [ef117, q_setr (Or.inr (by decide))]; exact z107
    have z128 : q_ir (q_r f117 fc 0) tr := by rw [ef117, q_setr (Or.inr (by decide))]; exact z108
    have z129 : q_ir (q_r f117 so 0) ba := by rw [ef117, q_setr (Or.inr (by decide))]; exact z109
    have z130 : q_ir (q_r f117 dr 0) nds := by rw [ef117, q_setr (Or.inr (by decide))]; exact z110
    have z131 : q_ir (q_r f117 hist 0) ka := by rw [ef117, q_setr (Or.inr (by decide))]; exact z111
    have z132 : q_ir (q_r f117 now 0) ndn := by rw [ef117, q_setr (Or.inr (by decide))]; exact z112
    have z133 : q_ir (q_r f117 sv 0) nsv := by rw [ef117, q_setr (Or.inr (by decide))]; exact z113
    have g134 : tk_vn K L 5 f117 now ndn nl9 := tk_vn_tr g114 (by rw [ef117, q_setz (Or.inr (by decide))]) (fun a9 h9 k9 => by rw [ef117, q_setj (Or.inl (fun q => by rw [q, kso] at k9; exact absurd k9 (by decide)))]) (fun i9 => by rw [ef117, q_setr (Or.inl (fun q => by rw [q, kso] at kndn; exact absurd kndn (by decide)))])
    have g135 : tk_vk K L f117 hist ka now ndn := tk_vk_tr g115 (by rw [ef117, q_setz (Or.inl (fun q => by rw [q, kso] at khist; exact absurd khist (by decide)))]) (by rw [ef117, q_setz (Or.inr (by decide))]) (by rw [ef117, q_setz (Or.inr (by decide))]) (fun a9 h9 k9 => by rw [ef117, q_setj (Or.inl (fun q => by rw [q, kso] at k9; exact absurd k9 (by decide)))]) (fun i9 => by rw [ef117, q_setr (Or.inl (fun q => by rw [q, kso] at kndn; exact absurd kndn (by decide)))]) (fun a9 h9 k9 => by rw [ef117, q_setz (Or.inl (fun q => by rw [q, kso] at k9; exact absurd k9 (by decide)))]) (fun a9 h9 k9 => by rw [ef117, q_setj (Or.inl (fun q => by rw [q, kso] at k9; exact absurd k9 (by decide)))]) (fun i9 => by rw [ef117, q_setr (Or.inl (fun q => by rw [q, kso] at kka; exact absurd kka (by decide)))]) (fun a9 h9 k9 => by rw [ef117, q_setr (Or.inl (fun q => by rw [q, kso] at k9; exact absurd k9 (by decide)))]) (fun a9 h9 k9 i9 => by rw [ef117, q_setr (Or.inl (fun q => by rw [q, kso] at k9; exact absurd k9 (by decide)))])
    refine q_ild_n cx dX11_runScript_24 rfl (lv_at hl 0 rfl) ?_
    refine q_ifne (tgt := 38) cx ⟨by omega, by omega⟩ dX11_runScript_25 (by decide) (fun c136 => ?_) (fun c136 => ?_)
    · refine q_ald_n cx dX11_runScript_38 rfl (lv_at hl 1 rfl) ?_
      refine q_gX11_40 cx hB hx kx z123 dX11_runScript_39 (fun hb137 kb137 => ?_)
      refine q_ald_n cx dX11_runScript_42 rfl (lv_at hl 1 rfl) ?_
      refine q_gX11_54 cx hB hx kx z125 dX11_runScript_43 (fun hb138 kb138 => ?_)
      refine q_cVv (As := [.ref now]) (rest := []) cx hB (fun _ h => h) hN hhist khist (by decide) rfl (f_keep l g hN hB.2.1 nl9 hist hhist khist now hnow know ka hka kka ndn hndn kndn z131 z132 g134 g135) q_cX11_107 q_dX2_keep (by decide) rfl rfl hl.1 rfl (Nat.le_of_ble_eq_true rfl) dX11_runScript_46 (fun H locs f139 h141 hF hB => ?_)
      have t142 := h141
      have z143 : q_is (q_z f139 so 1) 0 := Eq.trans (hF.z hso (by rw [kso]; rfl)) z118
      have z144 : q_ir (q_r f139 x 0) so := Eq.trans (hF.r hx (by rw [kx]; rfl)) z119
      have z145 : q_ir (q_r f139 x 1) rd := Eq.trans (hF.r hx (by rw [kx]; rfl)) z120
      have z146 : q_ir (q_r f139 x 2) scr := Eq.trans (hF.r hx (by rw [kx]; rfl)) z121
      have z147 : q_ir (q_r f139 x 3) fc := Eq.trans (hF.r hx (by rw [kx]; rfl)) z122
      have z148 : q_ir (q_r f139 x 4) hist := Eq.trans (hF.r hx (by rw [kx]; rfl)) z123
      have z149 : q_ir (q_r f139 x 5) rep := Eq.trans (hF.r hx (by rw [kx]; rfl)) z124
      have z150 : q_ir (q_r f139 x 6) now := Eq.trans (hF.r hx (by rw [kx]; rfl)) z125
      have z151 : q_ir (q_r f139 x 7) dr := Eq.trans (hF.r hx (by rw [kx]; rfl)) z126
      have z152 : q_ir (q_r f139 x 8) sv := Eq.trans (hF.r hx (by rw [kx]; rfl)) z127
      have z153 : q_ir (q_r f139 fc 0) tr := Eq.trans (hF.r hfc (by rw [kfc]; rfl)) z128
      have z154 : q_ir (q_r f139 so 0) ba := Eq.trans (hF.r hso (by rw [kso]; rfl)) z129
      have z155 : q_ir (q_r f139 dr 0) nds := Eq.trans (hF.r hdr (by rw [kdr]; rfl)) z130
      have z156 : q_ir (q_r f139 hist 0) ka := Eq.trans (hF.r hhist (by rw [khist]; rfl)) z131
      have z157 : q_ir (q_r f139 now 0) ndn := Eq.trans (hF.r hnow (by rw [know]; rfl)) z132
      have z158 : q_ir (q_r f139 sv 0) nsv := Eq.trans (hF.r hsv (by rw [ksv]; rfl)) z133
      have g159 : tk_vn K L 5 f139 now ndn nl9 := tk_vn_tr g134 (hF.z hnow (by rw [know]; rfl)) (fun a9 h9 k9 => hF.j h9 (by rw [k9]; rfl)) (fun i9 => hF.r hndn (by rw [kndn]; rfl))
      refine q_ald_n cx dX11_runScript_49 rfl (lv_at hl 1 rfl) ?_
      refine q_gX11_26 cx hB hx kx z146 dX11_runScript_50 (fun hb160 kb160 => ?_)
      refine q_ald_n cx dX11_runScript_53 rfl (lv_at hl 1 rfl) ?_
      refine q_gX11_54 cx hB hx kx z150 dX11_runScript_54 (fun hb161 kb161 => ?_)
      refine q_cVi (As := [.ref now]) (rest := []) cx hB (fun _ h => h) hN hscr kscr (by decide) rfl (g_X7_runOn l g hN hB.2.1 scr hscr kscr now hnow know) q_cX11_110 q_dX7_runOn (by decide) rfl rfl hl.1 rfl (Nat.le_of_ble_eq_true rfl) dX11_runScript_57 (fun y163 H locs f162 ry163 h164 hF hB => ?_)
      have z165 : q_is (q_z f162 so 1) 0 := Eq.trans (hF.z hso (by rw [kso]; rfl)) z143
      have z166 : q_ir (q_r f162 x 0) so := Eq.trans (hF.r hx (by rw [kx]; rfl)) z144
      have z167 : q_ir (q_r f162 x 1) rd := Eq.trans (hF.r hx (by rw [kx]; rfl)) z145
      have z168 : q_ir (q_r f162 x 2) scr := Eq.trans (hF.r hx (by rw [kx]; rfl)) z146
      have z169 : q_ir (q_r f162 x 3) fc := Eq.trans (hF.r hx (by rw [kx]; rfl)) z147
      have z170 : q_ir (q_r f162 x 4) hist := Eq.trans (hF.r hx (by rw [kx]; rfl)) z148
      have z171 : q_ir (q_r f162 x 5) rep := Eq.trans (hF.r hx (by rw [kx]; rfl)) z149
      have z172 : q_ir (q_r f162 x 6) now := Eq.trans (hF.r hx (by rw [kx]; rfl)) z150
      have z173 : q_ir (q_r f162 x 7) dr := Eq.trans (hF.r hx (by rw [kx]; rfl)) z151
      have z174 : q_ir (q_r f162 x 8) sv := Eq.trans (hF.r hx (by rw [kx]; rfl)) z152
      have z175 : q_ir (q_r f162 fc 0) tr := Eq.trans (hF.r hfc (by rw [kfc]; rfl)) z153
      have z176 : q_ir (q_r f162 so 0) ba := Eq.trans (hF.r hso (by rw [kso]; rfl)) z154
      have z177 : q_ir (q_r f162 dr 0) nds := Eq.trans (hF.r hdr (by rw [kdr]; rfl)) z155
      have z178 : q_ir (q_r f162 hist 0) ka := Eq.trans (hF.r hhist (by rw [khist]; rfl)) z156
      have z179 : q_ir (q_r f162 now 0) ndn := Eq.trans (hF.r hnow (by rw [know]; rfl)) z157
      have z180 : q_ir (q_r f162 sv 0) nsv := Eq.trans (hF.r hsv (by rw [ksv]; rfl)) z158
      have g181 : tk_vn K L 5 f162 now ndn nl9 := tk_vn_tr g159 (hF.z hnow (by rw [know]; rfl)) (fun a9 h9 k9 => hF.j h9 (by rw [k9]; rfl)) (fun i9 => hF.r hndn (by rw [kndn]; rfl))
      have g182 : tk_vk K L f162 hist ka now ndn := tk_vk_tr t142 (hF.z hhist (by rw [khist]; rfl)) (hF.z hhist (by rw [khist]; rfl)) (hF.z hnow (by rw [know]; rfl)) (fun a9 h9 k9 => hF.j h9 (by rw [k9]; rfl)) (fun i9 => hF.r hndn (by rw [kndn]; rfl)) (fun a9 h9 k9 => hF.z h9 (by rw [k9]; rfl)) (fun a9 h9 k9 => hF.j h9 (by rw [k9]; rfl)) (fun i9 => hF.r hka (by rw [kka]; rfl)) (fun a9 h9 k9 => hF.r h9 (by rw [k9]; rfl)) (fun a9 h9 k9 i9 => hF.r h9 (by rw [k9]; rfl))
      refine W.widen (k := 1) (n := 6) (by decide) (by decide) ?_
      refine vx_ret ?_
      refine q_iret cx hr hlk hB dX11_runScript_60 ⟨by omega, by omega⟩ ?_
      exact ⟨z165, g182⟩
    · exact q_throw (text := "the script has an error") hfl cx hlk htab hX hB hl.1 (by decide +kernel) q_h880 q_h152 (by decide +kernel) q_xl87a q_xl87b q_xl87c dX11_runScript_28 dX11_runScript_31 (Or.inl ⟨dX11_runScript_32, dX11_runScript_34, dX11_runScript_37⟩) (by decide) (by decide) ⟨rfl, z118, g135⟩
