set_option maxHeartbeats 4000000 in
set_option maxRecDepth 100000 in
theorem f_xundo (l : Launch) (g : q_G) {K : Nat → Nat} {L : List Nat} (hN : L.Nodup) {f : Nat → va_E} (hT : q_Ty g K L f) (nl9 : List (List Int)) (x : Nat) (hx : x ∈ L) (kx : K x = 11) (so : Nat) (hso : so ∈ L) (kso : K so = 8) (rd : Nat) (hrd : rd ∈ L) (krd : K rd = 9) (scr : Nat) (hscr : scr ∈ L) (kscr : K scr = 7) (fc : Nat) (hfc : fc ∈ L) (kfc : K fc = 1) (hist : Nat) (hhist : hist ∈ L) (khist : K hist = 2) (rep : Nat) (hrep : rep ∈ L) (krep : K rep = 6) (now : Nat) (hnow : now ∈ L) (know : K now = 10) (dr : Nat) (hdr : dr ∈ L) (kdr : K dr = 13) (sv : Nat) (hsv : sv ∈ L) (ksv : K sv = 14) (tr : Nat) (htr : tr ∈ L) (ktr : K tr = 15) (ba : Nat) (hba : ba ∈ L) (kba : K ba = 142) (nds : Nat) (hnds : nds ∈ L) (knds : K nds = 111) (ka : Nat) (hka : ka ∈ L) (kka : K ka = 140) (ndn : Nat) (hndn : ndn ∈ L) (kndn : K ndn = 110) (nsv : Nat) (hnsv : nsv ∈ L) (knsv : K nsv = 112) (hr0 : q_ir (q_r f x 0) so) (hr1 : q_ir (q_r f x 1) rd) (hr2 : q_ir (q_r f x 2) scr) (hr3 : q_ir (q_r f x 3) fc) (hr4 : q_ir (q_r f x 4) hist) (hr5 : q_ir (q_r f x 5) rep) (hr6 : q_ir (q_r f x 6) now) (hr7 : q_ir (q_r f x 7) dr) (hr8 : q_ir (q_r f x 8) sv) (hr9 : q_ir (q_r f fc 0) tr) (hr10 : q_ir (q_r f so 0) ba) (hr11 : q_ir (q_r f dr 0) nds) (hr12 : q_ir (q_r f hist 0) ka) (hr13 : q_ir (q_r f now 0) ndn) (hr14 : q_ir (q_r f sv 0) nsv) (hvn : tk_vn K L 5 f now ndn nl9) (hvk : tk_vk K L f hist ka now ndn) : q_Ct l g K L yX11_undo cX11_undo 1 (some .int) 3 64 [.ref x] f [(2, 1, 2), (3, 0, 4), (4, 0, 7), (5, 0, 8), (10, 3, 12)] (q_Pi (fun (z : Int) (f1 : Nat → va_E) => (tk_vn K L 5 f1 now ndn nl9) ∧ (tk_vk K L f1 hist ka now ndn))) := by
  refine q_ofb (by decide +kernel) hN hT (Nat.le_of_ble_eq_true rfl) ?_
  intro p e s m below meth c ls cx hr hlk hB hl
  have hl : lv_has ls 1 [(0, .ref x)] := hl
  obtain ⟨H, hH⟩ : ∃ H : Heap, H = s.heap := ⟨_, rfl⟩
  obtain ⟨locs, hlocs⟩ : ∃ z : List Loc, z = [] := ⟨_, rfl⟩
  rw [← hH, ← hlocs] at hB
  rw [← hH, ← hlocs]
  refine q_ald_n cx dX11_undo_0 rfl (lv_at hl 0 rfl) ?_
  refine q_gX11_40 cx hB hx kx hr4 dX11_undo_1 (fun hb47 kb47 => ?_)
  refine q_ald_n cx dX11_undo_4 rfl (lv_at hl 0 rfl) ?_
  refine q_gX11_54 cx hB hx kx hr6 dX11_undo_5 (fun hb48 kb48 => ?_)
  refine q_cVi (As := [.ref now]) (rest := []) cx hB (fun _ h => h) hN hhist khist (by decide) rfl (f_takeBack l g hN hB.2.1 nl9 hist hhist khist now hnow know ka hka kka ndn hndn kndn hr12 hr13 hvn hvk) q_cX11_325 q_dX2_takeBack (by decide) rfl rfl hl.1 rfl (Nat.le_of_ble_eq_true rfl) dX11_undo_8 (fun y50 H locs f49 ry50 h51 hF hB => ?_)
  rcases h51 with h52 | h53
  · obtain ⟨qy50, t54, t55⟩ := h52
    have z56 : q_ir (q_r f49 x 0) so := Eq.trans (hF.r hx (by rw [kx]; rfl)) hr0
    have z57 : q_ir (q_r f49 x 1) rd := Eq.trans (hF.r hx (by rw [kx]; rfl)) hr1
    have z58 : q_ir (q_r f49 x 2) scr := Eq.trans (hF.r hx (by rw [kx]; rfl)) hr2
    have z59 : q_ir (q_r f49 x 3) fc := Eq.trans (hF.r hx (by rw [kx]; rfl)) hr3
    have z60 : q_ir (q_r f49 x 4) hist := Eq.trans (hF.r hx (by rw [kx]; rfl)) hr4
    have z61 : q_ir (q_r f49 x 5) rep := Eq.trans (hF.r hx (by rw [kx]; rfl)) hr5
    have z62 : q_ir (q_r f49 x 6) now := Eq.trans (hF.r hx (by rw [kx]; rfl)) hr6
    have z63 : q_ir (q_r f49 x 7) dr := Eq.trans (hF.r hx (by rw [kx]; rfl)) hr7
    have z64 : q_ir (q_r f49 x 8) sv := Eq.trans (hF.r hx (by rw [kx]; rfl)) hr8
    have z65 : q_ir (q_r f49 fc 0) tr := Eq.trans (hF.r hfc (by rw [kfc]; rfl)) hr9
    have z66 : q_ir (q_r f49 so 0) ba := Eq.trans (hF.r hso (by rw [kso]; rfl)) hr10
    have z67 : q_ir (q_r f49 dr 0) nds := Eq.trans (hF.r hdr (by rw [kdr]; rfl)) hr11
    have z68 : q_ir (q_r f49 hist 0) ka := Eq.trans (hF.r hhist (by rw [khist]; rfl)) hr12
    have z69 : q_ir (q_r f49 now 0) ndn := Eq.trans (hF.r hnow (by rw [know]; rfl)) hr13
    have z70 : q_ir (q_r f49 sv 0) nsv := Eq.trans (hF.r hsv (by rw [ksv]; rfl)) hr14
    subst qy50
    refine q_ifeq (tgt := 24) cx ⟨by decide, by decide⟩ dX11_undo_11 (by decide) (fun c71 => ?_) (fun c71 => ?_)
    · exact absurd c71 (by omega)
    · refine q_ald_n cx dX11_undo_14 rfl (lv_at hl 0 rfl) ?_
      refine q_gX11_40 cx hB hx kx z60 dX11_undo_15 (fun hb72 kb72 => ?_)
      obtain ⟨x73, ex73⟩ : ∃ zz, q_is (q_z f49 hist 2) zz := ⟨_, q_isr _⟩
      refine q_gX11_122 cx hB hhist khist ex73 dX11_undo_18 (fun lb74 ub74 => ?_)
      refine lv_goto (tgt := 25) cx.1 cx.2.1 dX11_undo_21 (by decide) ?_
      refine q_iret cx hr hlk hB dX11_undo_25 ⟨by omega, by omega⟩ ?_
      exact ⟨t54, t55⟩
  · obtain ⟨qy50, t75, t76⟩ := h53
    have z77 : q_ir (q_r f49 x 0) so := Eq.trans (hF.r hx (by rw [kx]; rfl)) hr0
    have z78 : q_ir (q_r f49 x 1) rd := Eq.trans (hF.r hx (by rw [kx]; rfl)) hr1
    have z79 : q_ir (q_r f49 x 2) scr := Eq.trans (hF.r hx (by rw [kx]; rfl)) hr2
    have z80 : q_ir (q_r f49 x 3) fc := Eq.trans (hF.r hx (by rw [kx]; rfl)) hr3
    have z81 : q_ir (q_r f49 x 4) hist := Eq.trans (hF.r hx (by rw [kx]; rfl)) hr4
    have z82 : q_ir (q_r f49 x 5) rep := Eq.trans (hF.r hx (by rw [kx]; rfl)) hr5
    have z83 : q_ir (q_r f49 x 6) now := Eq.trans (hF.r hx (by rw [kx]; rfl)) hr6
    have z84 : q_ir (q_r f49 x 7) dr := Eq.trans (hF.r hx (by rw [kx]; rfl)) hr7
    have z85 : q_ir (q_r f49 x 8) sv := Eq.trans (hF.r hx (by rw [kx]; rfl)) hr8
    have z86 : q_ir (q_r f49 fc 0) tr := Eq.trans (hF.r hfc (by rw [kfc]; rfl)) hr9
    have z87 : q_ir (q_r f49 so 0) ba := Eq.trans (hF.r hso (by rw [kso]; rfl)) hr10
    have z88 : q_ir (q_r f49 dr 0) nds := Eq.trans (hF.r hdr (by rw [kdr]; rfl)) hr11
    have z89 : q_ir (q_r f49 hist 0) ka := Eq.trans (hF.r hhist (by rw [khist]; rfl)) hr12
    have z90 : q_ir (q_r f49 now 0) ndn := Eq.trans (hF.r hnow (by rw [know]; rfl)) hr13
    have z91 : q_ir (q_r f49 sv 0) nsv := Eq.trans (hF.r hsv (by rw [ksv]; rfl)) hr14
    subst qy50
    refine q_ifeq (tgt := 24) cx ⟨by decide, by decide⟩ dX11_undo_11 (by decide) (fun c92 => ?_) (fun c92 => ?_)
    · refine q_iconst cx dX11_undo_24 ?_
      refine q_iret cx hr hlk hB dX11_undo_25 ⟨by decide, by decide⟩ ?_
      exact ⟨t75, t76⟩
    · exact absurd c92 (by omega)
set_option maxHeartbeats 4000000 in
set_option maxRecDepth 100000 in
theorem f_xsave (l : Launch) (g : q_G) {K : Nat → Nat} {L : List Nat} (hN : L.Nodup) {f : Nat → va_E} (hT : q_Ty g K L f) (nl9 : List (List Int)) (ls9 : List (List Int)) (x : Nat) (hx : x ∈ L) (kx : K x = 11) (so : Nat) (hso : so ∈ L) (kso : K so = 8) (rd : Nat) (hrd : rd ∈ L) (krd : K rd = 9) (scr : Nat) (hscr : scr ∈ L) (kscr : K scr = 7) (fc : Nat) (hfc : fc ∈ L) (kfc : K fc = 1) (hist : Nat) (hhist : hist ∈ L) (khist : K hist = 2) (rep : Nat) (hrep : rep ∈ L) (krep : K rep = 6) (now : Nat) (hnow : now ∈ L) (know : K now = 10) (dr : Nat) (hdr : dr ∈ L) (kdr : K dr = 13) (sv : Nat) (hsv : sv ∈ L) (ksv : K sv = 14) (tr : Nat) (htr : tr ∈ L) (ktr : K tr = 15) (ba : Nat) (hba : ba ∈ L) (kba : K ba = 142) (nds : Nat) (hnds : nds ∈ L) (knds : K nds = 111) (ka : Nat) (hka : ka ∈ L) (kka : K ka = 140) (ndn : Nat) (hndn : ndn ∈ L) (kndn : K ndn = 110) (nsv : Nat) (hnsv : nsv ∈ L) (knsv : K nsv = 112) (hr0 : q_ir (q_r f x 0) so) (hr1 : q_ir (q_r f x 1) rd) (hr2 : q_ir (q_r f x 2) scr) (hr3 : q_ir (q_r f x 3) fc) (hr4 : q_ir (q_r f x 4) hist) (hr5 : q_ir (q_r f x 5) rep) (hr6 : q_ir (q_r f x 6) now) (hr7 : q_ir (q_r f x 7) dr) (hr8 : q_ir (q_r f x 8) sv) (hr9 : q_ir (q_r f fc 0) tr) (hr10 : q_ir (q_r f so 0) ba) (hr11 : q_ir (q_r f dr 0) nds) (hr12 : q_ir (q_r f hist 0) ka) (hr13 : q_ir (q_r f now 0) ndn) (hr14 : q_ir (q_r f sv 0) nsv) (hvn : tk_vn K L 5 f now ndn nl9) (hvs : tk_vs K L f x sv nsv ls9) : q_Ct l g K L yX11_save cX11_save 1 (some .int) 2 43 [.ref x] f [(11, 9, 9), (14, 3, 12), (18, 0, 8), (22, 0, 4), (26, 0, 7)] (q_Pi (fun (z : Int) (f1 : Nat → va_E) => q_is (q_z f1 x 9) 1 ∧ (tk_vs K L f1 x sv nsv nl9))) := by
  refine q_ofb (by decide +kernel) hN hT (Nat.le_of_ble_eq_true rfl) ?_
  intro p e s m below meth c ls cx hr hlk hB hl
  have hl : lv_has ls 1 [(0, .ref x)] := hl
  obtain ⟨H, hH⟩ : ∃ H : Heap, H = s.heap := ⟨_, rfl⟩
  obtain ⟨locs, hlocs⟩ : ∃ z : List Loc, z = [] := ⟨_, rfl⟩
  rw [← hH, ← hlocs] at hB
  rw [← hH, ← hlocs]
  refine q_ald_n cx dX11_save_0 rfl (lv_at hl 0 rfl) ?_
  refine q_gX11_61 cx hB hx kx hr8 dX11_save_1 (fun hb53 kb53 => ?_)
  refine q_ald_n cx dX11_save_4 rfl (lv_at hl 0 rfl) ?_
  refine q_gX11_54 cx hB hx kx hr6 dX11_save_5 (fun hb54 kb54 => ?_)
  obtain ⟨x55, ex55⟩ : ∃ zz, q_is (q_z f now 3) zz := ⟨_, q_isr _⟩
  obtain ⟨lx55, ux55⟩ := q_isb ex55 (q_fib hB.2.1 hnow know (by decide) rfl)
  refine q_cVv (As := [.ref now]) (rest := []) cx hB (fun _ h => h) hN hsv ksv (by decide) rfl (f_vcopy20 l g hN hB.2.1 nl9 sv hsv ksv now hnow know nsv hnsv knsv ndn hndn kndn x55 (by omega) (by omega) ex55 hr14 hr13 hvn hvs.1) q_cX11_94 q_dX10_copyFrom (by decide) rfl rfl hl.1 rfl (Nat.le_of_ble_eq_true rfl) dX11_save_8 (fun H locs f56 h58 hF hB => ?_)
  obtain ⟨z59, t60, t61, t62⟩ := h58
  have z63 : q_is (q_z f56 now 3) x55 := Eq.trans (hF.z hnow (by rw [know]; rfl)) ex55
  have z64 : q_ir (q_r f56 x 0) so := Eq.trans (hF.r hx (by rw [kx]; rfl)) hr0
  have z65 : q_ir (q_r f56 x 1) rd := Eq.trans (hF.r hx (by rw [kx]; rfl)) hr1
  have z66 : q_ir (q_r f56 x 2) scr := Eq.trans (hF.r hx (by rw [kx]; rfl)) hr2
  have z67 : q_ir (q_r f56 x 3) fc := Eq.trans (hF.r hx (by rw [kx]; rfl)) hr3
  have z68 : q_ir (q_r f56 x 4) hist := Eq.trans (hF.r hx (by rw [kx]; rfl)) hr4
  have z69 : q_ir (q_r f56 x 5) rep := Eq.trans (hF.r hx (by rw [kx]; rfl)) hr5
  have z70 : q_ir (q_r f56 x 6) now := Eq.trans (hF.r hx (by rw [kx]; rfl)) hr6
  have z71 : q_ir (q_r f56 x 7) dr := Eq.trans (hF.r hx (by rw [kx]; rfl)) hr7
  have z72 : q_ir (q_r f56 x 8) sv := Eq.trans (hF.r hx (by rw [kx]; rfl)) hr8
  have z73 : q_ir (q_r f56 fc 0) tr := Eq.trans (hF.r hfc (by rw [kfc]; rfl)) hr9
  have z74 : q_ir (q_r f56 so 0) ba := Eq.trans (hF.r hso (by rw [kso]; rfl)) hr10
  have z75 : q_ir (q_r f56 dr 0) nds := Eq.trans (hF.r hdr (by rw [kdr]; rfl)) hr11
  have z76 : q_ir (q_r f56 hist 0) ka := Eq.trans (hF.r hhist (by rw [khist]; rfl)) hr12
  have z77 : q_ir (q_r f56 now 0) ndn := Eq.trans (hF.r hnow (by rw [know]; rfl)) hr13
  have z78 : q_ir (q_r f56 sv 0) nsv := Eq.trans (hF.r hsv (by rw [ksv]; rfl)) hr14
  have g79 : tk_vn K L 5 f56 now ndn nl9 := tk_vn_tr hvn (hF.z hnow (by rw [know]; rfl)) (fun a9 h9 k9 => hF.j h9 (by rw [k9]; rfl)) (fun i9 => hF.r hndn (by rw [kndn]; rfl))
  refine q_ald_n cx dX11_save_11 rfl (lv_at hl 0 rfl) ?_
  refine q_iconst cx dX11_save_12 ?_
  refine q_pX11_329 cx hB hx kx ⟨by decide, by decide⟩ (by decide) (by decide) rfl dX11_save_13 (fun H locs f80 ef80 z81 hB => ?_)
  have z82 : q_is (q_z f80 now 3) x55 := by rw [ef80, q_setz (Or.inr (by decide))]; exact z63
  have z83 : q_is (q_z f80 sv 3) x55 := by rw [ef80, q_setz (Or.inr (by decide))]; exact z59
  have z84 : q_ir (q_r f80 x 0) so := by rw [ef80, q_setr (Or.inr (by decide))]; exact z64
  have z85 : q_ir (q_r f80 x 1) rd := by rw [ef80, q_setr (Or.inr (by decide))]; exact z65
  have z86 : q_ir (q_r f80 x 2) scr := by rw [ef80, q_setr (Or.inr (by decide))]; exact z66
  have z87 : q_ir (q_r f80 x 3) fc := by rw [ef80, q_setr (Or.inr (by decide))]; exact z67
  have z88 : q_ir (q_r f80 x 4) hist := by rw [ef80, q_setr (Or.inr (by decide))]; exact z68
  have z89 : q_ir (q_r f80 x 5) rep := by rw [ef80, q_setr (Or.inr (by decide))]; exact z69
  have z90 : q_ir (q_r f80 x 6) now := by rw [ef80, q_setr (Or.inr (by decide))]; exact z70
  have z91 : q_ir (q_r f80 x 7) dr := by rw [ef80, q_setr (Or.inr (by decide))]; exact z71
  have z92 : q_ir (q_r f80 x 8) sv := by rw [ef80, q_setr (Or.inr (by decide))]; exact z72
  have z93 : q_ir (q_r f80 fc 0) tr := by rw [ef80, q_setr (Or.inr (by decide))]; exact z73
  have z94 : q_ir (q_r f80 so 0) ba := by rw [ef80, q_setr (Or.inr (by decide))]; exact z74
  have z95 : q_ir (q_r f80 dr 0) nds := by rw [ef80, q_setr (Or.inr (by decide))]; exact z75
  have z96 : q_ir (q_r f80 hist 0) ka := by rw [ef80, q_setr (Or.inr (by decide))]; exact z76
  have z97 : q_ir (q_r f80 now 0) ndn := by rw [ef80, q_setr (Or.inr (by decide))]; exact z77
  have z98 : q_ir (q_r f80 sv 0) nsv := by rw [ef80, q_setr (Or.inr (by decide))]; exact z78
  have g99 : tk_vn K L 5 f80 now ndn nl9 := tk_vn_tr g79 (by rw [ef80, q_setz (Or.inr (by decide))]) (fun a9 h9 k9 => by rw [ef80, q_setj (Or.inl (fun q => by rw [q, kx] at k9; exact absurd k9 (by decide)))]) (fun i9 => by rw [ef80, q_setr (Or.inl (fun q => by rw [q, kx] at kndn; exact absurd kndn (by decide)))])
  have g100 : tk_vn K L 18 f80 sv nsv nl9 := tk_vn_tr t60 (by rw [ef80, q_setz (Or.inr (by decide))]) (fun a9 h9 k9 => by rw [ef80, q_setj (Or.inl (fun q => by rw [q, kx] at k9; exact absurd k9 (by decide)))]) (fun i9 => by rw [ef80, q_setr (Or.inl (fun q => by rw [q, kx] at knsv; exact absurd knsv (by decide)))])
  have g101 : tk_vs K L f80 x sv nsv nl9 := ⟨g100.1, fun _ => g100⟩
  refine q_ald_n cx dX11_save_16 rfl (lv_at hl 0 rfl) ?_
  refine q_gX11_54 cx hB hx kx z90 dX11_save_17 (fun hb102 kb102 => ?_)
  obtain ⟨x103, ex103⟩ : ∃ zz, q_is (q_z f80 now 11) zz := ⟨_, q_isr _⟩
  refine q_gX11_333 cx hB hnow know ex103 dX11_save_20 (fun lb104 ub104 => ?_)
  refine q_iret cx hr hlk hB dX11_save_23 ⟨by omega, by omega⟩ ?_
  exact ⟨z81, g101⟩
set_option maxHeartbeats 4000000 in
set_option maxRecDepth 100000 in
theorem f_xrestore (l : Launch) (g : q_G) (ad : Nat → Nat) {K : Nat → Nat} {L : List Nat} (hN : L.Nodup) {f : Nat → va_E} (hT : q_Ty g K L f) (hfl : l.stackTraces = false) (nl9 : List (List Int)) (ls9 : List (List Int)) (x : Nat) (hx : x ∈ L) (kx : K x = 11) (so : Nat) (hso : so ∈ L) (kso : K so = 8) (rd : Nat) (hrd : rd ∈ L) (krd : K rd = 9) (scr : Nat) (hscr : scr ∈ L) (kscr : K scr = 7) (fc : Nat) (hfc : fc ∈ L) (kfc : K fc = 1) (hist : Nat) (hhist : hist ∈ L) (khist : K hist = 2) (rep : Nat) (hrep : rep ∈ L) (krep : K rep = 6) (now : Nat) (hnow : now ∈ L) (know : K now = 10) (dr : Nat) (hdr : dr ∈ L) (kdr : K dr = 13) (sv : Nat) (hsv : sv ∈ L) (ksv : K sv = 14) (tr : Nat) (htr : tr ∈ L) (ktr : K tr = 15) (ba : Nat) (hba : ba ∈ L) (kba : K ba = 142) (nds : Nat) (hnds : nds ∈ L) (knds : K nds = 111) (ka : Nat) (hka : ka ∈ L) (kka : K ka = 140) (ndn : Nat) (hndn : ndn ∈ L) (kndn : K ndn = 110) (nsv : Nat) (hnsv : nsv ∈ L) (knsv : K nsv = 112) (hr0 : q_ir (q_r f x 0) so) (hr1 : q_ir (q_r f x 1) rd) (hr2 : q_ir (q_r f x 2) scr) (hr3 : q_ir (q_r f x 3) fc) (hr4 : q_ir (q_r f x 4) hist) (hr5 : q_ir (q_r f x 5) rep) (hr6 : q_ir (q_r f x 6) now) (hr7 : q_ir (q_r f x 7) dr) (hr8 : q_ir (q_r f x 8) sv) (hr9 : q_ir (q_r f fc 0) tr) (hr10 : q_ir (q_r f so 0) ba) (hr11 : q_ir (q_r f dr 0) nds) (hr12 : q_ir (q_r f hist 0) ka) (hr13 : q_ir (q_r f now 0) ndn) (hr14 : q_ir (q_r f sv 0) nsv) (hvn : tk_vn K L 5 f now ndn nl9) (hvk : tk_vk K L f hist ka now ndn) (hvs : tk_vs K L f x sv nsv ls9) : q_Xt l g ad K L yX11_restore cX11_restore 1 (some .int) 6 82 1 6 [.ref x] f [(2, 2, 2), (3, 0, 4), (4, 0, 7), (5, 0, 8), (10, 3, 12)] (q_Pi (fun (z : Int) (f1 : Nat → va_E) => (tk_vn K L 5 f1 now ndn ls9) ∧ (q_z f x 9 = 1) ∧ (tk_vk K L f1 hist ka now ndn) ∧ (tk_vs K L f1 x sv nsv ls9))) (fun (E : String) (f1 : Nat → va_E) => E = "java/lang/IllegalStateException" ∧ f = f1 ∧ q_z f x 9 ≠ 1) := by
  refine q_xofb (by decide +kernel) hN hT (Nat.le_of_ble_eq_true rfl) ?_
  intro p e s m below meth c ls cx hr hlk htab hX hB hl
  have hl : lv_has ls 1 [(0, .ref x)] := hl
  obtain ⟨H, hH⟩ : ∃ H : Heap, H = s.heap := ⟨_, rfl⟩
  obtain ⟨locs, hlocs⟩ : ∃ z : List Loc, z = [] := ⟨_, rfl⟩
  rw [← hH, ← hlocs] at hB
  rw [← hH, ← hlocs]
  have g69 : tk_ks K L f ka := hvk.1.1
  obtain ⟨x70, ex70⟩ : ∃ zz, q_is (q_z f hist 1) zz := ⟨_, q_isr _⟩
  obtain ⟨lx70, ux70⟩ : 0 ≤ x70 ∧ x70 ≤ 6 := q_isb ex70 hvk.2.1.1
  refine q_ald_n cx dX11_restore_0 rfl (lv_at hl 0 rfl) ?_
  obtain ⟨x71, ex71⟩ : ∃ zz, q_is (q_z f x 9) zz := ⟨_, q_isr _⟩
  refine q_gX11_329 cx hB hx kx ex71 dX11_restore_1 (fun lb72 ub72 => ?_)
  refine q_ifne (tgt := 18) cx ⟨by omega, by omega⟩ dX11_restore_4 (by decide) (fun c73 => ?_) (fun c73 => ?_)
  · refine q_ald_n cx dX11_restore_18 rfl (lv_at hl 0 rfl) ?_
    refine q_gX11_54 cx hB hx kx hr6 dX11_restore_19 (fun hb74 kb74 => ?_)
    refine q_ald_n cx dX11_restore_22 rfl (lv_at hl 0 rfl) ?_
    refine q_gX11_61 cx hB hx kx hr8 dX11_restore_23 (fun hb75 kb75 => ?_)
    have g76 := hvs.2 (Eq.trans ex71 (by omega))
    obtain ⟨x77, ex77⟩ : ∃ zz, q_is (q_z f hist 1) zz := ⟨_, q_isr _⟩
    obtain ⟨lx77, ux77⟩ : 0 ≤ x77 ∧ x77 ≤ 6 := q_isb ex77 hvk.2.1.1
    obtain ⟨x78, ex78⟩ : ∃ zz, q_is (q_z f sv 3) zz := ⟨_, q_isr _⟩
    obtain ⟨lx78, ux78⟩ := q_isb ex78 (q_fib hB.2.1 hsv ksv (by decide) rfl)
    refine q_cVv (As := [.ref sv]) (rest := []) cx hB (fun _ h => h) hN hnow know (by decide) rfl (f_vcopy02 l g hN hB.2.1 ls9 now hnow know sv hsv ksv ndn hndn kndn nsv hnsv knsv x78 (by omega) (by omega) ex78 hr13 hr14 g76 hvn.1) q_cX11_94 q_dX10_copyFrom (by decide) rfl rfl hl.1 rfl (Nat.le_of_ble_eq_true rfl) dX11_restore_26 (fun H locs f79 h81 hF hB => ?_)
    obtain ⟨z82, t83, t84, t85⟩ := h81
    have z86 : q_is (q_z f79 hist 1) x77 := Eq.trans (hF.z hhist (by rw [khist]; rfl)) ex77
    have z87 : q_is (q_z f79 x 9) x71 := Eq.trans (hF.z hx (by rw [kx]; rfl)) ex71
    have z88 : q_is (q_z f79 sv 3) x78 := Eq.trans (hF.z hsv (by rw [ksv]; rfl)) ex78
    have z89 : q_ir (q_r f79 x 0) so := Eq.trans (hF.r hx (by rw [kx]; rfl)) hr0
    have z90 : q_ir (q_r f79 x 1) rd := Eq.trans (hF.r hx (by rw [kx]; rfl)) hr1
    have z91 : q_ir (q_r f79 x 2) scr := Eq.trans (hF.r hx (by rw [kx]; rfl)) hr2
    have z92 : q_ir (q_r f79 x 3) fc := Eq.trans (hF.r hx (by rw [kx]; rfl)) hr3
    have z93 : q_ir (q_r f79 x 4) hist := Eq.trans (hF.r hx (by rw [kx]; rfl)) hr4
    have z94 : q_ir (q_r f79 x 5) rep := Eq.trans (hF.r hx (by rw [kx]; rfl)) hr5
    have z95 : q_ir (q_r f79 x 6) now := Eq.trans (hF.r hx (by rw [kx]; rfl)) hr6
    have z96 : q_ir (q_r f79 x 7) dr := Eq.trans (hF.r hx (by rw [kx]; rfl)) hr7
    have z97 : q_ir (q_r f79 x 8) sv := Eq.trans (hF.r hx (by rw [kx]; rfl)) hr8
    have z98 : q_ir (q_r f79 fc 0) tr := Eq.trans (hF.r hfc (by rw [kfc]; rfl)) hr9
    have z99 : q_ir (q_r f79 so 0) ba := Eq.trans (hF.r hso (by rw [kso]; rfl)) hr10
    have z100 : q_ir (q_r f79 dr 0) nds := Eq.trans (hF.r hdr (by rw [kdr]; rfl)) hr11
    have z101 : q_ir (q_r f79 hist 0) ka := Eq.trans (hF.r hhist (by rw [khist]; rfl)) hr12
    have z102 : q_ir (q_r f79 now 0) ndn := Eq.trans (hF.r hnow (by rw [know]; rfl)) hr13
    have z103 : q_ir (q_r f79 sv 0) nsv := Eq.trans (hF.r hsv (by rw [ksv]; rfl)) hr14
    have g104 : tk_vs K L f79 x sv nsv ls9 := tk_vs_tr hvs (hF.z hx (by rw [kx]; rfl)) (hF.z hsv (by rw [ksv]; rfl)) (fun a9 h9 k9 => hF.j h9 (by rw [k9]; rfl)) (fun i9 => hF.r hnsv (by rw [knsv]; rfl))
    have g105 : tk_ks K L f79 ka := tk_ks_tr g69 (fun i9 => hF.r hka (by rw [kka]; rfl)) (fun a9 h9 k9 => hF.r h9 (by rw [k9]; rfl)) (fun a9 h9 k9 i9 => hF.r h9 (by rw [k9]; rfl))
    refine q_ald_n cx dX11_restore_29 rfl (lv_at hl 0 rfl) ?_
    refine q_gX11_40 cx hB hx kx z93 dX11_restore_30 (fun hb106 kb106 => ?_)
    refine q_cVv (As := []) (rest := []) cx hB (fun _ h => h) hN hhist khist (by decide) rfl (f_forget l g hN hB.2.1 hist hhist khist) q_cX11_98 q_dX2_forget (by decide) rfl rfl hl.1 rfl (Nat.le_of_ble_eq_true rfl) dX11_restore_33 (fun H locs f107 h109 hF hB => ?_)
    have z110 := h109
    have z111 : q_is (q_z f107 hist 1) x77 := Eq.trans (hF.z hhist (by rw [khist]; rfl)) z86
    have z112 : q_is (q_z f107 x 9) x71 := Eq.trans (hF.z hx (by rw [kx]; rfl)) z87
    have z113 : q_is (q_z f107 sv 3) x78 := Eq.trans (hF.z hsv (by rw [ksv]; rfl)) z88
    have z114 : q_is (q_z f107 now 3) x78 := Eq.trans (hF.z hnow (by rw [know]; rfl)) z82
    have z115 : q_ir (q_r f107 x 0) so := Eq.trans (hF.r hx (by rw [kx]; rfl)) z89
    have z116 : q_ir (q_r f107 x 1) rd := Eq.trans (hF.r hx (by rw [kx]; rfl)) z90
    have z117 : q_ir (q_r f107 x 2) scr := Eq.trans (hF.r hx (by rw [kx]; rfl)) z91
    have z118 : q_ir (q_r f107 x 3) fc := Eq.trans (hF.r hx (by rw [kx]; rfl)) z92
    have z119 : q_ir (q_r f107 x 4) hist := Eq.trans (hF.r hx (by rw [kx]; rfl)) z93
    have z120 : q_ir (q_r f107 x 5) rep := Eq.trans (hF.r hx (by rw [kx]; rfl)) z94
    have z121 : q_ir (q_r f107 x 6) now := Eq.trans (hF.r hx (by rw [kx]; rfl)) z95
    have z122 : q_ir (q_r f107 x 7) dr := Eq.trans (hF.r hx (by rw [kx]; rfl)) z96
    have z123 : q_ir (q_r f107 x 8) sv := Eq.trans (hF.r hx (by rw [kx]; rfl)) z97
    have z124 : q_ir (q_r f107 fc 0) tr := Eq.trans (hF.r hfc (by rw [kfc]; rfl)) z98
    have z125 : q_ir (q_r f107 so 0) ba := Eq.trans (hF.r hso (by rw [kso]; rfl)) z99
    have z126 : q_ir (q_r f107 dr 0) nds := Eq.trans (hF.r hdr (by rw [kdr]; rfl)) z100
    have z127 : q_ir (q_r f107 hist 0) ka := Eq.trans (hF.r hhist (by rw [khist]; rfl)) z101
    have z128 : q_ir (q_r f107 now 0) ndn := Eq.trans (hF.r hnow (by rw [know]; rfl)) z102
    have z129 : q_ir (q_r f107 sv 0) nsv := Eq.trans (hF.r hsv (by rw [ksv]; rfl)) z103
    have g130 : tk_vs K L f107 x sv nsv ls9 := tk_vs_tr g104 (hF.z hx (by rw [kx]; rfl)) (hF.z hsv (by rw [ksv]; rfl)) (fun a9 h9 k9 => hF.j h9 (by rw [k9]; rfl)) (fun i9 => hF.r hnsv (by rw [knsv]; rfl))
    have g131 : tk_ks K L f107 ka := tk_ks_tr g105 (fun i9 => hF.r hka (by rw [kka]; rfl)) (fun a9 h9 k9 => hF.r h9 (by rw [k9]; rfl)) (fun a9 h9 k9 i9 => hF.r h9 (by rw [k9]; rfl))
    have g132 : tk_vn K L 5 f107 now ndn ls9 := tk_vn_tr t83 (hF.z hnow (by rw [know]; rfl)) (fun a9 h9 k9 => hF.j h9 (by rw [k9]; rfl)) (fun i9 => hF.r hndn (by rw [kndn]; rfl))
    have g133 : tk_vk K L f107 hist ka now ndn := tk_vk_0 g131 g132.1 ⟨q_isl z111 (by omega), q_isu z111 (by omega)⟩ z110 (by have h7 := g132.2.1; omega)
    refine q_ald_n cx dX11_restore_36 rfl (lv_at hl 0 rfl) ?_
    refine q_gX11_54 cx hB hx kx z121 dX11_restore_37 (fun hb134 kb134 => ?_)
    obtain ⟨x135, ex135⟩ : ∃ zz, q_is (q_z f107 now 11) zz := ⟨_, q_isr _⟩
    refine q_gX11_333 cx hB hnow know ex135 dX11_restore_40 (fun lb136 ub136 => ?_)
    refine W.widen (k := 1) (n := 6) (by decide) (by decide) ?_
    refine vx_ret ?_
    refine q_iret cx hr hlk hB dX11_restore_43 ⟨by omega, by omega⟩ ?_
    exact ⟨g132, (Eq.trans ex71 (by omega)), g133, g130⟩
  · exact q_throw (text := "nothing was saved") hfl cx hlk htab hX hB hl.1 (by decide +kernel) q_h801 q_h151 (by decide +kernel) q_xl72a q_xl72b q_xl72c dX11_restore_7 dX11_restore_10 (Or.inr ⟨dX11_restore_11, dX11_restore_14, dX11_restore_17⟩) (by decide) (by decide) ⟨rfl, rfl, (fun h9 => absurd (Eq.trans (Eq.symm ex71) h9) (by omega))⟩
set_option maxHeartbeats 4000000 in
set_option maxRecDepth 100000 in
theorem f_letterOf_lo (l : Launch) (g : q_G) {K : Nat → Nat} {L : List Nat} (hN : L.Nodup) {f : Nat → va_E} (hT : q_Ty g K L f) (wl : List Int) (p0 : Int64) (p1 : Int) (lp1 : (-2147483648) ≤ p1) (up1 : p1 ≤ (-1)) (hp0 : p0 = tk_cw wl) (hp1 : tk_isw wl) : q_Ct l g K L yX8_letterOf cX8_letterOf 3 (some .int) 0 0 [.long p0, .int (q_i p1)] f [] (q_Pi (fun (z : Int) (f1 : Nat → va_E) => f = f1 ∧ z = 0)) := by
  refine q_ofb (by decide +kernel) hN hT (Nat.le_of_ble_eq_true rfl) ?_
  intro p e s m below meth c ls cx hr hlk hB hl
  have hl : lv_has ls 3 [(0, .long p0), (2, .int (q_i p1))] := hl
  obtain ⟨H, hH⟩ : ∃ H : Heap, H = s.heap := ⟨_, rfl⟩
  obtain ⟨locs, hlocs⟩ : ∃ z : List Loc, z = [] := ⟨_, rfl⟩
  rw [← hH, ← hlocs] at hB
  rw [← hH, ← hlocs]
  refine q_ild_n cx dX8_letterOf_0 rfl (lv_at hl 1 rfl) ?_
  refine q_iflt (tgt := 24) cx ⟨by omega, by omega⟩ dX8_letterOf_1 (by decide) (fun c2 => ?_) (fun c2 => ?_)
  · refine q_iconst cx dX8_letterOf_24 ?_
    refine q_iret cx hr hlk hB dX8_letterOf_25 ⟨by decide, by decide⟩ ?_
    exact ⟨rfl, rfl⟩
  · exact absurd c2 (by omega)
set_option maxHeartbeats 4000000 in
set_option maxRecDepth 100000 in
theorem f_letterOf_hi (l : Launch) (g : q_G) {K : Nat → Nat} {L : List Nat} (hN : L.Nodup) {f : Nat → va_E} (hT : q_Ty g K L f) (wl : List Int) (p0 : Int64) (p1 : Int) (lp1 : 8 ≤ p1) (up1 : p1 ≤ 2147483647) (hp0 : p0 = tk_cw wl) (hp1 : tk_isw wl) : q_Ct l g K L yX8_letterOf cX8_letterOf 3 (some .int) 0 0 [.long p0, .int (q_i p1)] f [] (q_Pi (fun (z : Int) (f1 : Nat → va_E) => f = f1 ∧ z = 0)) := by
  refine q_ofb (by decide +kernel) hN hT (Nat.le_of_ble_eq_true rfl) ?_
  intro p e s m below meth c ls cx hr hlk hB hl
  have hl : lv_has ls 3 [(0, .long p0), (2, .int (q_i p1))] := hl
  obtain ⟨H, hH⟩ : ∃ H : Heap, H = s.heap := ⟨_, rfl⟩
  obtain ⟨locs, hlocs⟩ : ∃ z : List Loc, z = [] := ⟨_, rfl⟩
  rw [← hH, ← hlocs] at hB
  rw [← hH, ← hlocs]
  refine q_ild_n cx dX8_letterOf_0 rfl (lv_at hl 1 rfl) ?_
  refine q_iflt (tgt := 24) cx ⟨by omega, by omega⟩ dX8_letterOf_1 (by decide) (fun c3 => ?_) (fun c3 => ?_)
  · exact absurd c3 (by omega)
  · refine q_ild_n cx dX8_letterOf_4 rfl (lv_at hl 1 rfl) ?_
    refine q_bipush cx dX8_letterOf_5 rfl ?_
    refine q_icge (tgt := 24) cx ⟨by omega, by omega⟩ ⟨by decide, by decide⟩ dX8_letterOf_7 (by decide) (fun c4 => ?_) (fun c4 => ?_)
    · refine q_iconst cx dX8_letterOf_24 ?_
      refine q_iret cx hr hlk hB dX8_letterOf_25 ⟨by decide, by decide⟩ ?_
      exact ⟨rfl, rfl⟩
    · exact absurd c4 (by omega)
set_option maxHeartbeats 4000000 in
set_option maxRecDepth 100000 in
theorem f_xrequireNode (l : Launch) (g : q_G) (ad : Nat → Nat) {K : Nat → Nat} {L : List Nat} (hN : L.Nodup) {f : Nat → va_E} (hT : q_Ty g K L f) (hfl : l.stackTraces = false) (x : Nat) (hx : x ∈ L) (kx : K x = 11) (a0 : Int) (la0 : (-2147483648) ≤ a0) (ua0 : a0 ≤ 2147483647) (so : Nat) (hso : so ∈ L) (kso : K so = 8) (rd : Nat) (hrd : rd ∈ L) (krd : K rd = 9) (scr : Nat) (hscr : scr ∈ L) (kscr : K scr = 7) (fc : Nat) (hfc : fc ∈ L) (kfc : K fc = 1) (hist : Nat) (hhist : hist ∈ L) (khist : K hist = 2) (rep : Nat) (hrep : rep ∈ L) (krep : K rep = 6) (now : Nat) (hnow : now ∈ L) (know : K now = 10) (dr : Nat) (hdr : dr ∈ L) (kdr : K dr = 13) (sv : Nat) (hsv : sv ∈ L) (ksv : K sv = 14) (tr : Nat) (htr : tr ∈ L) (ktr : K tr = 15) (ba : Nat) (hba : ba ∈ L) (kba : K ba = 142) (nds : Nat) (hnds : nds ∈ L) (knds : K nds = 111) (ka : Nat) (hka : ka ∈ L) (kka : K ka = 140) (ndn : Nat) (hndn : ndn ∈ L) (kndn : K ndn = 110) (nsv : Nat) (hnsv : nsv ∈ L) (knsv : K nsv = 112) (nn : Int) (lnn : 0 ≤ nn) (unn : nn ≤ 10) (hf0 : q_is (q_z f now 3) nn) (hr0 : q_ir (q_r f x 0) so) (hr1 : q_ir (q_r f x 1) rd) (hr2 : q_ir (q_r f x 2) scr) (hr3 : q_ir (q_r f x 3) fc) (hr4 : q_ir (q_r f x 4) hist) (hr5 : q_ir (q_r f x 5) rep) (hr6 : q_ir (q_r f x 6) now) (hr7 : q_ir (q_r f x 7) dr) (hr8 : q_ir (q_r f x 8) sv) (hr9 : q_ir (q_r f fc 0) tr) (hr10 : q_ir (q_r f so 0) ba) (hr11 : q_ir (q_r f dr 0) nds) (hr12 : q_ir (q_r f hist 0) ka) (hr13 : q_ir (q_r f now 0) ndn) (hr14 : q_ir (q_r f sv 0) nsv) : q_Xt l g ad K L yX11_requireNode cX11_requireNode 2 none 6 82 1 6 [.ref x, .int (q_i a0)] f [] (q_Pv (fun (f1 : Nat → va_E) => f = f1 ∧ (0 ≤ a0) ∧ (a0 < nn))) (fun (E : String) (f1 : Nat → va_E) => E = "java/lang/IndexOutOfBoundsException" ∧ f = f1 ∧ (a0 < 0 ∨ nn ≤ a0)) := by
  refine q_xofb (by decide +kernel) hN hT (Nat.le_of_ble_eq_true rfl) ?_
  intro p e s m below meth c ls cx hr hlk htab hX hB hl
  have hl : lv_has ls 2 [(0, .ref x), (1, .int (q_i a0))] := hl
  obtain ⟨H, hH⟩ : ∃ H : Heap, H = s.heap := ⟨_, rfl⟩
  obtain ⟨locs, hlocs⟩ : ∃ z : List Loc, z = [] := ⟨_, rfl⟩
  rw [← hH, ← hlocs] at hB
  rw [← hH, ← hlocs]
  refine q_ild_n cx dX11_requireNode_0 rfl (lv_at hl 1 rfl) ?_
  refine q_iflt (tgt := 15) cx ⟨by omega, by omega⟩ dX11_requireNode_1 (by decide) (fun c5 => ?_) (fun c5 => ?_)
  · exact q_throw (text := "no such node") hfl cx hlk htab hX hB hl.1 (by decide +kernel) q_h1234 q_h159 (by decide +kernel) q_xl145a q_xl145b q_xl145c dX11_requireNode_15 dX11_requireNode_18 (Or.inr ⟨dX11_requireNode_19, dX11_requireNode_22, dX11_requireNode_25⟩) (by decide) (by decide) ⟨rfl, rfl, (by omega)⟩
  · refine q_ild_n cx dX11_requireNode_4 rfl (lv_at hl 1 rfl) ?_
    refine q_ald_n cx dX11_requireNode_5 rfl (lv_at hl 0 rfl) ?_
    refine q_gX11_54 cx hB hx kx hr6 dX11_requireNode_6 (fun hb6 kb6 => ?_)
    refine q_gX11_101 cx hB hnow know hf0 dX11_requireNode_9 (fun lb7 ub7 => ?_)
    refine q_iclt (tgt := 26) cx ⟨by omega, by omega⟩ ⟨by omega, by omega⟩ dX11_requireNode_12 (by decide) (fun c8 => ?_) (fun c8 => ?_)
    · refine W.widen (k := 1) (n := 6) (by decide) (by decide) ?_
      refine vx_ret ?_
      refine q_vret cx hr hlk hB dX11_requireNode_26 ?_
      exact ⟨rfl, (by omega), (by omega)⟩
    · exact q_throw (text := "no such node") hfl cx hlk htab hX hB hl.1 (by decide +kernel) q_h1234 q_h159 (by decide +kernel) q_xl145a q_xl145b q_xl145c dX11_requireNode_15 dX11_requireNode_18 (Or.inr ⟨dX11_requireNode_19, dX11_requireNode_22, dX11_requireNode_25⟩) (by decide) (by decide) ⟨rfl, rfl, (by omega)⟩
set_option maxHeartbeats 4000000 in
set_option maxRecDepth 100000 in
theorem f_xletter (l : Launch) (g : q_G) (ad : Nat → Nat) {K : Nat → Nat} {L : List Nat} (hN : L.Nodup) {f : Nat → va_E} (hT : q_Ty g K L f) (hfl : l.stackTraces = false) (nl9 : List (List Int)) (x : Nat) (hx : x ∈ L) (kx : K x = 11) (a0 : Int) (la0 : (-2147483648) ≤ a0) (ua0 : a0 ≤ 2147483647) (b0 : Int) (lb0 : (-2147483648) ≤ b0) (ub0 : b0 ≤ 2147483647) (so : Nat) (hso : so ∈ L) (kso : K so = 8) (rd : Nat) (hrd : rd ∈ L) (krd : K rd = 9) (scr : Nat) (hscr : scr ∈ L) (kscr : K scr = 7) (fc : Nat) (hfc : fc ∈ L) (kfc : K fc = 1) (hist : Nat) (hhist : hist ∈ L) (khist : K hist = 2) (rep : Nat) (hrep : rep ∈ L) (krep : K rep = 6) (now : Nat) (hnow : now ∈ L) (know : K now = 10) (dr : Nat) (hdr : dr ∈ L) (kdr : K dr = 13) (sv : Nat) (hsv : sv ∈ L) (ksv : K sv = 14) (tr : Nat) (htr : tr ∈ L) (ktr : K tr = 15) (ba : Nat) (hba : ba ∈ L) (kba : K ba = 142) (nds : Nat) (hnds : nds ∈ L) (knds : K nds = 111) (ka : Nat) (hka : ka ∈ L) (kka : K ka = 140) (ndn : Nat) (hndn : ndn ∈ L) (kndn : K ndn = 110) (nsv : Nat) (hnsv : nsv ∈ L) (knsv : K nsv = 112) (nn : Int) (lnn : 0 ≤ nn) (unn : nn ≤ 10) (hf0 : q_is (q_z f now 3) nn) (hr0 : q_ir (q_r f x 0) so) (hr1 : q_ir (q_r f x 1) rd) (hr2 : q_ir (q_r f x 2) scr) (hr3 : q_ir (q_r f x 3) fc) (hr4 : q_ir (q_r f x 4) hist) (hr5 : q_ir (q_r f x 5) rep) (hr6 : q_ir (q_r f x 6) now) (hr7 : q_ir (q_r f x 7) dr) (hr8 : q_ir (q_r f x 8) sv) (hr9 : q_ir (q_r f fc 0) tr) (hr10 : q_ir (q_r f so 0) ba) (hr11 : q_ir (q_r f dr 0) nds) (hr12 : q_ir (q_r f hist 0) ka) (hr13 : q_ir (q_r f now 0) ndn) (hr14 : q_ir (q_r f sv 0) nsv) (hvn : tk_vn K L 5 f now ndn nl9) : q_Xt l g ad K L yX11_letter cX11_letter 3 (some .int) 7 103 1 6 [.ref x, .int (q_i a0), .int (q_i b0)] f [] (q_Pi (fun (z : Int) (f1 : Nat → va_E) => f = f1 ∧ (0 ≤ a0 ∧ a0 < (nl9.length : Int)) ∧ (z = tk_le (nl9.getD (Int.toNat a0) []) b0) ∧ (tk_isw (nl9.getD (Int.toNat a0) [])))) (fun (E : String) (f1 : Nat → va_E) => E = "java/lang/IndexOutOfBoundsException" ∧ f = f1 ∧ (a0 < 0 ∨ (nl9.length : Int) ≤ a0)) := by
  refine q_xofb (by decide +kernel) hN hT (Nat.le_of_ble_eq_true rfl) ?_
  intro p e s m below meth c ls cx hr hlk htab hX hB hl
  have hl : lv_has ls 3 [(0, .ref x), (1, .int (q_i a0)), (2, .int (q_i b0))] := hl
  obtain ⟨H, hH⟩ : ∃ H : Heap, H = s.heap := ⟨_, rfl⟩
  obtain ⟨locs, hlocs⟩ : ∃ z : List Loc, z = [] := ⟨_, rfl⟩
  rw [← hH, ← hlocs] at hB
  rw [← hH, ← hlocs]
  refine q_ald_n cx dX11_letter_0 rfl (lv_at hl 0 rfl) ?_
  refine q_ild_n cx dX11_letter_1 rfl (lv_at hl 1 rfl) ?_
  refine q_cXV (As := [.int (q_i a0)]) (rest := []) cx hX hB (fun _ h => h) (fun _ h _ => h) hN hx kx (by decide) rfl (f_xrequireNode l g ad hN hB.2.1 hfl x hx kx a0 (by omega) (by omega) so hso kso rd hrd krd scr hscr kscr fc hfc kfc hist hhist khist rep hrep krep now hnow know dr hdr kdr sv hsv ksv tr htr ktr ba hba kba nds hnds knds ka hka kka ndn hndn kndn nsv hnsv knsv nn (by omega) (by omega) hf0 hr0 hr1 hr2 hr3 hr4 hr5 hr6 hr7 hr8 hr9 hr10 hr11 hr12 hr13 hr14) q_cX11_129 q_dX11_requireNode (by decide) rfl rfl hl.1 rfl (Nat.le_of_ble_eq_true rfl) dX11_letter_2 (fun E9 ce9 q9 H locs f29 hex hF hB hcell hcv hcl => ?_) (fun v9 H locs f26 h28 hF hB => ?_)
  · rcases hex with ⟨rfl, rfl, t30⟩
    · exact q_xout hlk htab hB hcell hcv hcl (by decide) ⟨rfl, rfl, (by have h7 := tk_vn_nn hvn hf0; omega)⟩
  · obtain ⟨rfl, h28⟩ := h28
    refine W.eq (g2 := F0 m 5 ls []) rfl ?_
    obtain ⟨rfl, t31, t32⟩ := h28
    refine q_ald_n cx dX11_letter_5 rfl (lv_at hl 0 rfl) ?_
    refine q_gX11_54 cx hB hx kx hr6 dX11_letter_6 (fun hb33 kb33 => ?_)
    refine q_ild_n cx dX11_letter_9 rfl (lv_at hl 1 rfl) ?_
    refine q_cVr (As := [.int (q_i a0)]) (rest := []) cx hB (fun _ h => h) hN hnow know (by decide) rfl (f_nodeAt0 l g hN hB.2.1 now hnow know a0 (by omega) (by omega) ndn hndn kndn hr13) q_cX11_167 q_dX10_nodeAt (by decide) rfl rfl hl.1 rfl (Nat.le_of_ble_eq_true rfl) dX11_letter_10 (fun y35 H locs f34 h36 hF hB => ?_)
    obtain ⟨rfl, hy35, ky35, t37⟩ := h36
    obtain ⟨j38, ej38⟩ : ∃ zz, q_j f y35 0 = zz := ⟨_, rfl⟩
    refine q_gX11_171 cx hB hy35 ky35 ej38 dX11_letter_13 ?_
    have hnm9 := hvn.2.2 (Int.toNat a0) (by have h7 := tk_vn_nn hvn hf0; omega)
    rw [← t37] at hnm9
    have hiw9 : tk_isw (nl9.getD (Int.toNat a0) []) := hnm9.2
    obtain rfl : j38 = tk_cw (nl9.getD (Int.toNat a0) []) := ej38.symm.trans hnm9.1
    refine q_ild_n cx dX11_letter_16 rfl (lv_at hl 2 rfl) ?_
    by_cases c39 : b0 ≤ (-1)
    · refine q_cSi (As := [.long (tk_cw (nl9.getD (Int.toNat a0) [])), .int (q_i b0)]) (rest := []) cx hB (fun _ h => h) hN (f_letterOf_lo l g hN hB.2.1 (nl9.getD (Int.toNat a0) []) (tk_cw (nl9.getD (Int.toNat a0) [])) b0 (by omega) (by omega) rfl hiw9) q_cX11_177 q_dX8_letterOf (by decide) rfl rfl hl.1 rfl (Nat.le_of_ble_eq_true rfl) dX11_letter_17 (fun y41 H locs f40 ry41 h42 hF hB => ?_)
      obtain ⟨rfl, qy41⟩ := h42
      subst qy41
      refine W.widen (k := 1) (n := 6) (by decide) (by decide) ?_
      refine vx_ret ?_
      refine q_iret cx hr hlk hB dX11_letter_20 ⟨by decide, by decide⟩ ?_
      exact ⟨rfl, (by have h7 := tk_vn_nn hvn hf0; omega), tk_le_lo (by omega), hiw9⟩
    · by_cases c43 : b0 ≤ 7
      · refine q_cSi (As := [.long (tk_cw (nl9.getD (Int.toNat a0) [])), .int (q_i b0)]) (rest := []) cx hB (fun _ h => h) hN (f_letterOf l g hN hB.2.1 (nl9.getD (Int.toNat a0) []) (tk_cw (nl9.getD (Int.toNat a0) [])) b0 (by omega) (by omega) rfl hiw9) q_cX11_177 q_dX8_letterOf (by decide) rfl rfl hl.1 rfl (Nat.le_of_ble_eq_true rfl) dX11_letter_17 (fun y45 H locs f44 ry45 h46 hF hB => ?_)
        obtain ⟨rfl, t47⟩ := h46
        refine W.widen (k := 1) (n := 6) (by decide) (by decide) ?_
        refine vx_ret ?_
        refine q_iret cx hr hlk hB dX11_letter_20 ⟨by omega, by omega⟩ ?_
        exact ⟨rfl, (by have h7 := tk_vn_nn hvn hf0; omega), (tk_le_in (by omega) t47), hiw9⟩
      · refine q_cSi (As := [.long (tk_cw (nl9.getD (Int.toNat a0) [])), .int (q_i b0)]) (rest := []) cx hB (fun _ h => h) hN (f_letterOf_hi l g hN hB.2.1 (nl9.getD (Int.toNat a0) []) (tk_cw (nl9.getD (Int.toNat a0) [])) b0 (by omega) (by omega) rfl hiw9) q_cX11_177 q_dX8_letterOf (by decide) rfl rfl hl.1 rfl (Nat.le_of_ble_eq_true rfl) dX11_letter_17 (fun y49 H locs f48 ry49 h50 hF hB => ?_)
        obtain ⟨rfl, qy49⟩ := h50
        subst qy49
        refine W.widen (k := 1) (n := 6) (by decide) (by decide) ?_
        refine vx_ret ?_
        refine q_iret cx hr hlk hB dX11_letter_20 ⟨by decide, by decide⟩ ?_
        exact ⟨rfl, (by have h7 := tk_vn_nn hvn hf0; omega), (tk_le_hi (by have h7 := hiw9.1; omega)), hiw9⟩
set_option maxHeartbeats 4000000 in
set_option maxRecDepth 100000 in
theorem f_xreadText (l : Launch) (g : q_G) (ad : Nat → Nat) {K : Nat → Nat} {L : List Nat} (hN : L.Nodup) {f : Nat → va_E} (hT : q_Ty g K L f) (hfl : l.stackTraces = false) (B : Nat → Int) (nl9 : List (List Int)) (x : Nat) (hx : x ∈ L) (kx : K x = 11) (so : Nat) (hso : so ∈ L) (kso : K so = 8) (rd : Nat) (hrd : rd ∈ L) (krd : K rd = 9) (scr : Nat) (hscr : scr ∈ L) (kscr : K scr = 7) (fc : Nat) (hfc : fc ∈ L) (kfc : K fc = 1) (hist : Nat) (hhist : hist ∈ L) (khist : K hist = 2) (rep : Nat) (hrep : rep ∈ L) (krep : K rep = 6) (now : Nat) (hnow : now ∈ L) (know : K now = 10) (dr : Nat) (hdr : dr ∈ L) (kdr : K dr = 13) (sv : Nat) (hsv : sv ∈ L) (ksv : K sv = 14) (tr : Nat) (htr : tr ∈ L) (ktr : K tr = 15) (ba : Nat) (hba : ba ∈ L) (kba : K ba = 142) (nds : Nat) (hnds : nds ∈ L) (knds : K nds = 111) (ka : Nat) (hka : ka ∈ L) (kka : K ka = 140) (ndn : Nat) (hndn : ndn ∈ L) (kndn : K ndn = 110) (nsv : Nat) (hnsv : nsv ∈ L) (knsv : K nsv = 112) (tn : Int) (ltn : 0 ≤ tn) (utn : tn ≤ 600) (hf0 : q_is (q_z f so 1) tn) (hr0 : q_ir (q_r f x 0) so) (hr1 : q_ir (q_r f x 1) rd) (hr2 : q_ir (q_r f x 2) scr) (hr3 : q_ir (q_r f x 3) fc) (hr4 : q_ir (q_r f x 4) hist) (hr5 : q_ir (q_r f x 5) rep) (hr6 : q_ir (q_r f x 6) now) (hr7 : q_ir (q_r f x 7) dr) (hr8 : q_ir (q_r f x 8) sv) (hr9 : q_ir (q_r f fc 0) tr) (hr10 : q_ir (q_r f so 0) ba) (hr11 : q_ir (q_r f dr 0) nds) (hr12 : q_ir (q_r f hist 0) ka) (hr13 : q_ir (q_r f now 0) ndn) (hr14 : q_ir (q_r f sv 0) nsv) (htb : tk_tb f ba B tn) (hij : tk_ij K L f nds) (hvn : tk_vn K L 5 f now ndn nl9) (hvk : tk_vk K L f hist ka now ndn) : q_Xt l g ad K L yX11_readText cX11_readText 2 (some .int) 9 199 1 6 [.ref x] f [(2, 2, 2), (3, 0, 4), (4, 0, 7), (5, 0, 8), (8, 1, 9), (9, 0, 2), (10, 3, 12), (13, 3, 12), (17, 0, 8), (21, 0, 4)] (q_Pi (fun (z : Int) (f1 : Nat → va_E) => 0 ≤ z ∧ z ≤ 10 ∧ q_is (q_z f1 so 1) 0 ∧ q_is (q_z f1 so 2) 0 ∧ q_is (q_z f1 so 3) (-1) ∧ (∃ A1 : tk_A, tk_T B tn (tk_S B tn 0) tk_A0 = tk_ok A1 ∧ z = ((tk_nd A1).length : Int) ∧ tk_vn K L 5 f1 now ndn (tk_nd A1)) ∧ (tk_vk K L f1 hist ka now ndn))) (fun (E : String) (f1 : Nat → va_E) => E = "java/lang/IllegalArgumentException" ∧ tk_T B tn (tk_S B tn 0) tk_A0 = tk_er (q_z f1 so 2) (q_z f1 so 3) ∧ q_is (q_z f1 so 1) 0 ∧ (tk_vk K L f1 hist ka now ndn) ∧ (tk_vn K L 5 f1 now ndn nl9)) := by
  refine q_xofb (by decide +kernel) hN hT (Nat.le_of_ble_eq_true rfl) ?_
  intro p e s m below meth c ls cx hr hlk htab hX hB hl
  have hl : lv_has ls 2 [(0, .ref x)] := hl
  obtain ⟨H, hH⟩ : ∃ H : Heap, H = s.heap := ⟨_, rfl⟩
  obtain ⟨locs, hlocs⟩ : ∃ z : List Loc, z = [] := ⟨_, rfl⟩
  rw [← hH, ← hlocs] at hB
  rw [← hH, ← hlocs]
  have g186 : tk_ks K L f ka := hvk.1.1
  obtain ⟨x187, ex187⟩ : ∃ zz, q_is (q_z f hist 1) zz := ⟨_, q_isr _⟩
  obtain ⟨lx187, ux187⟩ : 0 ≤ x187 ∧ x187 ≤ 6 := q_isb ex187 hvk.2.1.1
  refine q_ald_n cx dX11_readText_0 rfl (lv_at hl 0 rfl) ?_
  refine q_gX11_19 cx hB hx kx hr1 dX11_readText_1 (fun hb188 kb188 => ?_)
  refine q_ald_n cx dX11_readText_4 rfl (lv_at hl 0 rfl) ?_
  refine q_gX11_10 cx hB hx kx hr0 dX11_readText_5 (fun hb189 kb189 => ?_)
  refine q_ald_n cx dX11_readText_8 rfl (lv_at hl 0 rfl) ?_
  refine q_gX11_58 cx hB hx kx hr7 dX11_readText_9 (fun hb190 kb190 => ?_)
  refine q_cXV (As := [.ref so, .ref dr]) (rest := []) cx hX hB (fun _ h => h) (fun _ h _ => h) hN hrd krd (by decide) rfl (f_readAll l g ad hN hB.2.1 hfl B rd hrd krd so hso kso dr hdr kdr ba hba kba nds hnds knds tn (by omega) (by omega) hf0 hr10 hr11 htb hij) q_cX11_88 q_dX9_readAll (by decide) rfl rfl hl.1 rfl (Nat.le_of_ble_eq_true rfl) dX11_readText_12 (fun E9 ce9 q9 H locs f194 hex hF hB hcell hcv hcl => ?_) (fun v9 H locs f191 h193 hF hB => ?_)
  · exact hex.elim
  · obtain ⟨y192, rfl, ry192, h193⟩ := h193
    refine W.eq (g2 := F0 m 15 ls [.int (q_i y192)]) rfl ?_
    rcases h193 with h195 | h196
    · obtain ⟨qy192, z197, z198, t199⟩ := h195
      have z200 : q_is (q_z f191 so 1) tn := Eq.trans (hF.z hso (by rw [kso]; rfl)) hf0
      have z201 : q_is (q_z f191 hist 1) x187 := Eq.trans (hF.z hhist (by rw [khist]; rfl)) ex187
      have z202 : q_ir (q_r f191 x 0) so := Eq.trans (hF.r hx (by rw [kx]; rfl)) hr0
      have z203 : q_ir (q_r f191 x 1) rd := Eq.trans (hF.r hx (by rw [kx]; rfl)) hr1
      have z204 : q_ir (q_r f191 x 2) scr := Eq.trans (hF.r hx (by rw [kx]; rfl)) hr2
      have z205 : q_ir (q_r f191 x 3) fc := Eq.trans (hF.r hx (by rw [kx]; rfl)) hr3
      have z206 : q_ir (q_r f191 x 4) hist := Eq.trans (hF.r hx (by rw [kx]; rfl)) hr4
      have z207 : q_ir (q_r f191 x 5) rep := Eq.trans (hF.r hx (by rw [kx]; rfl)) hr5
      have z208 : q_ir (q_r f191 x 6) now := Eq.trans (hF.r hx (by rw [kx]; rfl)) hr6
      have z209 : q_ir (q_r f191 x 7) dr := Eq.trans (hF.r hx (by rw [kx]; rfl)) hr7
      have z210 : q_ir (q_r f191 x 8) sv := Eq.trans (hF.r hx (by rw [kx]; rfl)) hr8
      have z211 : q_ir (q_r f191 fc 0) tr := Eq.trans (hF.r hfc (by rw [kfc]; rfl)) hr9
      have z212 : q_ir (q_r f191 so 0) ba := Eq.trans (hF.r hso (by rw [kso]; rfl)) hr10
      have z213 : q_ir (q_r f191 dr 0) nds := Eq.trans (hF.r hdr (by rw [kdr]; rfl)) hr11
      have z214 : q_ir (q_r f191 hist 0) ka := Eq.trans (hF.r hhist (by rw [khist]; rfl)) hr12
      have z215 : q_ir (q_r f191 now 0) ndn := Eq.trans (hF.r hnow (by rw [know]; rfl)) hr13
      have z216 : q_ir (q_r f191 sv 0) nsv := Eq.trans (hF.r hsv (by rw [ksv]; rfl)) hr14
      have g217 : tk_tb f191 ba B tn := tk_tb_tr htb (fun i9 => hF.z hba (by rw [kba]; rfl))
      have g218 : tk_ij K L f191 nds := tk_ij_tr hij (fun i9 => hF.r hnds (by rw [knds]; rfl))
      have g219 : tk_vn K L 5 f191 now ndn nl9 := tk_vn_tr hvn (hF.z hnow (by rw [know]; rfl)) (fun a9 h9 k9 => hF.j h9 (by rw [k9]; rfl)) (fun i9 => hF.r hndn (by rw [kndn]; rfl))
      have g220 : tk_vk K L f191 hist ka now ndn := tk_vk_tr hvk (hF.z hhist (by rw [khist]; rfl)) (hF.z hhist (by rw [khist]; rfl)) (hF.z hnow (by rw [know]; rfl)) (fun a9 h9 k9 => hF.j h9 (by rw [k9]; rfl)) (fun i9 => hF.r hndn (by rw [kndn]; rfl)) (fun a9 h9 k9 => hF.z h9 (by rw [k9]; rfl)) (fun a9 h9 k9 => hF.j h9 (by rw [k9]; rfl)) (fun i9 => hF.r hka (by rw [kka]; rfl)) (fun a9 h9 k9 => hF.r h9 (by rw [k9]; rfl)) (fun a9 h9 k9 i9 => hF.r h9 (by rw [k9]; rfl))
      have g221 : tk_ks K L f191 ka := tk_ks_tr g186 (fun i9 => hF.r hka (by rw [kka]; rfl)) (fun a9 h9 k9 => hF.r h9 (by rw [k9]; rfl)) (fun a9 h9 k9 i9 => hF.r h9 (by rw [k9]; rfl))
      subst qy192
      refine lv_istore_n (lv' := [(1, .int (q_i 1)), (0, .ref x)]) cx.1 cx.2.1 dX11_readText_15 rfl hl (by decide) rfl (fun ls hl => ?_)
      obtain ⟨A9, hA9, hta9⟩ := t199
      obtain ⟨x222, ex222⟩ : ∃ zz, q_is (q_z f191 dr 3) zz := ⟨_, q_isr _⟩
      obtain ⟨lx222, ux222⟩ := q_isb ex222 (q_fib hB.2.1 hdr kdr (by decide) rfl)
      refine q_ald_n cx dX11_readText_16 rfl (lv_at hl 1 rfl) ?_
      refine q_gX11_10 cx hB hx kx z202 dX11_readText_17 (fun hb223 kb223 => ?_)
      refine q_iconst cx dX11_readText_20 ?_
      refine q_pX11_79 cx hB hso kso ⟨by decide, by decide⟩ (by decide) (by decide) rfl dX11_readText_21 (fun H locs f224 ef224 z225 hB => ?_)
      have z226 : q_is (q_z f224 hist 1) x187 := by rw [ef224, q_setz (Or.inl (fun q => by rw [q, kso] at khist; exact absurd khist (by decide)))]; exact z201
      have z227 : q_is (q_z f224 so 2) 0 := by rw [ef224, q_setz (Or.inr (by decide))]; exact z197
      have z228 : q_is (q_z f224 so 3) (-1) := by rw [ef224, q_setz (Or.inr (by decide))]; exact z198
      have z229 : q_is (q_z f224 dr 3) x222 := by rw [ef224, q_setz (Or.inr (by decide))]; exact ex222
      have z230 : q_ir (q_r f224 x 0) so := by rw [ef224, q_setr (Or.inr (by decide))]; exact z202
      have z231 : q_ir (q_r f224 x 1) rd := by rw [ef224, q_setr (Or.inl (fun q => by rw [q, kso] at kx; exact absurd kx (by decide)))]; exact z203
      have z232 : q_ir (q_r f224 x 2) scr := by rw [ef224, q_setr (Or.inr (by decide))]; exact z204
      have z233 : q_ir (q_r f224 x 3) fc := by rw [ef224, q_setr (Or.inr (by decide))]; exact z205
      have z234 : q_ir (q_r f224 x 4) hist := by rw [ef224, q_setr (Or.inr (by decide))]; exact z206
      have z235 : q_ir (q_r f224 x 5) rep := by rw [ef224, q_setr (Or.inr (by decide))]; exact z207
      have z236 : q_ir (q_r f224 x 6) now := by rw [ef224, q_setr (Or.inr (by decide))]; exact z208
      have z237 : q_ir (q_r f224 x 7) dr := by rw [ef224, q_setr (Or.inr (by decide))]; exact z209
      have z238 : q_ir (q_r f224 x 8) sv := by rw [ef224, q_setr (Or.inr (by decide))]; exact z210
      have z239 : q_ir (q_r f224 fc 0) tr := by rw [ef224, q_setr (Or.inr (by decide))]; exact z211
      have z240 : q_ir (q_r f224 so 0) ba := by rw [ef224, q_setr (Or.inr (by decide))]; exact z212
      have z241 : q_ir (q_r f224 dr 0) nds := by rw [ef224, q_setr (Or.inr (by decide))]; exact z213
      have z242 : q_ir (q_r f224 hist 0) ka := by rw [ef224, q_setr (Or.inr (by decide))]; exact z214
      have z243 : q_ir (q_r f224 now 0) ndn := by rw [ef224, q_setr (Or.inr (by decide))]; exact z215
      have z244 : q_ir (q_r f224 sv 0) nsv := by rw [ef224, q_setr (Or.inr (by decide))]; exact z216
      have g245 : tk_tb f224 ba B tn := tk_tb_tr g217 (fun i9 => by rw [ef224, q_setz (Or.inl (fun q => by rw [q, kso] at kba; exact absurd kba (by decide)))])
      have g246 : tk_ij K L f224 nds := tk_ij_tr g218 (fun i9 => by rw [ef224, q_setr (Or.inl (fun q => by rw [q, kso] at knds; exact absurd knds (by decide)))])
      have g247 : tk_vn K L 5 f224 now ndn nl9 := tk_vn_tr g219 (by rw [ef224, q_setz (Or.inr (by decide))]) (fun a9 h9 k9 => by rw [ef224, q_setj (Or.inl (fun q => by rw [q, kso] at k9; exact absurd k9 (by decide)))]) (fun i9 => by rw [ef224, q_setr (Or.inl (fun q => by rw [q, kso] at kndn; exact absurd kndn (by decide)))])
      have g248 : tk_vk K L f224 hist ka now ndn := tk_vk_tr g220 (by rw [ef224, q_setz (Or.inl (fun q => by rw [q, kso] at khist; exact absurd khist (by decide)))]) (by rw [ef224, q_setz (Or.inr (by decide))]) (by rw [ef224, q_setz (Or.inr (by decide))]) (fun a9 h9 k9 => by rw [ef224, q_setj (Or.inl (fun q => by rw [q, kso] at k9; exact absurd k9 (by decide)))]) (fun i9 => by rw [ef224, q_setr (Or.inl (fun q => by rw [q, kso] at kndn; exact absurd kndn (by decide)))]) (fun a9 h9 k9 => by rw [ef224, q_setz (Or.inl (fun q => by rw [q, kso] at k9; exact absurd k9 (by decide)))]) (fun a9 h9 k9 => by rw [ef224, q_setj (Or.inl (fun q => by rw [q, kso] at k9; exact absurd k9 (by decide)))]) (fun i9 => by rw [ef224, q_setr (Or.inl (fun q => by rw [q, kso] at kka; exact absurd kka (by decide)))]) (fun a9 h9 k9 => by rw [ef224, q_setr (Or.inl (fun q => by rw [q, kso] at k9; exact absurd k9 (by decide)))]) (fun a9 h9 k9 i9 => by rw [ef224, q_setr (Or.inl (fun q => by rw [q, kso] at k9; exact absurd k9 (by decide)))])
      have g249 : tk_ks K L f224 ka := tk_ks_tr g221 (fun i9 => by rw [ef224, q_setr (Or.inl (fun q => by rw [q, kso] at kka; exact absurd kka (by decide)))]) (fun a9 h9 k9 => by rw [ef224, q_setr (Or.inl (fun q => by rw [q, kso] at k9; exact absurd k9 (by decide)))]) (fun a9 h9 k9 i9 => by rw [ef224, q_setr (Or.inl (fun q => by rw [q, kso] at k9; exact absurd k9 (by decide)))])
      have g250 : tk_ta K L f224 rd dr nds A9 (tk_has (tk_lk A9)) := tk_ta_tr hta9 (by rw [ef224, q_setz (Or.inr (by decide))]) (by rw [ef224, q_setz (Or.inl (fun q => by rw [q, kso] at krd; exact absurd krd (by decide)))]) (by rw [ef224, q_setz (Or.inr (by decide))]) (by rw [ef224, q_setz (Or.inr (by decide))]) (by rw [ef224, q_setz (Or.inr (by decide))]) (fun a9 h9 k9 => by rw [ef224, q_setj (Or.inl (fun q => by rw [q, kso] at k9; exact absurd k9 (by decide)))]) (fun a9 h9 k9 => by rw [ef224, q_setz (Or.inl (fun q => by rw [q, kso] at k9; exact absurd k9 (by decide)))]) (fun i9 => by rw [ef224, q_setr (Or.inl (fun q => by rw [q, kso] at knds; exact absurd knds (by decide)))])
      refine q_ild_n cx dX11_readText_24 rfl (lv_at hl 0 rfl) ?_
      refine q_ifne (tgt := 38) cx ⟨by decide, by decide⟩ dX11_readText_25 (by decide) (fun c251 => ?_) (fun c251 => ?_)
      · refine q_ald_n cx dX11_readText_38 rfl (lv_at hl 1 rfl) ?_
        refine q_gX11_54 cx hB hx kx z236 dX11_readText_39 (fun hb252 kb252 => ?_)
        refine q_ald_n cx dX11_readText_42 rfl (lv_at hl 1 rfl) ?_
        refine q_gX11_58 cx hB hx kx z237 dX11_readText_43 (fun hb253 kb253 => ?_)
        have hnn9 := tk_ta_nn g250 z229
        refine q_cVv (As := [.ref dr]) (rest := []) cx hB (fun _ h => h) hN hnow know (by decide) rfl (f_vcopy01 l g hN hB.2.1 (tk_nd A9) now hnow know dr hdr kdr ndn hndn kndn nds hnds knds x222 (by omega) (by omega) z229 z243 z241 (tk_ta_vn g250) g247.1) q_cX11_94 q_dX10_copyFrom (by decide) rfl rfl hl.1 rfl (Nat.le_of_ble_eq_true rfl) dX11_readText_46 (fun H locs f254 h256 hF hB => ?_)
        obtain ⟨z257, t258, t259, t260⟩ := h256
        have z261 : q_is (q_z f254 hist 1) x187 := Eq.trans (hF.z hhist (by rw [khist]; rfl)) z226
        have z262 : q_is (q_z f254 so 2) 0 := Eq.trans (hF.z hso (by rw [kso]; rfl)) z227
        have z263 : q_is (q_z f254 so 3) (-1) := Eq.trans (hF.z hso (by rw [kso]; rfl)) z228
        have z264 : q_is (q_z f254 dr 3) x222 := Eq.trans (hF.z hdr (by rw [kdr]; rfl)) z229
        have z265 : q_is (q_z f254 so 1) 0 := Eq.trans (hF.z hso (by rw [kso]; rfl)) z225
        have z266 : q_ir (q_r f254 x 0) so := Eq.trans (hF.r hx (by rw [kx]; rfl)) z230
        have z267 : q_ir (q_r f254 x 1) rd := Eq.trans (hF.r hx (by rw [kx]; rfl)) z231
        have z268 : q_ir (q_r f254 x 2) scr := Eq.trans (hF.r hx (by rw [kx]; rfl)) z232
        have z269 : q_ir (q_r f254 x 3) fc := Eq.trans (hF.r hx (by rw [kx]; rfl)) z233
        have z270 : q_ir (q_r f254 x 4) hist := Eq.trans (hF.r hx (by rw [kx]; rfl)) z234
        have z271 : q_ir (q_r f254 x 5) rep := Eq.trans (hF.r hx (by rw [kx]; rfl)) z235
        have z272 : q_ir (q_r f254 x 6) now := Eq.trans (hF.r hx (by rw [kx]; rfl)) z236
        have z273 : q_ir (q_r f254 x 7) dr := Eq.trans (hF.r hx (by rw [kx]; rfl)) z237
        have z274 : q_ir (q_r f254 x 8) sv := Eq.trans (hF.r hx (by rw [kx]; rfl)) z238
        have z275 : q_ir (q_r f254 fc 0) tr := Eq.trans (hF.r hfc (by rw [kfc]; rfl)) z239
        have z276 : q_ir (q_r f254 so 0) ba := Eq.trans (hF.r hso (by rw [kso]; rfl)) z240
        have z277 : q_ir (q_r f254 dr 0) nds := Eq.trans (hF.r hdr (by rw [kdr]; rfl)) z241
        have z278 : q_ir (q_r f254 hist 0) ka := Eq.trans (hF.r hhist (by rw [khist]; rfl)) z242
        have z279 : q_ir (q_r f254 now 0) ndn := Eq.trans (hF.r hnow (by rw [know]; rfl)) z243
        have z280 : q_ir (q_r f254 sv 0) nsv := Eq.trans (hF.r hsv (by rw [ksv]; rfl)) z244
        have g281 : tk_tb f254 ba B tn := tk_tb_tr g245 (fun i9 => hF.z hba (by rw [kba]; rfl))
        have g282 : tk_ij K L f254 nds := tk_ij_tr g246 (fun i9 => hF.r hnds (by rw [knds]; rfl))
        have g283 : tk_ks K L f254 ka := tk_ks_tr g249 (fun i9 => hF.r hka (by rw [kka]; rfl)) (fun a9 h9 k9 => hF.r h9 (by rw [k9]; rfl)) (fun a9 h9 k9 i9 => hF.r h9 (by rw [k9]; rfl))
        have g284 : tk_ta K L f254 rd dr nds A9 (tk_has (tk_lk A9)) := tk_ta_tr g250 (hF.z hrd (by rw [krd]; rfl)) (hF.z hrd (by rw [krd]; rfl)) (hF.z hrd (by rw [krd]; rfl)) (hF.z hdr (by rw [kdr]; rfl)) (hF.z hdr (by rw [kdr]; rfl)) (fun a9 h9 k9 => hF.j h9 (by rw [k9]; rfl)) (fun a9 h9 k9 => hF.z h9 (by rw [k9]; rfl)) (fun i9 => hF.r hnds (by rw [knds]; rfl))
        refine q_ald_n cx dX11_readText_49 rfl (lv_at hl 1 rfl) ?_
        refine q_gX11_40 cx hB hx kx z270 dX11_readText_50 (fun hb285 kb285 => ?_)
        refine q_cVv (As := []) (rest := []) cx hB (fun _ h => h) hN hhist khist (by decide) rfl (f_forget l g hN hB.2.1 hist hhist khist) q_cX11_98 q_dX2_forget (by decide) rfl rfl hl.1 rfl (Nat.le_of_ble_eq_true rfl) dX11_readText_53 (fun H locs f286 h288 hF hB => ?_)
        have z289 := h288
        have z290 : q_is (q_z f286 hist 1) x187 := Eq.trans (hF.z hhist (by rw [khist]; rfl)) z261
        have z291 : q_is (q_z f286 so 2) 0 := Eq.trans (hF.z hso (by rw [kso]; rfl)) z262
        have z292 : q_is (q_z f286 so 3) (-1) := Eq.trans (hF.z hso (by rw [kso]; rfl)) z263
        have z293 : q_is (q_z f286 dr 3) x222 := Eq.trans (hF.z hdr (by rw [kdr]; rfl)) z264
        have z294 : q_is (q_z f286 so 1) 0 := Eq.trans (hF.z hso (by rw [kso]; rfl)) z265
        have z295 : q_is (q_z f286 now 3) x222 := Eq.trans (hF.z hnow (by rw [know]; rfl)) z257
        have z296 : q_ir (q_r f286 x 0) so := Eq.trans (hF.r hx (by rw [kx]; rfl)) z266
        have z297 : q_ir (q_r f286 x 1) rd := Eq.trans (hF.r hx (by rw [kx]; rfl)) z267
        have z298 : q_ir (q_r f286 x 2) scr := Eq.trans (hF.r hx (by rw [kx]; rfl)) z268
        have z299 : q_ir (q_r f286 x 3) fc := Eq.trans (hF.r hx (by rw [kx]; rfl)) z269
        have z300 : q_ir (q_r f286 x 4) hist := Eq.trans (hF.r hx (by rw [kx]; rfl)) z270
        have z301 : q_ir (q_r f286 x 5) rep := Eq.trans (hF.r hx (by rw [kx]; rfl)) z271
        have z302 : q_ir (q_r f286 x 6) now := Eq.trans (hF.r hx (by rw [kx]; rfl)) z272
        have z303 : q_ir (q_r f286 x 7) dr := Eq.trans (hF.r hx (by rw [kx]; rfl)) z273
        have z304 : q_ir (q_r f286 x 8) sv := Eq.trans (hF.r hx (by rw [kx]; rfl)) z274
        have z305 : q_ir (q_r f286 fc 0) tr := Eq.trans (hF.r hfc (by rw [kfc]; rfl)) z275
        have z306 : q_ir (q_r f286 so 0) ba := Eq.trans (hF.r hso (by rw [kso]; rfl)) z276
        have z307 : q_ir (q_r f286 dr 0) nds := Eq.trans (hF.r hdr (by rw [kdr]; rfl)) z277
        have z308 : q_ir (q_r f286 hist 0) ka := Eq.trans (hF.r hhist (by rw [khist]; rfl)) z278
        have z309 : q_ir (q_r f286 now 0) ndn := Eq.trans (hF.r hnow (by rw [know]; rfl)) z279
        have z310 : q_ir (q_r f286 sv 0) nsv := Eq.trans (hF.r hsv (by rw [ksv]; rfl)) z280
        have g311 : tk_tb f286 ba B tn := tk_tb_tr g281 (fun i9 => hF.z hba (by rw [kba]; rfl))
        have g312 : tk_ij K L f286 nds := tk_ij_tr g282 (fun i9 => hF.r hnds (by rw [knds]; rfl))
        have g313 : tk_ks K L f286 ka := tk_ks_tr g283 (fun i9 => hF.r hka (by rw [kka]; rfl)) (fun a9 h9 k9 => hF.r h9 (by rw [k9]; rfl)) (fun a9 h9 k9 i9 => hF.r h9 (by rw [k9]; rfl))
        have g314 : tk_ta K L f286 rd dr nds A9 (tk_has (tk_lk A9)) := tk_ta_tr g284 (hF.z hrd (by rw [krd]; rfl)) (hF.z hrd (by rw [krd]; rfl)) (hF.z hrd (by rw [krd]; rfl)) (hF.z hdr (by rw [kdr]; rfl)) (hF.z hdr (by rw [kdr]; rfl)) (fun a9 h9 k9 => hF.j h9 (by rw [k9]; rfl)) (fun a9 h9 k9 => hF.z h9 (by rw [k9]; rfl)) (fun i9 => hF.r hnds (by rw [knds]; rfl))
        have g315 : tk_vn K L 5 f286 now ndn (tk_nd A9) := tk_vn_tr t258 (hF.z hnow (by rw [know]; rfl)) (fun a9 h9 k9 => hF.j h9 (by rw [k9]; rfl)) (fun i9 => hF.r hndn (by rw [kndn]; rfl))
        have g316 : tk_vk K L f286 hist ka now ndn := tk_vk_0 g313 g315.1 ⟨q_isl z290 (by omega), q_isu z290 (by omega)⟩ z289 (by have h7 := g315.2.1; omega)
        refine q_ald_n cx dX11_readText_56 rfl (lv_at hl 1 rfl) ?_
        refine q_gX11_54 cx hB hx kx z302 dX11_readText_57 (fun hb317 kb317 => ?_)
        refine q_gX11_101 cx hB hnow know z295 dX11_readText_60 (fun lb318 ub318 => ?_)
        refine W.widen (k := 1) (n := 6) (by decide) (by decide) ?_
        refine vx_ret ?_
        refine q_iret cx hr hlk hB dX11_readText_63 ⟨by omega, by omega⟩ ?_
        exact ⟨(by omega), (by omega), z294, z291, z292, ⟨A9, hA9, by omega, g315⟩, g316⟩
      · exact absurd c251 (by omega)
    · obtain ⟨qy192, t319⟩ := h196
      have z320 : q_is (q_z f191 so 1) tn := Eq.trans (hF.z hso (by rw [kso]; rfl)) hf0
      have z321 : q_is (q_z f191 hist 1) x187 := Eq.trans (hF.z hhist (by rw [khist]; rfl)) ex187
      have z322 : q_ir (q_r f191 x 0) so := Eq.trans (hF.r hx (by rw [kx]; rfl)) hr0
      have z323 : q_ir (q_r f191 x 1) rd := Eq.trans (hF.r hx (by rw [kx]; rfl)) hr1
      have z324 : q_ir (q_r f191 x 2) scr := Eq.trans (hF.r hx (by rw [kx]; rfl)) hr2
      have z325 : q_ir (q_r f191 x 3) fc := Eq.trans (hF.r hx (by rw [kx]; rfl)) hr3
      have z326 : q_ir (q_r f191 x 4) hist := Eq.trans (hF.r hx (by rw [kx]; rfl)) hr4
      have z327 : q_ir (q_r f191 x 5) rep := Eq.trans (hF.r hx (by rw [kx]; rfl)) hr5
      have z328 : q_ir (q_r f191 x 6) now := Eq.trans (hF.r hx (by rw [kx]; rfl)) hr6
      have z329 : q_ir (q_r f191 x 7) dr := Eq.trans (hF.r hx (by rw [kx]; rfl)) hr7
      have z330 : q_ir (q_r f191 x 8) sv := Eq.trans (hF.r hx (by rw [kx]; rfl)) hr8
      have z331 : q_ir (q_r f191 fc 0) tr := Eq.trans (hF.r hfc (by rw [kfc]; rfl)) hr9
      have z332 : q_ir (q_r f191 so 0) ba := Eq.trans (hF.r hso (by rw [kso]; rfl)) hr10
      have z333 : q_ir (q_r f191 dr 0) nds := Eq.trans (hF.r hdr (by rw [kdr]; rfl)) hr11
      have z334 : q_ir (q_r f191 hist 0) ka := Eq.trans (hF.r hhist (by rw [khist]; rfl)) hr12
      have z335 : q_ir (q_r f191 now 0) ndn := Eq.trans (hF.r hnow (by rw [know]; rfl)) hr13
      have z336 : q_ir (q_r f191 sv 0) nsv := Eq.trans (hF.r hsv (by rw [ksv]; rfl)) hr14
      have g337 : tk_tb f191 ba B tn := tk_tb_tr htb (fun i9 => hF.z hba (by rw [kba]; rfl))
      have g338 : tk_ij K L f191 nds := tk_ij_tr hij (fun i9 => hF.r hnds (by rw [knds]; rfl))
      have g339 : tk_vn K L 5 f191 now ndn nl9 := tk_vn_tr hvn (hF.z hnow (by rw [know]; rfl)) (fun a9 h9 k9 => hF.j h9 (by rw [k9]; rfl)) (fun i9 => hF.r hndn (by rw [kndn]; rfl))
      have g340 : tk_vk K L f191 hist ka now ndn := tk_vk_tr hvk (hF.z hhist (by rw [khist]; rfl)) (hF.z hhist (by rw [khist]; rfl)) (hF.z hnow (by rw [know]; rfl)) (fun a9 h9 k9 => hF.j h9 (by rw [k9]; rfl)) (fun i9 => hF.r hndn (by rw [kndn]; rfl)) (fun a9 h9 k9 => hF.z h9 (by rw [k9]; rfl)) (fun a9 h9 k9 => hF.j h9 (by rw [k9]; rfl)) (fun i9 => hF.r hka (by rw [kka]; rfl)) (fun a9 h9 k9 => hF.r h9 (by rw [k9]; rfl)) (fun a9 h9 k9 i9 => hF.r h9 (by rw [k9]; rfl))
      have g341 : tk_ks K L f191 ka := tk_ks_tr g186 (fun i9 => hF.r hka (by rw [kka]; rfl)) (fun a9 h9 k9 => hF.r h9 (by rw [k9]; rfl)) (fun a9 h9 k9 i9 => hF.r h9 (by rw [k9]; rfl))
      subst qy192
      refine lv_istore_n (lv' := [(1, .int (q_i 0)), (0, .ref x)]) cx.1 cx.2.1 dX11_readText_15 rfl hl (by decide) rfl (fun ls hl => ?_)
      obtain ⟨x342, ex342⟩ : ∃ zz, q_is (q_z f191 so 2) zz := ⟨_, q_isr _⟩
      obtain ⟨lx342, ux342⟩ := q_isb ex342 (q_fib hB.2.1 hso kso (by decide) rfl)
      obtain ⟨x343, ex343⟩ : ∃ zz, q_is (q_z f191 so 3) zz := ⟨_, q_isr _⟩
      obtain ⟨lx343, ux343⟩ := q_isb ex343 (q_fib hB.2.1 hso kso (by decide) rfl)
      refine q_ald_n cx dX11_readText_16 rfl (lv_at hl 1 rfl) ?_
      refine q_gX11_10 cx hB hx kx z322 dX11_readText_17 (fun hb344 kb344 => ?_)
      refine q_iconst cx dX11_readText_20 ?_
      refine q_pX11_79 cx hB hso kso ⟨by decide, by decide⟩ (by decide) (by decide) rfl dX11_readText_21 (fun H locs f345 ef345 z346 hB => ?_)
      have z347 : q_is (q_z f345 hist 1) x187 := by rw [ef345, q_setz (Or.inl (fun q => by rw [q, kso] at khist; exact absurd khist (by decide)))]; exact z321
      have z348 : q_is (q_z f345 so 2) x342 := by rw [ef345, q_setz (Or.inr (by decide))]; exact ex342
      have z349 : q_is (q_z f345 so 3) x343 := by rw [ef345, q_setz (Or.inr (by decide))]; exact ex343
      have z350 : q_ir (q_r f345 x 0) so := by rw [ef345, q_setr (Or.inr (by decide))]; exact z322
      have z351 : q_ir (q_r f345 x 1) rd := by rw [ef345, q_setr (Or.inl (fun q => by rw [q, kso] at kx; exact absurd kx (by decide)))]; exact z323
      have z352 : q_ir (q_r f345 x 2) scr := by rw [ef345, q_setr (Or.inr (by decide))]; exact z324
      have z353 : q_ir (q_r f345 x 3) fc := by rw [ef345, q_setr (Or.inr (by decide))]; exact z325
      have z354 : q_ir (q_r f345 x 4) hist := by rw [ef345, q_setr (Or.inr (by decide))]; exact z326
      have z355 : q_ir (q_r f345 x 5) rep := by rw [ef345, q_setr (Or.inr (by decide))]; exact z327
      have z356 : q_ir (q_r f345 x 6) now := by rw [ef345, q_setr (Or.inr (by decide))]; exact z328
      have z357 : q_ir (q_r f345 x 7) dr := by rw [ef345, q_setr (Or.inr (by decide))]; exact z329
      have z358 : q_ir (q_r f345 x 8) sv := by rw [ef345, q_setr (Or.inr (by decide))]; exact z330
      have z359 : q_ir (q_r f345 fc 0) tr := by rw [ef345, q_setr (Or.inr (by decide))]; exact z331
      have z360 : q_ir (q_r f345 so 0) ba := by rw [ef345, q_setr (Or.inr (by decide))]; exact z332
      have z361 : q_ir (q_r f345 dr 0) nds := by rw [ef345, q_setr (Or.inr (by decide))]; exact z333
      have z362 : q_ir (q_r f345 hist 0) ka := by rw [ef345, q_setr (Or.inr (by decide))]; exact z334
      have z363 : q_ir (q_r f345 now 0) ndn := by rw [ef345, q_setr (Or.inr (by decide))]; exact z335
      have z364 : q_ir (q_r f345 sv 0) nsv := by rw [ef345, q_setr (Or.inr (by decide))]; exact z336
      have g365 : tk_tb f345 ba B tn := tk_tb_tr g337 (fun i9 => by rw [ef345, q_setz (Or.inl (fun q => by rw [q, kso] at kba; exact absurd kba (by decide)))])
      have g366 : tk_ij K L f345 nds := tk_ij_tr g338 (fun i9 => by rw [ef345, q_setr (Or.inl (fun q => by rw [q, kso] at knds; exact absurd knds (by decide)))])
      have g367 : tk_vn K L 5 f345 now ndn nl9 := tk_vn_tr g339 (by rw [ef345, q_setz (Or.inr (by decide))]) (fun a9 h9 k9 => by rw [ef345, q_setj (Or.inl (fun q => by rw [q, kso] at k9; exact absurd k9 (by decide)))]) (fun i9 => by rw [ef345, q_setr (Or.inl (fun q => by rw [q, kso] at kndn; exact absurd kndn (by decide)))])
      have g368 : tk_vk K L f345 hist ka now ndn := tk_vk_tr g340 (by rw [ef345, q_setz (Or.inl (fun q => by rw [q, kso] at khist; exact absurd khist (by decide)))]) (by rw [ef345, q_setz (Or.inr (by decide))]) (by rw [ef345, q_setz (Or.inr (by decide))]) (fun a9 h9 k9 => by rw [ef345, q_setj (Or.inl (fun q => by rw [q, kso] at k9; exact absurd k9 (by decide)))]) (fun i9 => by rw [ef345, q_setr (Or.inl (fun q => by rw [q, kso] at kndn; exact absurd kndn (by decide)))]) (fun a9 h9 k9 => by rw [ef345, q_setz (Or.inl (fun q => by rw [q, kso] at k9; exact absurd k9 (by decide)))]) (fun a9 h9 k9 => by rw [ef345, q_setj (Or.inl (fun q => by rw [q, kso] at k9; exact absurd k9 (by decide)))]) (fun i9 => by rw [ef345, q_setr (Or.inl (fun q => by rw [q, kso] at kka; exact absurd kka (by decide)))]) (fun a9 h9 k9 => by rw [ef345, q_setr (Or.inl (fun q => by rw [q, kso] at k9; exact absurd k9 (by decide)))]) (fun a9 h9 k9 i9 => by rw [ef345, q_setr (Or.inl (fun q => by rw [q, kso] at k9; exact absurd k9 (by decide)))])
      have g369 : tk_ks K L f345 ka := tk_ks_tr g341 (fun i9 => by rw [ef345, q_setr (Or.inl (fun q => by rw [q, kso] at kka; exact absurd kka (by decide)))]) (fun a9 h9 k9 => by rw [ef345, q_setr (Or.inl (fun q => by rw [q, kso] at k9; exact absurd k9 (by decide)))]) (fun a9 h9 k9 i9 => by rw [ef345, q_setr (Or.inl (fun q => by rw [q, kso] at k9; exact absurd k9 (by decide)))])
      refine q_ild_n cx dX11_readText_24 rfl (lv_at hl 0 rfl) ?_
      refine q_ifne (tgt := 38) cx ⟨by decide, by decide⟩ dX11_readText_25 (by decide) (fun c370 => ?_) (fun c370 => ?_)
      · exact absurd c370 (by omega)
      · exact q_throw (text := "the text has an error") hfl cx hlk htab hX hB hl.1 (by decide +kernel) q_h880 q_h152 (by decide +kernel) q_xl87a q_xl87b q_xl87c dX11_readText_28 dX11_readText_31 (Or.inl ⟨dX11_readText_32, dX11_readText_34, dX11_readText_37⟩) (by decide) (by decide) ⟨rfl, (tk_erp (tk_erx t319 ex342 ex343) z348 z349), z346, g368, g367⟩
set_option maxHeartbeats 4000000 in
set_option maxRecDepth 100000 in
theorem f_wfeed (l : Launch) (g : q_G) (ad : Nat → Nat) {K : Nat → Nat} {L : List Nat} (hN : L.Nodup) {f : Nat → va_E} (hT : q_Ty g K L f) (hfl : l.stackTraces = false) (x : Nat) (hx : x ∈ L) (kx : K x = 11) (a0 : Int) (la0 : (-2147483648) ≤ a0) (ua0 : a0 ≤ 2147483647) (b0 : Int) (lb0 : (-2147483648) ≤ b0) (ub0 : b0 ≤ 2147483647) (c0 : Int) (lc0 : (-2147483648) ≤ c0) (uc0 : c0 ≤ 2147483647) (d0 : Int) (ld0 : (-2147483648) ≤ d0) (ud0 : d0 ≤ 2147483647) (e0 : Int) (le0 : (-2147483648) ≤ e0) (ue0 : e0 ≤ 2147483647) (out : Nat) (hout : out ∈ L) (kout : K out = 168) (so : Nat) (hso : so ∈ L) (kso : K so = 8) (rd : Nat) (hrd : rd ∈ L) (krd : K rd = 9) (scr : Nat) (hscr : scr ∈ L) (kscr : K scr = 7) (fc : Nat) (hfc : fc ∈ L) (kfc : K fc = 1) (hist : Nat) (hhist : hist ∈ L) (khist : K hist = 2) (rep : Nat) (hrep : rep ∈ L) (krep : K rep = 6) (now : Nat) (hnow : now ∈ L) (know : K now = 10) (dr : Nat) (hdr : dr ∈ L) (kdr : K dr = 13) (sv : Nat) (hsv : sv ∈ L) (ksv : K sv = 14) (tr : Nat) (htr : tr ∈ L) (ktr : K tr = 15) (ba : Nat) (hba : ba ∈ L) (kba : K ba = 142) (nds : Nat) (hnds : nds ∈ L) (knds : K nds = 111) (xn : Int) (lxn : 0 ≤ xn) (uxn : xn ≤ 580) (hf0 : q_is (q_z f so 1) xn) (hr0 : q_ir (q_r f x 0) so) (hr1 : q_ir (q_r f x 1) rd) (hr2 : q_ir (q_r f x 2) scr) (hr3 : q_ir (q_r f x 3) fc) (hr4 : q_ir (q_r f x 4) hist) (hr5 : q_ir (q_r f x 5) rep) (hr6 : q_ir (q_r f x 6) now) (hr7 : q_ir (q_r f x 7) dr) (hr8 : q_ir (q_r f x 8) sv) (hr9 : q_ir (q_r f fc 0) tr) (hr10 : q_ir (q_r f so 0) ba) (hr11 : q_ir (q_r f dr 0) nds) : q_Wt l g ad K L yL_feed cL_feed 8 (some .int) [(0, 16, 19, 13)] 2 47 0 0 [.ref x, .int (q_i a0), .int (q_i b0), .int (q_i c0), .int (q_i d0), .int (q_i e0), .ref out] f [(8, 1, 1), (142, 0, 599), (168, 0, 0)] (q_Pi (fun (z : Int) (f1 : Nat → va_E) => z = 0 ∧ q_is (q_z f1 so 1) (xn + 20) ∧ (tk_wr f f1 ba xn (fun k9 => (fun q9 => q9) (tk_g20 a0 b0 c0 d0 e0 k9)) 20))) := by
  refine q_wofb (by decide +kernel) hN hT (Nat.le_of_ble_eq_true rfl) ?_
  intro p e s m below meth c ls cx hr hlk htab hX hB hl
  have hl : lv_has ls 8 [(0, .ref x), (1, .int (q_i a0)), (2, .int (q_i b0)), (3, .int (q_i c0)), (4, .int (q_i d0)), (5, .int (q_i e0)), (6, .ref out)] := hl
  obtain ⟨H, hH⟩ : ∃ H : Heap, H = s.heap := ⟨_, rfl⟩
  obtain ⟨locs, hlocs⟩ : ∃ z : List Loc, z = [] := ⟨_, rfl⟩
  rw [← hH, ← hlocs] at hB
  rw [← hH, ← hlocs]
  refine lv_aload cx.1 cx.2.1 dL_feed_0 (lv_at hl 6 rfl) ?_
  refine q_iconst cx dL_feed_2 ?_
  refine q_ald_n cx dL_feed_3 rfl (lv_at hl 0 rfl) ?_
  refine q_ild_n cx dL_feed_4 rfl (lv_at hl 1 rfl) ?_
  refine q_ild_n cx dL_feed_5 rfl (lv_at hl 2 rfl) ?_
  refine q_ild_n cx dL_feed_6 rfl (lv_at hl 3 rfl) ?_
  refine lv_iload cx.1 cx.2.1 dL_feed_7 (lv_at hl 4 rfl) ?_
  refine lv_iload cx.1 cx.2.1 dL_feed_9 (lv_at hl 5 rfl) ?_
  refine q_cVi (As := [.int (q_i a0), .int (q_i b0), .int (q_i c0), .int (q_i d0), .int (q_i e0)]) (rest := [.int (q_i 0), .ref out]) cx hB (fun _ h => h) hN hx kx (by decide) rfl (f_feed l g hN hB.2.1 x hx kx a0 (by omega) (by omega) b0 (by omega) (by omega) c0 (by omega) (by omega) d0 (by omega) (by omega) e0 (by omega) (by omega) so hso kso rd hrd krd scr hscr kscr fc hfc kfc hist hhist khist rep hrep krep now hnow know dr hdr kdr sv hsv ksv tr htr ktr ba hba kba nds hnds knds xn (by omega) (by omega) hf0 hr0 hr1 hr2 hr3 hr4 hr5 hr6 hr7 hr8 hr9 hr10 hr11) q_cL_7 q_dX11_feed (by decide) rfl rfl hl.1 rfl (Nat.le_of_ble_eq_true rfl) dL_feed_11 (fun y34 H locs f33 ry34 h35 hF hB => ?_)
  obtain ⟨qy34, z36, t37⟩ := h35
  have z38 : q_ir (q_r f33 x 0) so := Eq.trans (hF.r hx (by rw [kx]; rfl)) hr0
  have z39 : q_ir (q_r f33 x 1) rd := Eq.trans (hF.r hx (by rw [kx]; rfl)) hr1
  have z40 : q_ir (q_r f33 x 2) scr := Eq.trans (hF.r hx (by rw [kx]; rfl)) hr2
  have z41 : q_ir (q_r f33 x 3) fc := Eq.trans (hF.r hx (by rw [kx]; rfl)) hr3
  have z42 : q_ir (q_r f33 x 4) hist := Eq.trans (hF.r hx (by rw [kx]; rfl)) hr4
  have z43 : q_ir (q_r f33 x 5) rep := Eq.trans (hF.r hx (by rw [kx]; rfl)) hr5
  have z44 : q_ir (q_r f33 x 6) now := Eq.trans (hF.r hx (by rw [kx]; rfl)) hr6
  have z45 : q_ir (q_r f33 x 7) dr := Eq.trans (hF.r hx (by rw [kx]; rfl)) hr7
  have z46 : q_ir (q_r f33 x 8) sv := Eq.trans (hF.r hx (by rw [kx]; rfl)) hr8
  have z47 : q_ir (q_r f33 fc 0) tr := Eq.trans (hF.r hfc (by rw [kfc]; rfl)) hr9
  have z48 : q_ir (q_r f33 so 0) ba := Eq.trans (hF.r hso (by rw [kso]; rfl)) hr10
  have z49 : q_ir (q_r f33 dr 0) nds := Eq.trans (hF.r hdr (by rw [kdr]; rfl)) hr11
  refine q_i2l cx ⟨by omega, by omega⟩ dL_feed_14 ?_
  refine q_last (n := 1) cx hB hout kout (by decide) rfl rfl (by decide) (by decide) (by decide) rfl rfl dL_feed_15 (fun H locs f50 ef50 z51 hB => ?_)
  have z52 : q_is (q_z f50 so 1) (xn + 20) := by rw [ef50, q_setz (Or.inr (by decide))]; exact z36
  have z53 : q_ir (q_r f50 x 0) so := by rw [ef50, q_setr (Or.inl (fun q => by rw [q, kout] at kx; exact absurd kx (by decide)))]; exact z38
  have z54 : q_ir (q_r f50 x 1) rd := by rw [ef50, q_setr (Or.inr (by decide))]; exact z39
  have z55 : q_ir (q_r f50 x 2) scr := by rw [ef50, q_setr (Or.inr (by decide))]; exact z40
  have z56 : q_ir (q_r f50 x 3) fc := by rw [ef50, q_setr (Or.inr (by decide))]; exact z41
  have z57 : q_ir (q_r f50 x 4) hist := by rw [ef50, q_setr (Or.inr (by decide))]; exact z42
  have z58 : q_ir (q_r f50 x 5) rep := by rw [ef50, q_setr (Or.inr (by decide))]; exact z43
  have z59 : q_ir (q_r f50 x 6) now := by rw [ef50, q_setr (Or.inr (by decide))]; exact z44
  have z60 : q_ir (q_r f50 x 7) dr := by rw [ef50, q_setr (Or.inr (by decide))]; exact z45
  have z61 : q_ir (q_r f50 x 8) sv := by rw [ef50, q_setr (Or.inr (by decide))]; exact z46
  have z62 : q_ir (q_r f50 fc 0) tr := by rw [ef50, q_setr (Or.inl (fun q => by rw [q, kout] at kfc; exact absurd kfc (by decide)))]; exact z47
  have z63 : q_ir (q_r f50 so 0) ba := by rw [ef50, q_setr (Or.inl (fun q => by rw [q, kout] at kso; exact absurd kso (by decide)))]; exact z48
  have z64 : q_ir (q_r f50 dr 0) nds := by rw [ef50, q_setr (Or.inl (fun q => by rw [q, kout] at kdr; exact absurd kdr (by decide)))]; exact z49
  refine lv_goto (tgt := 23) cx.1 cx.2.1 dL_feed_16 (by decide) ?_
  refine q_iconst cx dL_feed_23 ?_
  refine W.widen (k := 0) (n := 0) (by decide) (by decide) ?_
  refine q_iret cx hr hlk hB dL_feed_24 ⟨by decide, by decide⟩ ?_
  exact ⟨rfl, z52, (tk_wr_tr t37 (fun i9 => by rw [ef50, q_setz (Or.inl (fun q => by rw [q, kout] at kba; exact absurd kba (by decide)))]))⟩
set_option maxHeartbeats 4000000 in
set_option maxRecDepth 100000 in
theorem f_wtick (l : Launch) (g : q_G) (ad : Nat → Nat) {K : Nat → Nat} {L : List Nat} (hN : L.Nodup) {f : Nat → va_E} (hT : q_Ty g K L f) (hfl : l.stackTraces = false) (nl9 : List (List Int)) (x : Nat) (hx : x ∈ L) (kx : K x = 11) (a0 : Int) (la0 : (-2147483648) ≤ a0) (ua0 : a0 ≤ 2147483647) (out : Nat) (hout : out ∈ L) (kout : K out = 168) (so : Nat) (hso : so ∈ L) (kso : K so = 8) (rd : Nat) (hrd : rd ∈ L) (krd : K rd = 9) (scr : Nat) (hscr : scr ∈ L) (kscr : K scr = 7) (fc : Nat) (hfc : fc ∈ L) (kfc : K fc = 1) (hist : Nat) (hhist : hist ∈ L) (khist : K hist = 2) (rep : Nat) (hrep : rep ∈ L) (krep : K rep = 6) (now : Nat) (hnow : now ∈ L) (know : K now = 10) (dr : Nat) (hdr : dr ∈ L) (kdr : K dr = 13) (sv : Nat) (hsv : sv ∈ L) (ksv : K sv = 14) (tr : Nat) (htr : tr ∈ L) (ktr : K tr = 15) (ba : Nat) (hba : ba ∈ L) (kba : K ba = 142) (nds : Nat) (hnds : nds ∈ L) (knds : K nds = 111) (ka : Nat) (hka : ka ∈ L) (kka : K ka = 140) (ndn : Nat) (hndn : ndn ∈ L) (kndn : K ndn = 110) (nsv : Nat) (hnsv : nsv ∈ L) (knsv : K nsv = 112) (hr0 : q_ir (q_r f x 0) so) (hr1 : q_ir (q_r f x 1) rd) (hr2 : q_ir (q_r f x 2) scr) (hr3 : q_ir (q_r f x 3) fc) (hr4 : q_ir (q_r f x 4) hist) (hr5 : q_ir (q_r f x 5) rep) (hr6 : q_ir (q_r f x 6) now) (hr7 : q_ir (q_r f x 7) dr) (hr8 : q_ir (q_r f x 8) sv) (hr9 : q_ir (q_r f fc 0) tr) (hr10 : q_ir (q_r f so 0) ba) (hr11 : q_ir (q_r f dr 0) nds) (hr12 : q_ir (q_r f hist 0) ka) (hr13 : q_ir (q_r f now 0) ndn) (hr14 : q_ir (q_r f sv 0) nsv) (hvn : tk_vn K L 5 f now ndn nl9) (hvk : tk_vk K L f hist ka now ndn) : q_Wt l g ad K L yL_tick cL_tick 4 (some .int) [(0, 9, 12, 19), (0, 9, 15, 13)] 7 146 1 6 [.ref x, .int (q_i a0), .ref out] f [(2, 1, 2), (3, 2, 4), (4, 2, 3), (4, 5, 6), (5, 3, 4), (5, 6, 9), (10, 11, 15), (16, 3, 12), (20, 0, 8), (24, 0, 4), (28, 0, 7), (168, 0, 0)] (q_Pi (fun (z : Int) (f1 : Nat → va_E) => 0 ≤ z ∧ z ≤ 3 ∧ (tk_vk K L f1 hist ka now ndn))) := by
  refine q_wofb (by decide +kernel) hN hT (Nat.le_of_ble_eq_true rfl) ?_
  intro p e s m below meth c ls cx hr hlk htab hX hB hl
  have hl : lv_has ls 4 [(0, .ref x), (1, .int (q_i a0)), (2, .ref out)] := hl
  obtain ⟨H, hH⟩ : ∃ H : Heap, H = s.heap := ⟨_, rfl⟩
  obtain ⟨locs, hlocs⟩ : ∃ z : List Loc, z = [] := ⟨_, rfl⟩
  rw [← hH, ← hlocs] at hB
  rw [← hH, ← hlocs]
  refine q_ald_n cx dL_tick_0 rfl (lv_at hl 2 rfl) ?_
  refine q_iconst cx dL_tick_1 ?_
  refine q_ald_n cx dL_tick_2 rfl (lv_at hl 0 rfl) ?_
  refine q_ild_n cx dL_tick_3 rfl (lv_at hl 1 rfl) ?_
  refine q_cXV (As := [.int (q_i a0)]) (rest := [.int (q_i 0), .ref out]) cx hX hB (fun _ h => h) (fun _ h _ => h) hN hx kx (by decide) rfl (f_xtick l g ad hN hB.2.1 hfl nl9 x hx kx a0 (by omega) (by omega) so hso kso rd hrd krd scr hscr kscr fc hfc kfc hist hhist khist rep hrep krep now hnow know dr hdr kdr sv hsv ksv tr htr ktr ba hba kba nds hnds knds ka hka kka ndn hndn kndn nsv hnsv knsv hr0 hr1 hr2 hr3 hr4 hr5 hr6 hr7 hr8 hr9 hr10 hr11 hr12 hr13 hr14 hvn hvk) q_cL_85 q_dX11_tick (by decide) rfl rfl hl.1 rfl (Nat.le_of_ble_eq_true rfl) dL_tick_4 (fun E9 ce9 q9 H locs f44 hex hF hB hcell hcv hcl => ?_) (fun v9 H locs f41 h43 hF hB => ?_)
  · rcases hex with ⟨rfl, rfl⟩ | ⟨rfl, rfl⟩
    · refine vx_catch (E := "java/lang/IllegalArgumentException") (name := "java/lang/IllegalArgumentException") cx.2.2.2.1 [] ⟨0, 9, 12, 19⟩ [⟨0, 9, 15, 13⟩] (htab.trans rfl) (q_pnil) (by decide) (by decide) (cx.2.2.2.2 _ q_h875) (va_Nw.use rfl (hX.2.2.2.1 (.castable "java/lang/IllegalArgumentException" "java/lang/IllegalArgumentException") (by decide +kernel))) hcell hcv hcl ?_
      refine lv_astore_n (lv' := [(3, .ref q9), (0, .ref x), (1, .int (q_i a0)), (2, .ref out)]) cx.1 cx.2.1 dL_tick_12 rfl hl (by decide) rfl (fun ls hl => ?_)
      refine q_iconst cx dL_tick_13 ?_
      refine W.widen (k := 1) (n := 6) (by decide) (by decide) ?_
      refine q_iret cx hr hlk hB dL_tick_14 ⟨by decide, by decide⟩ ?_
      exact ⟨(by decide), (by decide), hvk⟩
    · refine vx_catch (E := "java/lang/IllegalStateException") (name := "java/lang/IllegalStateException") cx.2.2.2.1 [⟨0, 9, 12, 19⟩] ⟨0, 9, 15, 13⟩ [] (htab.trans rfl) (q_pcons (Or.inr ⟨by decide, "java/lang/IllegalArgumentException", cx.2.2.2.2 _ q_h875, hX.2.2.2.2.1 ("java/lang/IllegalStateException", "java/lang/IllegalArgumentException") (by decide)⟩) (q_pnil)) (by decide) (by decide) (cx.2.2.2.2 _ q_h792) (va_Nw.use rfl (hX.2.2.2.1 (.castable "java/lang/IllegalStateException" "java/lang/IllegalStateException") (by decide +kernel))) hcell hcv hcl ?_
      refine lv_astore_n (lv' := [(3, .ref q9), (0, .ref x), (1, .int (q_i a0)), (2, .ref out)]) cx.1 cx.2.1 dL_tick_15 rfl hl (by decide) rfl (fun ls hl => ?_)
      refine q_iconst cx dL_tick_16 ?_
      refine W.widen (k := 1) (n := 6) (by decide) (by decide) ?_
      refine q_iret cx hr hlk hB dL_tick_17 ⟨by decide, by decide⟩ ?_
      exact ⟨(by decide), (by decide), hvk⟩
  · obtain ⟨y42, rfl, ry42, h43⟩ := h43
    refine W.eq (g2 := F0 m 7 ls [.int (q_i y42), .int (q_i 0), .ref out]) rfl ?_
    have g45 := h43
    have z46 : q_ir (q_r f41 x 0) so := Eq.trans (hF.r hx (by rw [kx]; rfl)) hr0
    have z47 : q_ir (q_r f41 x 1) rd := Eq.trans (hF.r hx (by rw [kx]; rfl)) hr1
    have z48 : q_ir (q_r f41 x 2) scr := Eq.trans (hF.r hx (by rw [kx]; rfl)) hr2
    have z49 : q_ir (q_r f41 x 3) fc := Eq.trans (hF.r hx (by rw [kx]; rfl)) hr3
    have z50 : q_ir (q_r f41 x 4) hist := Eq.trans (hF.r hx (by rw [kx]; rfl)) hr4
    have z51 : q_ir (q_r f41 x 5) rep := Eq.trans (hF.r hx (by rw [kx]; rfl)) hr5
    have z52 : q_ir (q_r f41 x 6) now := Eq.trans (hF.r hx (by rw [kx]; rfl)) hr6
    have z53 : q_ir (q_r f41 x 7) dr := Eq.trans (hF.r hx (by rw [kx]; rfl)) hr7
    have z54 : q_ir (q_r f41 x 8) sv := Eq.trans (hF.r hx (by rw [kx]; rfl)) hr8
    have z55 : q_ir (q_r f41 fc 0) tr := Eq.trans (hF.r hfc (by rw [kfc]; rfl)) hr9
    have z56 : q_ir (q_r f41 so 0) ba := Eq.trans (hF.r hso (by rw [kso]; rfl)) hr10
    have z57 : q_ir (q_r f41 dr 0) nds := Eq.trans (hF.r hdr (by rw [kdr]; rfl)) hr11
    have z58 : q_ir (q_r f41 hist 0) ka := Eq.trans (hF.r hhist (by rw [khist]; rfl)) hr12
    have z59 : q_ir (q_r f41 now 0) ndn := Eq.trans (hF.r hnow (by rw [know]; rfl)) hr13
    have z60 : q_ir (q_r f41 sv 0) nsv := Eq.trans (hF.r hsv (by rw [ksv]; rfl)) hr14
    have g61 : tk_vn K L 5 f41 now ndn nl9 := tk_vn_tr hvn (hF.z hnow (by rw [know]; rfl)) (fun a9 h9 k9 => hF.j h9 (by rw [k9]; rfl)) (fun i9 => hF.r hndn (by rw [kndn]; rfl))
    refine q_i2l cx ⟨by omega, by omega⟩ dL_tick_7 ?_
    refine q_last (n := 1) cx hB hout kout (by decide) rfl rfl (by decide) (by decide) (by decide) rfl rfl dL_tick_8 (fun H locs f62 ef62 z63 hB => ?_)
    have z64 : q_ir (q_r f62 x 0) so := by rw [ef62, q_setr (Or.inl (fun q => by rw [q, kout] at kx; exact absurd kx (by decide)))]; exact z46
    have z65 : q_ir (q_r f62 x 1) rd := by rw [ef62, q_setr (Or.inr (by decide))]; exact z47
    have z66 : q_ir (q_r f62 x 2) scr := by rw [ef62, q_setr (Or.inr (by decide))]; exact z48
    have z67 : q_ir (q_r f62 x 3) fc := by rw [ef62, q_setr (Or.inr (by decide))]; exact z49
    have z68 : q_ir (q_r f62 x 4) hist := by rw [ef62, q_setr (Or.inr (by decide))]; exact z50
    have z69 : q_ir (q_r f62 x 5) rep := by rw [ef62, q_setr (Or.inr (by decide))]; exact z51
    have z70 : q_ir (q_r f62 x 6) now := by rw [ef62, q_setr (Or.inr (by decide))]; exact z52
    have z71 : q_ir (q_r f62 x 7) dr := by rw [ef62, q_setr (Or.inr (by decide))]; exact z53
    have z72 : q_ir (q_r f62 x 8) sv := by rw [ef62, q_setr (Or.inr (by decide))]; exact z54
    have z73 : q_ir (q_r f62 fc 0) tr := by rw [ef62, q_setr (Or.inl (fun q => by rw [q, kout] at kfc; exact absurd kfc (by decide)))]; exact z55
    have z74 : q_ir (q_r f62 so 0) ba := by rw [ef62, q_setr (Or.inl (fun q => by rw [q, kout] at kso; exact absurd kso (by decide)))]; exact z56
    have z75 : q_ir (q_r f62 dr 0) nds := by rw [ef62, q_setr (Or.inl (fun q => by rw [q, kout] at kdr; exact absurd kdr (by decide)))]; exact z57
    have z76 : q_ir (q_r f62 hist 0) ka := by rw [ef62, q_setr (Or.inl (fun q => by rw [q, kout] at khist; exact absurd khist (by decide)))]; exact z58
    have z77 : q_ir (q_r f62 now 0) ndn := by rw [ef62, q_setr (Or.inl (fun q => by rw [q, kout] at know; exact absurd know (by decide)))]; exact z59
    have z78 : q_ir (q_r f62 sv 0) nsv := by rw [ef62, q_setr (Or.inl (fun q => by rw [q, kout] at ksv; exact absurd ksv (by decide)))]; exact z60
    have g79 : tk_vn K L 5 f62 now ndn nl9 := tk_vn_tr g61 (by rw [ef62, q_setz (Or.inr (by decide))]) (fun a9 h9 k9 => by rw [ef62, q_setj (Or.inl (fun q => by rw [q, kout] at k9; exact absurd k9 (by decide)))]) (fun i9 => by rw [ef62, q_setr (Or.inl (fun q => by rw [q, kout] at kndn; exact absurd kndn (by decide)))])
    have g80 : tk_vk K L f62 hist ka now ndn := tk_vk_tr g45 (by rw [ef62, q_setz (Or.inr (by decide))]) (by rw [ef62, q_setz (Or.inr (by decide))]) (by rw [ef62, q_setz (Or.inr (by decide))]) (fun a9 h9 k9 => by rw [ef62, q_setj (Or.inl (fun q => by rw [q, kout] at k9; exact absurd k9 (by decide)))]) (fun i9 => by rw [ef62, q_setr (Or.inl (fun q => by rw [q, kout] at kndn; exact absurd kndn (by decide)))]) (fun a9 h9 k9 => by rw [ef62, q_setz (Or.inl (fun q => by rw [q, kout] at k9; exact absurd k9 (by decide)))]) (fun a9 h9 k9 => by rw [ef62, q_setj (Or.inl (fun q => by rw [q, kout] at k9; exact absurd k9 (by decide)))]) (fun i9 => by rw [ef62, q_setr (Or.inl (fun q => by rw [q, kout] at kka; exact absurd kka (by decide)))]) (fun a9 h9 k9 => by rw [ef62, q_setr (Or.inl (fun q => by rw [q, kout] at k9; exact absurd k9 (by decide)))]) (fun a9 h9 k9 i9 => by rw [ef62, q_setr (Or.inl (fun q => by rw [q, kout] at k9; exact absurd k9 (by decide)))])
    refine lv_goto (tgt := 18) cx.1 cx.2.1 dL_tick_9 (by decide) ?_
    refine q_iconst cx dL_tick_18 ?_
    refine W.widen (k := 1) (n := 6) (by decide) (by decide) ?_
    refine q_iret cx hr hlk hB dL_tick_19 ⟨by decide, by decide⟩ ?_
    exact ⟨(by decide), (by decide), g80⟩
