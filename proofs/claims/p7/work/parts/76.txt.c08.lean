set_option maxHeartbeats 4000000 in
set_option maxRecDepth 100000 in
theorem f_wsend (l : Launch) (g : q_G) (ad : Nat → Nat) {K : Nat → Nat} {L : List Nat} (hN : L.Nodup) {f : Nat → va_E} (hT : q_Ty g K L f) (hfl : l.stackTraces = false) (nl9 : List (List Int)) (x : Nat) (hx : x ∈ L) (kx : K x = 11) (a0 : Int) (la0 : (-2147483648) ≤ a0) (ua0 : a0 ≤ 2147483647) (b0 : Int) (lb0 : (-2147483648) ≤ b0) (ub0 : b0 ≤ 2147483647) (c0 : Int) (lc0 : (-2147483648) ≤ c0) (uc0 : c0 ≤ 2147483647) (z0 : Int) (lz0 : 0 ≤ z0) (uz0 : z0 ≤ 1) (out : Nat) (hout : out ∈ L) (kout : K out = 168) (so : Nat) (hso : so ∈ L) (kso : K so = 8) (rd : Nat) (hrd : rd ∈ L) (krd : K rd = 9) (scr : Nat) (hscr : scr ∈ L) (kscr : K scr = 7) (fc : Nat) (hfc : fc ∈ L) (kfc : K fc = 1) (hist : Nat) (hhist : hist ∈ L) (khist : K hist = 2) (rep : Nat) (hrep : rep ∈ L) (krep : K rep = 6) (now : Nat) (hnow : now ∈ L) (know : K now = 10) (dr : Nat) (hdr : dr ∈ L) (kdr : K dr = 13) (sv : Nat) (hsv : sv ∈ L) (ksv : K sv = 14) (tr : Nat) (htr : tr ∈ L) (ktr : K tr = 15) (ba : Nat) (hba : ba ∈ L) (kba : K ba = 142) (nds : Nat) (hnds : nds ∈ L) (knds : K nds = 111) (ka : Nat) (hka : ka ∈ L) (kka : K ka = 140) (ndn : Nat) (hndn : ndn ∈ L) (kndn : K ndn = 110) (nsv : Nat) (hnsv : nsv ∈ L) (knsv : K nsv = 112) (hr0 : q_ir (q_r f x 0) so) (hr1 : q_ir (q_r f x 1) rd) (hr2 : q_ir (q_r f x 2) scr) (hr3 : q_ir (q_r f x 3) fc) (hr4 : q_ir (q_r f x 4) hist) (hr5 : q_ir (q_r f x 5) rep) (hr6 : q_ir (q_r f x 6) now) (hr7 : q_ir (q_r f x 7) dr) (hr8 : q_ir (q_r f x 8) sv) (hr9 : q_ir (q_r f fc 0) tr) (hr10 : q_ir (q_r f so 0) ba) (hr11 : q_ir (q_r f dr 0) nds) (hr12 : q_ir (q_r f hist 0) ka) (hr13 : q_ir (q_r f now 0) ndn) (hr14 : q_ir (q_r f sv 0) nsv) (hvn : tk_vn K L 5 f now ndn nl9) (hvk : tk_vk K L f hist ka now ndn) : q_Wt l g ad K L yL_send cL_send 7 (some .int) [(0, 14, 17, 35), (0, 14, 21, 19), (0, 14, 25, 13)] 8 127 3 18 [.ref x, .int (q_i a0), .int (q_i b0), .int (q_i c0), .int (q_i z0), .ref out] f [(2, 1, 2), (4, 0, 7), (10, 5, 5), (16, 3, 12), (20, 0, 8), (24, 0, 4), (28, 0, 7), (168, 0, 0)] (q_Pi (fun (z : Int) (f1 : Nat → va_E) => 0 ≤ z ∧ z ≤ 3 ∧ (tk_vk K L f1 hist ka now ndn))) := by
  refine q_wofb (by decide +kernel) hN hT (Nat.le_of_ble_eq_true rfl) ?_
  intro p e s m below meth c ls cx hr hlk htab hX hB hl
  have hl : lv_has ls 7 [(0, .ref x), (1, .int (q_i a0)), (2, .int (q_i b0)), (3, .int (q_i c0)), (4, .int (q_i z0)), (5, .ref out)] := hl
  obtain ⟨H, hH⟩ : ∃ H : Heap, H = s.heap := ⟨_, rfl⟩
  obtain ⟨locs, hlocs⟩ : ∃ z : List Loc, z = [] := ⟨_, rfl⟩
  rw [← hH, ← hlocs] at hB
  rw [← hH, ← hlocs]
  refine lv_aload cx.1 cx.2.1 dL_send_0 (lv_at hl 5 rfl) ?_
  refine q_iconst cx dL_send_2 ?_
  refine q_ald_n cx dL_send_3 rfl (lv_at hl 0 rfl) ?_
  refine q_ild_n cx dL_send_4 rfl (lv_at hl 1 rfl) ?_
  refine q_ild_n cx dL_send_5 rfl (lv_at hl 2 rfl) ?_
  refine q_ild_n cx dL_send_6 rfl (lv_at hl 3 rfl) ?_
  refine lv_iload cx.1 cx.2.1 dL_send_7 (lv_at hl 4 rfl) ?_
  refine q_cXV (As := [.int (q_i a0), .int (q_i b0), .int (q_i c0), .int (q_i z0)]) (rest := [.int (q_i 0), .ref out]) cx hX hB (fun _ h => h) (fun _ h _ => h) hN hx kx (by decide) rfl (f_xsend l g ad hN hB.2.1 hfl nl9 x hx kx a0 (by omega) (by omega) b0 (by omega) (by omega) c0 (by omega) (by omega) z0 (by omega) (by omega) so hso kso rd hrd krd scr hscr kscr fc hfc kfc hist hhist khist rep hrep krep now hnow know dr hdr kdr sv hsv ksv tr htr ktr ba hba kba nds hnds knds ka hka kka ndn hndn kndn nsv hnsv knsv hr0 hr1 hr2 hr3 hr4 hr5 hr6 hr7 hr8 hr9 hr10 hr11 hr12 hr13 hr14 hvn hvk) q_cL_88 q_dX11_send (by decide) rfl rfl hl.1 rfl (Nat.le_of_ble_eq_true rfl) dL_send_9 (fun E9 ce9 q9 H locs f44 hex hF hB hcell hcv hcl => ?_) (fun v9 H locs f41 h43 hF hB => ?_)
  · rcases hex with ⟨rfl, rfl⟩ | ⟨rfl, rfl⟩ | ⟨rfl, rfl⟩
    · refine vx_catch (E := "java/lang/IndexOutOfBoundsException") (name := "java/lang/IndexOutOfBoundsException") cx.2.2.2.1 [] ⟨0, 14, 17, 35⟩ [⟨0, 14, 21, 19⟩, ⟨0, 14, 25, 13⟩] (htab.trans rfl) (q_pnil) (by decide) (by decide) (cx.2.2.2.2 _ q_h1225) (va_Nw.use rfl (hX.2.2.2.1 (.castable "java/lang/IndexOutOfBoundsException" "java/lang/IndexOutOfBoundsException") (by decide +kernel))) hcell hcv hcl ?_
      refine lv_astore (lv' := [(6, .ref q9), (0, .ref x), (1, .int (q_i a0)), (2, .int (q_i b0)), (3, .int (q_i c0)), (4, .int (q_i z0)), (5, .ref out)]) cx.1 cx.2.1 dL_send_17 hl (by decide) rfl (fun ls hl => ?_)
      refine q_iconst cx dL_send_19 ?_
      refine W.widen (k := 3) (n := 18) (by decide) (by decide) ?_
      refine q_iret cx hr hlk hB dL_send_20 ⟨by decide, by decide⟩ ?_
      exact ⟨(by decide), (by decide), hvk⟩
    · refine vx_catch (E := "java/lang/IllegalArgumentException") (name := "java/lang/IllegalArgumentException") cx.2.2.2.1 [⟨0, 14, 17, 35⟩] ⟨0, 14, 21, 19⟩ [⟨0, 14, 25, 13⟩] (htab.trans rfl) (q_pcons (Or.inr ⟨by decide, "java/lang/IndexOutOfBoundsException", cx.2.2.2.2 _ q_h1225, hX.2.2.2.2.1 ("java/lang/IllegalArgumentException", "java/lang/IndexOutOfBoundsException") (by decide)⟩) (q_pnil)) (by decide) (by decide) (cx.2.2.2.2 _ q_h875) (va_Nw.use rfl (hX.2.2.2.1 (.castable "java/lang/IllegalArgumentException" "java/lang/IllegalArgumentException") (by decide +kernel))) hcell hcv hcl ?_
      refine lv_astore (lv' := [(6, .ref q9), (0, .ref x), (1, .int (q_i a0)), (2, .int (q_i b0)), (3, .int (q_i c0)), (4, .int (q_i z0)), (5, .ref out)]) cx.1 cx.2.1 dL_send_21 hl (by decide) rfl (fun ls hl => ?_)
      refine q_iconst cx dL_send_23 ?_
      refine W.widen (k := 3) (n := 18) (by decide) (by decide) ?_
      refine q_iret cx hr hlk hB dL_send_24 ⟨by decide, by decide⟩ ?_
      exact ⟨(by decide), (by decide), hvk⟩
    · refine vx_catch (E := "java/lang/IllegalStateException") (name := "java/lang/IllegalStateException") cx.2.2.2.1 [⟨0, 14, 17, 35⟩, ⟨0, 14, 21, 19⟩] ⟨0, 14, 25, 13⟩ [] (htab.trans rfl) (q_pcons (Or.inr ⟨by decide, "java/lang/IndexOutOfBoundsException", cx.2.2.2.2 _ q_h1225, hX.2.2.2.2.1 ("java/lang/IllegalStateException", "java/lang/IndexOutOfBoundsException") (by decide)⟩) (q_pcons (Or.inr ⟨by decide, "java/lang/IllegalArgumentException", cx.2.2.2.2 _ q_h875, hX.2.2.2.2.1 ("java/lang/IllegalStateException", "java/lang/IllegalArgumentException") (by decide)⟩) (q_pnil))) (by decide) (by decide) (cx.2.2.2.2 _ q_h792) (va_Nw.use rfl (hX.2.2.2.1 (.castable "java/lang/IllegalStateException" "java/lang/IllegalStateException") (by decide +kernel))) hcell hcv hcl ?_
      refine lv_astore (lv' := [(6, .ref q9), (0, .ref x), (1, .int (q_i a0)), (2, .int (q_i b0)), (3, .int (q_i c0)), (4, .int (q_i z0)), (5, .ref out)]) cx.1 cx.2.1 dL_send_25 hl (by decide) rfl (fun ls hl => ?_)
      refine q_iconst cx dL_send_27 ?_
      refine W.widen (k := 3) (n := 18) (by decide) (by decide) ?_
      refine q_iret cx hr hlk hB dL_send_28 ⟨by decide, by decide⟩ ?_
      exact ⟨(by decide), (by decide), hvk⟩
  · obtain ⟨y42, rfl, ry42, h43⟩ := h43
    refine W.eq (g2 := F0 m 12 ls [.int (q_i y42), .int (q_i 0), .ref out]) rfl ?_
    have g45 := h43
    have z46 : q_ir (q_r f41 x 0) so := Eq.trans (hF.r hx (by rw [kx]; rfl)) hr0
    have z47 : q_ir (q_r f41 x 1) rd := Eq.trans (hF.r hx (by rw [kx]; rfl)) hr1
    have z48 : q_ir (q_r f41 x 2) scr := Eq.trans (hF.r hx (by rw [kx]; rfl)) hr2
    have z49 : q_ir (q_r f41 x 3) fc := Eq.trans (hF.r hx (by rw [kx]; rfl)) hr3
    have z50 : q_ir (q_r f41 x 4) hist := Eq.trans (hF.r hx (by rw [kx]; rfl)) hr4
    have z51 : q_ir (q_r f41 x 5) rep := Eq.trans (hF.r hx (by rw [kx]; rfl)) hr5
    have z52 : q_ir (q_r f41 x 6) now := Eq.trans (hF.r hx (by rw [kx]; rfl)) hr6
    have z53 : q_ir (q_r f41 x 7) dr := Eq.trans (hF.r hx (by rw [kx]; rfl)) hr7
    have z54 : q_ir (q_r f41 x 8) sv := Eq.trans (hF.r hx (by rw [kx]; rfl)) hr8
    have z55 : q_ir (q_r f41 fc 0) tr := Eq.trans (hF.r hfc (by rw [kfc]; rfl)) hr9
    have z56 : q_ir (q_r f41 so 0) ba := Eq.trans (hF.r hso (by rw [kso]; rfl)) hr10
    have z57 : q_ir (q_r f41 dr 0) nds := Eq.trans (hF.r hdr (by rw [kdr]; rfl)) hr11
    have z58 : q_ir (q_r f41 hist 0) ka := Eq.trans (hF.r hhist (by rw [khist]; rfl)) hr12
    have z59 : q_ir (q_r f41 now 0) ndn := Eq.trans (hF.r hnow (by rw [know]; rfl)) hr13
    have z60 : q_ir (q_r f41 sv 0) nsv := Eq.trans (hF.r hsv (by rw [ksv]; rfl)) hr14
    have g61 : tk_vn K L 5 f41 now ndn nl9 := tk_vn_tr hvn (hF.z hnow (by rw [know]; rfl)) (fun a9 h9 k9 => hF.j h9 (by rw [k9]; rfl)) (fun i9 => hF.r hndn (by rw [kndn]; rfl))
    refine q_i2l cx ⟨by omega, by omega⟩ dL_send_12 ?_
    refine q_last (n := 1) cx hB hout kout (by decide) rfl rfl (by decide) (by decide) (by decide) rfl rfl dL_send_13 (fun H locs f62 ef62 z63 hB => ?_)
    have z64 : q_ir (q_r f62 x 0) so := by rw [ef62, q_setr (Or.inl (fun q => by rw [q, kout] at kx; exact absurd kx (by decide)))]; exact z46
    have z65 : q_ir (q_r f62 x 1) rd := by rw [ef62, q_setr (Or.inr (by decide))]; exact z47
    have z66 : q_ir (q_r f62 x 2) scr := by rw [ef62, q_setr (Or.inr (by decide))]; exact z48
    have z67 : q_ir (q_r f62 x 3) fc := by rw [ef62, q_setr (Or.inr (by decide))]; exact z49
    have z68 : q_ir (q_r f62 x 4) hist := by rw [ef62, q_setr (Or.inr (by decide))]; exact z50
    have z69 : q_ir (q_r f62 x 5) rep := by rw [ef62, q_setr (Or.inr (by decide))]; exact z51
    have z70 : q_ir (q_r f62 x 6) now := by rw [ef62, q_setr (Or.inr (by decide))]; exact z52
    have z71 : q_ir (q_r f62 x 7) dr := by rw [ef62, q_setr (Or.inr (by decide))]; exact z53
    have z72 : q_ir (q_r f62 x 8) sv := by rw [ef62, q_setr (Or.inr (by decide))]; exact z54
    have z73 : q_ir (q_r f62 fc 0) tr := by rw [ef62, q_setr (Or.inl (fun q => by rw [q, kout] at kfc; exact absurd kfc (by decide)))]; exact z55
    have z74 : q_ir (q_r f62 so 0) ba := by rw [ef62, q_setr (Or.inl (fun q => by rw [q, kout] at kso; exact absurd kso (by decide)))]; exact z56
    have z75 : q_ir (q_r f62 dr 0) nds := by rw [ef62, q_setr (Or.inl (fun q => by rw [q, kout] at kdr; exact absurd kdr (by decide)))]; exact z57
    have z76 : q_ir (q_r f62 hist 0) ka := by rw [ef62, q_setr (Or.inl (fun q => by rw [q, kout] at khist; exact absurd khist (by decide)))]; exact z58
    have z77 : q_ir (q_r f62 now 0) ndn := by rw [ef62, q_setr (Or.inl (fun q => by rw [q, kout] at know; exact absurd know (by decide)))]; exact z59
    have z78 : q_ir (q_r f62 sv 0) nsv := by rw [ef62, q_setr (Or.inl (fun q => by rw [q, kout] at ksv; exact absurd ksv (by decide)))]; exact z60
    have g79 : tk_vn K L 5 f62 now ndn nl9 := tk_vn_tr g61 (by rw [ef62, q_setz (Or.inr (by decide))]) (fun a9 h9 k9 => by rw [ef62, q_setj (Or.inl (fun q => by rw [q, kout] at k9; exact absurd k9 (by decide)))]) (fun i9 => by rw [ef62, q_setr (Or.inl (fun q => by rw [q, kout] at kndn; exact absurd kndn (by decide)))])
    have g80 : tk_vk K L f62 hist ka now ndn := tk_vk_tr g45 (by rw [ef62, q_setz (Or.inr (by decide))]) (by rw [ef62, q_setz (Or.inr (by decide))]) (by rw [ef62, q_setz (Or.inr (by decide))]) (fun a9 h9 k9 => by rw [ef62, q_setj (Or.inl (fun q => by rw [q, kout] at k9; exact absurd k9 (by decide)))]) (fun i9 => by rw [ef62, q_setr (Or.inl (fun q => by rw [q, kout] at kndn; exact absurd kndn (by decide)))]) (fun a9 h9 k9 => by rw [ef62, q_setz (Or.inl (fun q => by rw [q, kout] at k9; exact absurd k9 (by decide)))]) (fun a9 h9 k9 => by rw [ef62, q_setj (Or.inl (fun q => by rw [q, kout] at k9; exact absurd k9 (by decide)))]) (fun i9 => by rw [ef62, q_setr (Or.inl (fun q => by rw [q, kout] at kka; exact absurd kka (by decide)))]) (fun a9 h9 k9 => by rw [ef62, q_setr (Or.inl (fun q => by rw [q, kout] at k9; exact absurd k9 (by decide)))]) (fun a9 h9 k9 i9 => by rw [ef62, q_setr (Or.inl (fun q => by rw [q, kout] at k9; exact absurd k9 (by decide)))])
    refine lv_goto (tgt := 29) cx.1 cx.2.1 dL_send_14 (by decide) ?_
    refine q_iconst cx dL_send_29 ?_
    refine W.widen (k := 3) (n := 18) (by decide) (by decide) ?_
    refine q_iret cx hr hlk hB dL_send_30 ⟨by decide, by decide⟩ ?_
    exact ⟨(by decide), (by decide), g80⟩
set_option maxHeartbeats 4000000 in
set_option maxRecDepth 100000 in
theorem f_wsetShift (l : Launch) (g : q_G) (ad : Nat → Nat) {K : Nat → Nat} {L : List Nat} (hN : L.Nodup) {f : Nat → va_E} (hT : q_Ty g K L f) (hfl : l.stackTraces = false) (nl9 : List (List Int)) (x : Nat) (hx : x ∈ L) (kx : K x = 11) (a0 : Int) (la0 : (-2147483648) ≤ a0) (ua0 : a0 ≤ 2147483647) (b0 : Int) (lb0 : (-2147483648) ≤ b0) (ub0 : b0 ≤ 2147483647) (out : Nat) (hout : out ∈ L) (kout : K out = 168) (so : Nat) (hso : so ∈ L) (kso : K so = 8) (rd : Nat) (hrd : rd ∈ L) (krd : K rd = 9) (scr : Nat) (hscr : scr ∈ L) (kscr : K scr = 7) (fc : Nat) (hfc : fc ∈ L) (kfc : K fc = 1) (hist : Nat) (hhist : hist ∈ L) (khist : K hist = 2) (rep : Nat) (hrep : rep ∈ L) (krep : K rep = 6) (now : Nat) (hnow : now ∈ L) (know : K now = 10) (dr : Nat) (hdr : dr ∈ L) (kdr : K dr = 13) (sv : Nat) (hsv : sv ∈ L) (ksv : K sv = 14) (tr : Nat) (htr : tr ∈ L) (ktr : K tr = 15) (ba : Nat) (hba : ba ∈ L) (kba : K ba = 142) (nds : Nat) (hnds : nds ∈ L) (knds : K nds = 111) (ka : Nat) (hka : ka ∈ L) (kka : K ka = 140) (ndn : Nat) (hndn : ndn ∈ L) (kndn : K ndn = 110) (nsv : Nat) (hnsv : nsv ∈ L) (knsv : K nsv = 112) (hr0 : q_ir (q_r f x 0) so) (hr1 : q_ir (q_r f x 1) rd) (hr2 : q_ir (q_r f x 2) scr) (hr3 : q_ir (q_r f x 3) fc) (hr4 : q_ir (q_r f x 4) hist) (hr5 : q_ir (q_r f x 5) rep) (hr6 : q_ir (q_r f x 6) now) (hr7 : q_ir (q_r f x 7) dr) (hr8 : q_ir (q_r f x 8) sv) (hr9 : q_ir (q_r f fc 0) tr) (hr10 : q_ir (q_r f so 0) ba) (hr11 : q_ir (q_r f dr 0) nds) (hr12 : q_ir (q_r f hist 0) ka) (hr13 : q_ir (q_r f now 0) ndn) (hr14 : q_ir (q_r f sv 0) nsv) (hvn : tk_vn K L 5 f now ndn nl9) (hvk : tk_vk K L f hist ka now ndn) : q_Wt l g ad K L yL_setShift cL_setShift 5 (some .int) [(0, 10, 13, 35), (0, 10, 17, 19)] 8 126 2 12 [.ref x, .int (q_i a0), .int (q_i b0), .ref out] f [(2, 1, 2), (5, 3, 3), (16, 3, 12), (20, 0, 8), (24, 0, 4), (28, 0, 7), (168, 0, 0)] (q_Pi (fun (z : Int) (f1 : Nat → va_E) => 0 ≤ z ∧ z ≤ 3 ∧ (tk_vk K L f1 hist ka now ndn))) := by
  refine q_wofb (by decide +kernel) hN hT (Nat.le_of_ble_eq_true rfl) ?_
  intro p e s m below meth c ls cx hr hlk htab hX hB hl
  have hl : lv_has ls 5 [(0, .ref x), (1, .int (q_i a0)), (2, .int (q_i b0)), (3, .ref out)] := hl
  obtain ⟨H, hH⟩ : ∃ H : Heap, H = s.heap := ⟨_, rfl⟩
  obtain ⟨locs, hlocs⟩ : ∃ z : List Loc, z = [] := ⟨_, rfl⟩
  rw [← hH, ← hlocs] at hB
  rw [← hH, ← hlocs]
  refine q_ald_n cx dL_setShift_0 rfl (lv_at hl 3 rfl) ?_
  refine q_iconst cx dL_setShift_1 ?_
  refine q_ald_n cx dL_setShift_2 rfl (lv_at hl 0 rfl) ?_
  refine q_ild_n cx dL_setShift_3 rfl (lv_at hl 1 rfl) ?_
  refine q_ild_n cx dL_setShift_4 rfl (lv_at hl 2 rfl) ?_
  refine q_cXV (As := [.int (q_i a0), .int (q_i b0)]) (rest := [.int (q_i 0), .ref out]) cx hX hB (fun _ h => h) (fun _ h _ => h) hN hx kx (by decide) rfl (f_xsetShift l g ad hN hB.2.1 hfl nl9 x hx kx a0 (by omega) (by omega) b0 (by omega) (by omega) so hso kso rd hrd krd scr hscr kscr fc hfc kfc hist hhist khist rep hrep krep now hnow know dr hdr kdr sv hsv ksv tr htr ktr ba hba kba nds hnds knds ka hka kka ndn hndn kndn nsv hnsv knsv hr0 hr1 hr2 hr3 hr4 hr5 hr6 hr7 hr8 hr9 hr10 hr11 hr12 hr13 hr14 hvn hvk) q_cL_92 q_dX11_setShift (by decide) rfl rfl hl.1 rfl (Nat.le_of_ble_eq_true rfl) dL_setShift_5 (fun E9 ce9 q9 H locs f44 hex hF hB hcell hcv hcl => ?_) (fun v9 H locs f41 h43 hF hB => ?_)
  · rcases hex with ⟨rfl, rfl⟩ | ⟨rfl, rfl⟩
    · refine vx_catch (E := "java/lang/IndexOutOfBoundsException") (name := "java/lang/IndexOutOfBoundsException") cx.2.2.2.1 [] ⟨0, 10, 13, 35⟩ [⟨0, 10, 17, 19⟩] (htab.trans rfl) (q_pnil) (by decide) (by decide) (cx.2.2.2.2 _ q_h1225) (va_Nw.use rfl (hX.2.2.2.1 (.castable "java/lang/IndexOutOfBoundsException" "java/lang/IndexOutOfBoundsException") (by decide +kernel))) hcell hcv hcl ?_
      refine lv_astore (lv' := [(4, .ref q9), (0, .ref x), (1, .int (q_i a0)), (2, .int (q_i b0)), (3, .ref out)]) cx.1 cx.2.1 dL_setShift_13 hl (by decide) rfl (fun ls hl => ?_)
      refine q_iconst cx dL_setShift_15 ?_
      refine W.widen (k := 2) (n := 12) (by decide) (by decide) ?_
      refine q_iret cx hr hlk hB dL_setShift_16 ⟨by decide, by decide⟩ ?_
      exact ⟨(by decide), (by decide), hvk⟩
    · refine vx_catch (E := "java/lang/IllegalArgumentException") (name := "java/lang/IllegalArgumentException") cx.2.2.2.1 [⟨0, 10, 13, 35⟩] ⟨0, 10, 17, 19⟩ [] (htab.trans rfl) (q_pcons (Or.inr ⟨by decide, "java/lang/IndexOutOfBoundsException", cx.2.2.2.2 _ q_h1225, hX.2.2.2.2.1 ("java/lang/IllegalArgumentException", "java/lang/IndexOutOfBoundsException") (by decide)⟩) (q_pnil)) (by decide) (by decide) (cx.2.2.2.2 _ q_h875) (va_Nw.use rfl (hX.2.2.2.1 (.castable "java/lang/IllegalArgumentException" "java/lang/IllegalArgumentException") (by decide +kernel))) hcell hcv hcl ?_
      refine lv_astore (lv' := [(4, .ref q9), (0, .ref x), (1, .int (q_i a0)), (2, .int (q_i b0)), (3, .ref out)]) cx.1 cx.2.1 dL_setShift_17 hl (by decide) rfl (fun ls hl => ?_)
      refine q_iconst cx dL_setShift_19 ?_
      refine W.widen (k := 2) (n := 12) (by decide) (by decide) ?_
      refine q_iret cx hr hlk hB dL_setShift_20 ⟨by decide, by decide⟩ ?_
      exact ⟨(by decide), (by decide), hvk⟩
  · obtain ⟨y42, rfl, ry42, h43⟩ := h43
    refine W.eq (g2 := F0 m 8 ls [.int (q_i y42), .int (q_i 0), .ref out]) rfl ?_
    have g45 := h43
    have z46 : q_ir (q_r f41 x 0) so := Eq.trans (hF.r hx (by rw [kx]; rfl)) hr0
    have z47 : q_ir (q_r f41 x 1) rd := Eq.trans (hF.r hx (by rw [kx]; rfl)) hr1
    have z48 : q_ir (q_r f41 x 2) scr := Eq.trans (hF.r hx (by rw [kx]; rfl)) hr2
    have z49 : q_ir (q_r f41 x 3) fc := Eq.trans (hF.r hx (by rw [kx]; rfl)) hr3
    have z50 : q_ir (q_r f41 x 4) hist := Eq.trans (hF.r hx (by rw [kx]; rfl)) hr4
    have z51 : q_ir (q_r f41 x 5) rep := Eq.trans (hF.r hx (by rw [kx]; rfl)) hr5
    have z52 : q_ir (q_r f41 x 6) now := Eq.trans (hF.r hx (by rw [kx]; rfl)) hr6
    have z53 : q_ir (q_r f41 x 7) dr := Eq.trans (hF.r hx (by rw [kx]; rfl)) hr7
    have z54 : q_ir (q_r f41 x 8) sv := Eq.trans (hF.r hx (by rw [kx]; rfl)) hr8
    have z55 : q_ir (q_r f41 fc 0) tr := Eq.trans (hF.r hfc (by rw [kfc]; rfl)) hr9
    have z56 : q_ir (q_r f41 so 0) ba := Eq.trans (hF.r hso (by rw [kso]; rfl)) hr10
    have z57 : q_ir (q_r f41 dr 0) nds := Eq.trans (hF.r hdr (by rw [kdr]; rfl)) hr11
    have z58 : q_ir (q_r f41 hist 0) ka := Eq.trans (hF.r hhist (by rw [khist]; rfl)) hr12
    have z59 : q_ir (q_r f41 now 0) ndn := Eq.trans (hF.r hnow (by rw [know]; rfl)) hr13
    have z60 : q_ir (q_r f41 sv 0) nsv := Eq.trans (hF.r hsv (by rw [ksv]; rfl)) hr14
    have g61 : tk_vn K L 5 f41 now ndn nl9 := tk_vn_tr hvn (hF.z hnow (by rw [know]; rfl)) (fun a9 h9 k9 => hF.j h9 (by rw [k9]; rfl)) (fun i9 => hF.r hndn (by rw [kndn]; rfl))
    refine q_i2l cx ⟨by omega, by omega⟩ dL_setShift_8 ?_
    refine q_last (n := 1) cx hB hout kout (by decide) rfl rfl (by decide) (by decide) (by decide) rfl rfl dL_setShift_9 (fun H locs f62 ef62 z63 hB => ?_)
    have z64 : q_ir (q_r f62 x 0) so := by rw [ef62, q_setr (Or.inl (fun q => by rw [q, kout] at kx; exact absurd kx (by decide)))]; exact z46
    have z65 : q_ir (q_r f62 x 1) rd := by rw [ef62, q_setr (Or.inr (by decide))]; exact z47
    have z66 : q_ir (q_r f62 x 2) scr := by rw [ef62, q_setr (Or.inr (by decide))]; exact z48
    have z67 : q_ir (q_r f62 x 3) fc := by rw [ef62, q_setr (Or.inr (by decide))]; exact z49
    have z68 : q_ir (q_r f62 x 4) hist := by rw [ef62, q_setr (Or.inr (by decide))]; exact z50
    have z69 : q_ir (q_r f62 x 5) rep := by rw [ef62, q_setr (Or.inr (by decide))]; exact z51
    have z70 : q_ir (q_r f62 x 6) now := by rw [ef62, q_setr (Or.inr (by decide))]; exact z52
    have z71 : q_ir (q_r f62 x 7) dr := by rw [ef62, q_setr (Or.inr (by decide))]; exact z53
    have z72 : q_ir (q_r f62 x 8) sv := by rw [ef62, q_setr (Or.inr (by decide))]; exact z54
    have z73 : q_ir (q_r f62 fc 0) tr := by rw [ef62, q_setr (Or.inl (fun q => by rw [q, kout] at kfc; exact absurd kfc (by decide)))]; exact z55
    have z74 : q_ir (q_r f62 so 0) ba := by rw [ef62, q_setr (Or.inl (fun q => by rw [q, kout] at kso; exact absurd kso (by decide)))]; exact z56
    have z75 : q_ir (q_r f62 dr 0) nds := by rw [ef62, q_setr (Or.inl (fun q => by rw [q, kout] at kdr; exact absurd kdr (by decide)))]; exact z57
    have z76 : q_ir (q_r f62 hist 0) ka := by rw [ef62, q_setr (Or.inl (fun q => by rw [q, kout] at khist; exact absurd khist (by decide)))]; exact z58
    have z77 : q_ir (q_r f62 now 0) ndn := by rw [ef62, q_setr (Or.inl (fun q => by rw [q, kout] at know; exact absurd know (by decide)))]; exact z59
    have z78 : q_ir (q_r f62 sv 0) nsv := by rw [ef62, q_setr (Or.inl (fun q => by rw [q, kout] at ksv; exact absurd ksv (by decide)))]; exact z60
    have g79 : tk_vn K L 5 f62 now ndn nl9 := tk_vn_tr g61 (by rw [ef62, q_setz (Or.inr (by decide))]) (fun a9 h9 k9 => by rw [ef62, q_setj (Or.inl (fun q => by rw [q, kout] at k9; exact absurd k9 (by decide)))]) (fun i9 => by rw [ef62, q_setr (Or.inl (fun q => by rw [q, kout] at kndn; exact absurd kndn (by decide)))])
    have g80 : tk_vk K L f62 hist ka now ndn := tk_vk_tr g45 (by rw [ef62, q_setz (Or.inr (by decide))]) (by rw [ef62, q_setz (Or.inr (by decide))]) (by rw [ef62, q_setz (Or.inr (by decide))]) (fun a9 h9 k9 => by rw [ef62, q_setj (Or.inl (fun q => by rw [q, kout] at k9; exact absurd k9 (by decide)))]) (fun i9 => by rw [ef62, q_setr (Or.inl (fun q => by rw [q, kout] at kndn; exact absurd kndn (by decide)))]) (fun a9 h9 k9 => by rw [ef62, q_setz (Or.inl (fun q => by rw [q, kout] at k9; exact absurd k9 (by decide)))]) (fun a9 h9 k9 => by rw [ef62, q_setj (Or.inl (fun q => by rw [q, kout] at k9; exact absurd k9 (by decide)))]) (fun i9 => by rw [ef62, q_setr (Or.inl (fun q => by rw [q, kout] at kka; exact absurd kka (by decide)))]) (fun a9 h9 k9 => by rw [ef62, q_setr (Or.inl (fun q => by rw [q, kout] at k9; exact absurd k9 (by decide)))]) (fun a9 h9 k9 i9 => by rw [ef62, q_setr (Or.inl (fun q => by rw [q, kout] at k9; exact absurd k9 (by decide)))])
    refine lv_goto (tgt := 21) cx.1 cx.2.1 dL_setShift_10 (by decide) ?_
    refine q_iconst cx dL_setShift_21 ?_
    refine W.widen (k := 2) (n := 12) (by decide) (by decide) ?_
    refine q_iret cx hr hlk hB dL_setShift_22 ⟨by decide, by decide⟩ ?_
    exact ⟨(by decide), (by decide), g80⟩
set_option maxHeartbeats 4000000 in
set_option maxRecDepth 100000 in
theorem f_wwatch (l : Launch) (g : q_G) (ad : Nat → Nat) {K : Nat → Nat} {L : List Nat} (hN : L.Nodup) {f : Nat → va_E} (hT : q_Ty g K L f) (hfl : l.stackTraces = false) (nl9 : List (List Int)) (x : Nat) (hx : x ∈ L) (kx : K x = 11) (a0 : Int) (la0 : (-2147483648) ≤ a0) (ua0 : a0 ≤ 2147483647) (b0 : Int) (lb0 : (-2147483648) ≤ b0) (ub0 : b0 ≤ 2147483647) (z0 : Int) (lz0 : 0 ≤ z0) (uz0 : z0 ≤ 1) (out : Nat) (hout : out ∈ L) (kout : K out = 168) (so : Nat) (hso : so ∈ L) (kso : K so = 8) (rd : Nat) (hrd : rd ∈ L) (krd : K rd = 9) (scr : Nat) (hscr : scr ∈ L) (kscr : K scr = 7) (fc : Nat) (hfc : fc ∈ L) (kfc : K fc = 1) (hist : Nat) (hhist : hist ∈ L) (khist : K hist = 2) (rep : Nat) (hrep : rep ∈ L) (krep : K rep = 6) (now : Nat) (hnow : now ∈ L) (know : K now = 10) (dr : Nat) (hdr : dr ∈ L) (kdr : K dr = 13) (sv : Nat) (hsv : sv ∈ L) (ksv : K sv = 14) (tr : Nat) (htr : tr ∈ L) (ktr : K tr = 15) (ba : Nat) (hba : ba ∈ L) (kba : K ba = 142) (nds : Nat) (hnds : nds ∈ L) (knds : K nds = 111) (ka : Nat) (hka : ka ∈ L) (kka : K ka = 140) (ndn : Nat) (hndn : ndn ∈ L) (kndn : K ndn = 110) (nsv : Nat) (hnsv : nsv ∈ L) (knsv : K nsv = 112) (hr0 : q_ir (q_r f x 0) so) (hr1 : q_ir (q_r f x 1) rd) (hr2 : q_ir (q_r f x 2) scr) (hr3 : q_ir (q_r f x 3) fc) (hr4 : q_ir (q_r f x 4) hist) (hr5 : q_ir (q_r f x 5) rep) (hr6 : q_ir (q_r f x 6) now) (hr7 : q_ir (q_r f x 7) dr) (hr8 : q_ir (q_r f x 8) sv) (hr9 : q_ir (q_r f fc 0) tr) (hr10 : q_ir (q_r f so 0) ba) (hr11 : q_ir (q_r f dr 0) nds) (hr12 : q_ir (q_r f hist 0) ka) (hr13 : q_ir (q_r f now 0) ndn) (hr14 : q_ir (q_r f sv 0) nsv) (hvn : tk_vn K L 5 f now ndn nl9) (hvk : tk_vk K L f hist ka now ndn) : q_Wt l g ad K L yL_watch cL_watch 6 (some .int) [(0, 19, 22, 35), (0, 19, 26, 19)] 8 126 2 12 [.ref x, .int (q_i a0), .int (q_i b0), .int (q_i z0), .ref out] f [(2, 1, 2), (5, 1, 1), (16, 3, 12), (20, 0, 8), (24, 0, 4), (28, 0, 7), (168, 0, 0)] (q_Pi (fun (z : Int) (f1 : Nat → va_E) => 0 ≤ z ∧ z ≤ 3 ∧ (tk_vk K L f1 hist ka now ndn))) := by
  refine q_wofb (by decide +kernel) hN hT (Nat.le_of_ble_eq_true rfl) ?_
  intro p e s m below meth c ls cx hr hlk htab hX hB hl
  have hl : lv_has ls 6 [(0, .ref x), (1, .int (q_i a0)), (2, .int (q_i b0)), (3, .int (q_i z0)), (4, .ref out)] := hl
  obtain ⟨H, hH⟩ : ∃ H : Heap, H = s.heap := ⟨_, rfl⟩
  obtain ⟨locs, hlocs⟩ : ∃ z : List Loc, z = [] := ⟨_, rfl⟩
  rw [← hH, ← hlocs] at hB
  rw [← hH, ← hlocs]
  refine lv_aload cx.1 cx.2.1 dL_watch_0 (lv_at hl 4 rfl) ?_
  refine q_iconst cx dL_watch_2 ?_
  refine q_ald_n cx dL_watch_3 rfl (lv_at hl 0 rfl) ?_
  refine q_ild_n cx dL_watch_4 rfl (lv_at hl 1 rfl) ?_
  refine q_ild_n cx dL_watch_5 rfl (lv_at hl 2 rfl) ?_
  refine q_ild_n cx dL_watch_6 rfl (lv_at hl 3 rfl) ?_
  refine q_cXV (As := [.int (q_i a0), .int (q_i b0), .int (q_i z0)]) (rest := [.int (q_i 0), .ref out]) cx hX hB (fun _ h => h) (fun _ h _ => h) hN hx kx (by decide) rfl (f_xwatch l g ad hN hB.2.1 hfl nl9 x hx kx a0 (by omega) (by omega) b0 (by omega) (by omega) z0 (by omega) (by omega) so hso kso rd hrd krd scr hscr kscr fc hfc kfc hist hhist khist rep hrep krep now hnow know dr hdr kdr sv hsv ksv tr htr ktr ba hba kba nds hnds knds ka hka kka ndn hndn kndn nsv hnsv knsv hr0 hr1 hr2 hr3 hr4 hr5 hr6 hr7 hr8 hr9 hr10 hr11 hr12 hr13 hr14 hvn hvk) q_cL_95 q_dX11_watch (by decide) rfl rfl hl.1 rfl (Nat.le_of_ble_eq_true rfl) dL_watch_7 (fun E9 ce9 q9 H locs f64 hex hF hB hcell hcv hcl => ?_) (fun v9 H locs f61 h63 hF hB => ?_)
  · rcases hex with ⟨rfl, rfl⟩ | ⟨rfl, rfl⟩
    · refine vx_catch (E := "java/lang/IndexOutOfBoundsException") (name := "java/lang/IndexOutOfBoundsException") cx.2.2.2.1 [] ⟨0, 19, 22, 35⟩ [⟨0, 19, 26, 19⟩] (htab.trans rfl) (q_pnil) (by decide) (by decide) (cx.2.2.2.2 _ q_h1225) (va_Nw.use rfl (hX.2.2.2.1 (.castable "java/lang/IndexOutOfBoundsException" "java/lang/IndexOutOfBoundsException") (by decide +kernel))) hcell hcv hcl ?_
      refine lv_astore (lv' := [(5, .ref q9), (0, .ref x), (1, .int (q_i a0)), (2, .int (q_i b0)), (3, .int (q_i z0)), (4, .ref out)]) cx.1 cx.2.1 dL_watch_22 hl (by decide) rfl (fun ls hl => ?_)
      refine q_iconst cx dL_watch_24 ?_
      refine W.widen (k := 2) (n := 12) (by decide) (by decide) ?_
      refine q_iret cx hr hlk hB dL_watch_25 ⟨by decide, by decide⟩ ?_
      exact ⟨(by decide), (by decide), hvk⟩
    · refine vx_catch (E := "java/lang/IllegalArgumentException") (name := "java/lang/IllegalArgumentException") cx.2.2.2.1 [⟨0, 19, 22, 35⟩] ⟨0, 19, 26, 19⟩ [] (htab.trans rfl) (q_pcons (Or.inr ⟨by decide, "java/lang/IndexOutOfBoundsException", cx.2.2.2.2 _ q_h1225, hX.2.2.2.2.1 ("java/lang/IllegalArgumentException", "java/lang/IndexOutOfBoundsException") (by decide)⟩) (q_pnil)) (by decide) (by decide) (cx.2.2.2.2 _ q_h875) (va_Nw.use rfl (hX.2.2.2.1 (.castable "java/lang/IllegalArgumentException" "java/lang/IllegalArgumentException") (by decide +kernel))) hcell hcv hcl ?_
      refine lv_astore (lv' := [(5, .ref q9), (0, .ref x), (1, .int (q_i a0)), (2, .int (q_i b0)), (3, .int (q_i z0)), (4, .ref out)]) cx.1 cx.2.1 dL_watch_26 hl (by decide) rfl (fun ls hl => ?_)
      refine q_iconst cx dL_watch_28 ?_
      refine W.widen (k := 2) (n := 12) (by decide) (by decide) ?_
      refine q_iret cx hr hlk hB dL_watch_29 ⟨by decide, by decide⟩ ?_
      exact ⟨(by decide), (by decide), hvk⟩
  · obtain ⟨y62, rfl, ry62, h63⟩ := h63
    refine W.eq (g2 := F0 m 10 ls [.int (q_i y62), .int (q_i 0), .ref out]) rfl ?_
    obtain ⟨ly62, uy62, g65⟩ := h63
    have z66 : q_ir (q_r f61 x 0) so := Eq.trans (hF.r hx (by rw [kx]; rfl)) hr0
    have z67 : q_ir (q_r f61 x 1) rd := Eq.trans (hF.r hx (by rw [kx]; rfl)) hr1
    have z68 : q_ir (q_r f61 x 2) scr := Eq.trans (hF.r hx (by rw [kx]; rfl)) hr2
    have z69 : q_ir (q_r f61 x 3) fc := Eq.trans (hF.r hx (by rw [kx]; rfl)) hr3
    have z70 : q_ir (q_r f61 x 4) hist := Eq.trans (hF.r hx (by rw [kx]; rfl)) hr4
    have z71 : q_ir (q_r f61 x 5) rep := Eq.trans (hF.r hx (by rw [kx]; rfl)) hr5
    have z72 : q_ir (q_r f61 x 6) now := Eq.trans (hF.r hx (by rw [kx]; rfl)) hr6
    have z73 : q_ir (q_r f61 x 7) dr := Eq.trans (hF.r hx (by rw [kx]; rfl)) hr7
    have z74 : q_ir (q_r f61 x 8) sv := Eq.trans (hF.r hx (by rw [kx]; rfl)) hr8
    have z75 : q_ir (q_r f61 fc 0) tr := Eq.trans (hF.r hfc (by rw [kfc]; rfl)) hr9
    have z76 : q_ir (q_r f61 so 0) ba := Eq.trans (hF.r hso (by rw [kso]; rfl)) hr10
    have z77 : q_ir (q_r f61 dr 0) nds := Eq.trans (hF.r hdr (by rw [kdr]; rfl)) hr11
    have z78 : q_ir (q_r f61 hist 0) ka := Eq.trans (hF.r hhist (by rw [khist]; rfl)) hr12
    have z79 : q_ir (q_r f61 now 0) ndn := Eq.trans (hF.r hnow (by rw [know]; rfl)) hr13
    have z80 : q_ir (q_r f61 sv 0) nsv := Eq.trans (hF.r hsv (by rw [ksv]; rfl)) hr14
    have g81 : tk_vn K L 5 f61 now ndn nl9 := tk_vn_tr hvn (hF.z hnow (by rw [know]; rfl)) (fun a9 h9 k9 => hF.j h9 (by rw [k9]; rfl)) (fun i9 => hF.r hndn (by rw [kndn]; rfl))
    refine q_ifeq (tgt := 17) cx ⟨by omega, by omega⟩ dL_watch_10 (by decide) (fun c82 => ?_) (fun c82 => ?_)
    · refine q_lconst (z := 0) cx (by decide) dL_watch_17 ?_
      refine q_last (n := 1) cx hB hout kout (by decide) rfl rfl (by decide) (by decide) (by decide) rfl rfl dL_watch_18 (fun H locs f83 ef83 z84 hB => ?_)
      have z85 : q_ir (q_r f83 x 0) so := by rw [ef83, q_setr (Or.inl (fun q => by rw [q, kout] at kx; exact absurd kx (by decide)))]; exact z66
      have z86 : q_ir (q_r f83 x 1) rd := by rw [ef83, q_setr (Or.inr (by decide))]; exact z67
      have z87 : q_ir (q_r f83 x 2) scr := by rw [ef83, q_setr (Or.inr (by decide))]; exact z68
      have z88 : q_ir (q_r f83 x 3) fc := by rw [ef83, q_setr (Or.inr (by decide))]; exact z69
      have z89 : q_ir (q_r f83 x 4) hist := by rw [ef83, q_setr (Or.inr (by decide))]; exact z70
      have z90 : q_ir (q_r f83 x 5) rep := by rw [ef83, q_setr (Or.inr (by decide))]; exact z71
      have z91 : q_ir (q_r f83 x 6) now := by rw [ef83, q_setr (Or.inr (by decide))]; exact z72
      have z92 : q_ir (q_r f83 x 7) dr := by rw [ef83, q_setr (Or.inr (by decide))]; exact z73
      have z93 : q_ir (q_r f83 x 8) sv := by rw [ef83, q_setr (Or.inr (by decide))]; exact z74
      have z94 : q_ir (q_r f83 fc 0) tr := by rw [ef83, q_setr (Or.inl (fun q => by rw [q, kout] at kfc; exact absurd kfc (by decide)))]; exact z75
      have z95 : q_ir (q_r f83 so 0) ba := by rw [ef83, q_setr (Or.inl (fun q => by rw [q, kout] at kso; exact absurd kso (by decide)))]; exact z76
      have z96 : q_ir (q_r f83 dr 0) nds := by rw [ef83, q_setr (Or.inl (fun q => by rw [q, kout] at kdr; exact absurd kdr (by decide)))]; exact z77
      have z97 : q_ir (q_r f83 hist 0) ka := by rw [ef83, q_setr (Or.inl (fun q => by rw [q, kout] at khist; exact absurd khist (by decide)))]; exact z78
      have z98 : q_ir (q_r f83 now 0) ndn := by rw [ef83, q_setr (Or.inl (fun q => by rw [q, kout] at know; exact absurd know (by decide)))]; exact z79
      have z99 : q_ir (q_r f83 sv 0) nsv := by rw [ef83, q_setr (Or.inl (fun q => by rw [q, kout] at ksv; exact absurd ksv (by decide)))]; exact z80
      have g100 : tk_vn K L 5 f83 now ndn nl9 := tk_vn_tr g81 (by rw [ef83, q_setz (Or.inr (by decide))]) (fun a9 h9 k9 => by rw [ef83, q_setj (Or.inl (fun q => by rw [q, kout] at k9; exact absurd k9 (by decide)))]) (fun i9 => by rw [ef83, q_setr (Or.inl (fun q => by rw [q, kout] at kndn; exact absurd kndn (by decide)))])
      have g101 : tk_vk K L f83 hist ka now ndn := tk_vk_tr g65 (by rw [ef83, q_setz (Or.inr (by decide))]) (by rw [ef83, q_setz (Or.inr (by decide))]) (by rw [ef83, q_setz (Or.inr (by decide))]) (fun a9 h9 k9 => by rw [ef83, q_setj (Or.inl (fun q => by rw [q, kout] at k9; exact absurd k9 (by decide)))]) (fun i9 => by rw [ef83, q_setr (Or.inl (fun q => by rw [q, kout] at kndn; exact absurd kndn (by decide)))]) (fun a9 h9 k9 => by rw [ef83, q_setz (Or.inl (fun q => by rw [q, kout] at k9; exact absurd k9 (by decide)))]) (fun a9 h9 k9 => by rw [ef83, q_setj (Or.inl (fun q => by rw [q, kout] at k9; exact absurd k9 (by decide)))]) (fun i9 => by rw [ef83, q_setr (Or.inl (fun q => by rw [q, kout] at kka; exact absurd kka (by decide)))]) (fun a9 h9 k9 => by rw [ef83, q_setr (Or.inl (fun q => by rw [q, kout] at k9; exact absurd k9 (by decide)))]) (fun a9 h9 k9 i9 => by rw [ef83, q_setr (Or.inl (fun q => by rw [q, kout] at k9; exact absurd k9 (by decide)))])
      refine lv_goto (tgt := 30) cx.1 cx.2.1 dL_watch_19 (by decide) ?_
      refine q_iconst cx dL_watch_30 ?_
      refine W.widen (k := 2) (n := 12) (by decide) (by decide) ?_
      refine q_iret cx hr hlk hB dL_watch_31 ⟨by decide, by decide⟩ ?_
      exact ⟨(by decide), (by decide), g101⟩
    · refine q_lconst (z := 1) cx (by decide) dL_watch_13 ?_
      refine lv_goto (tgt := 18) cx.1 cx.2.1 dL_watch_14 (by decide) ?_
      refine q_last (n := 1) cx hB hout kout (by decide) rfl rfl (by decide) (by decide) (by decide) rfl rfl dL_watch_18 (fun H locs f102 ef102 z103 hB => ?_)
      have z104 : q_ir (q_r f102 x 0) so := by rw [ef102, q_setr (Or.inl (fun q => by rw [q, kout] at kx; exact absurd kx (by decide)))]; exact z66
      have z105 : q_ir (q_r f102 x 1) rd := by rw [ef102, q_setr (Or.inr (by decide))]; exact z67
      have z106 : q_ir (q_r f102 x 2) scr := by rw [ef102, q_setr (Or.inr (by decide))]; exact z68
      have z107 : q_ir (q_r f102 x 3) fc := by rw [ef102, q_setr (Or.inr (by decide))]; exact z69
      have z108 : q_ir (q_r f102 x 4) hist := by rw [ef102, q_setr (Or.inr (by decide))]; exact z70
      have z109 : q_ir (q_r f102 x 5) rep := by rw [ef102, q_setr (Or.inr (by decide))]; exact z71
      have z110 : q_ir (q_r f102 x 6) now := by rw [ef102, q_setr (Or.inr (by decide))]; exact z72
      have z111 : q_ir (q_r f102 x 7) dr := by rw [ef102, q_setr (Or.inr (by decide))]; exact z73
      have z112 : q_ir (q_r f102 x 8) sv := by rw [ef102, q_setr (Or.inr (by decide))]; exact z74
      have z113 : q_ir (q_r f102 fc 0) tr := by rw [ef102, q_setr (Or.inl (fun q => by rw [q, kout] at kfc; exact absurd kfc (by decide)))]; exact z75
      have z114 : q_ir (q_r f102 so 0) ba := by rw [ef102, q_setr (Or.inl (fun q => by rw [q, kout] at kso; exact absurd kso (by decide)))]; exact z76
      have z115 : q_ir (q_r f102 dr 0) nds := by rw [ef102, q_setr (Or.inl (fun q => by rw [q, kout] at kdr; exact absurd kdr (by decide)))]; exact z77
      have z116 : q_ir (q_r f102 hist 0) ka := by rw [ef102, q_setr (Or.inl (fun q => by rw [q, kout] at khist; exact absurd khist (by decide)))]; exact z78
      have z117 : q_ir (q_r f102 now 0) ndn := by rw [ef102, q_setr (Or.inl (fun q => by rw [q, kout] at know; exact absurd know (by decide)))]; exact z79
      have z118 : q_ir (q_r f102 sv 0) nsv := by rw [ef102, q_setr (Or.inl (fun q => by rw [q, kout] at ksv; exact absurd ksv (by decide)))]; exact z80
      have g119 : tk_vn K L 5 f102 now ndn nl9 := tk_vn_tr g81 (by rw [ef102, q_setz (Or.inr (by decide))]) (fun a9 h9 k9 => by rw [ef102, q_setj (Or.inl (fun q => by rw [q, kout] at k9; exact absurd k9 (by decide)))]) (fun i9 => by rw [ef102, q_setr (Or.inl (fun q => by rw [q, kout] at kndn; exact absurd kndn (by decide)))])
      have g120 : tk_vk K L f102 hist ka now ndn := tk_vk_tr g65 (by rw [ef102, q_setz (Or.inr (by decide))]) (by rw [ef102, q_setz (Or.inr (by decide))]) (by rw [ef102, q_setz (Or.inr (by decide))]) (fun a9 h9 k9 => by rw [ef102, q_setj (Or.inl (fun q => by rw [q, kout] at k9; exact absurd k9 (by decide)))]) (fun i9 => by rw [ef102, q_setr (Or.inl (fun q => by rw [q, kout] at kndn; exact absurd kndn (by decide)))]) (fun a9 h9 k9 => by rw [ef102, q_setz (Or.inl (fun q => by rw [q, kout] at k9; exact absurd k9 (by decide)))]) (fun a9 h9 k9 => by rw [ef102, q_setj (Or.inl (fun q => by rw [q, kout] at k9; exact absurd k9 (by decide)))]) (fun i9 => by rw [ef102, q_setr (Or.inl (fun q => by rw [q, kout] at kka; exact absurd kka (by decide)))]) (fun a9 h9 k9 => by rw [ef102, q_setr (Or.inl (fun q => by rw [q, kout] at k9; exact absurd k9 (by decide)))]) (fun a9 h9 k9 i9 => by rw [ef102, q_setr (Or.inl (fun q => by rw [q, kout] at k9; exact absurd k9 (by decide)))])
      refine lv_goto (tgt := 30) cx.1 cx.2.1 dL_watch_19 (by decide) ?_
      refine q_iconst cx dL_watch_30 ?_
      refine W.widen (k := 2) (n := 12) (by decide) (by decide) ?_
      refine q_iret cx hr hlk hB dL_watch_31 ⟨by decide, by decide⟩ ?_
      exact ⟨(by decide), (by decide), g120⟩
set_option maxHeartbeats 4000000 in
set_option maxRecDepth 100000 in
theorem f_wsetBorn (l : Launch) (g : q_G) (ad : Nat → Nat) {K : Nat → Nat} {L : List Nat} (hN : L.Nodup) {f : Nat → va_E} (hT : q_Ty g K L f) (hfl : l.stackTraces = false) (nl9 : List (List Int)) (x : Nat) (hx : x ∈ L) (kx : K x = 11) (a0 : Int) (la0 : (-2147483648) ≤ a0) (ua0 : a0 ≤ 2147483647) (b0 : Int) (lb0 : (-2147483648) ≤ b0) (ub0 : b0 ≤ 2147483647) (out : Nat) (hout : out ∈ L) (kout : K out = 168) (so : Nat) (hso : so ∈ L) (kso : K so = 8) (rd : Nat) (hrd : rd ∈ L) (krd : K rd = 9) (scr : Nat) (hscr : scr ∈ L) (kscr : K scr = 7) (fc : Nat) (hfc : fc ∈ L) (kfc : K fc = 1) (hist : Nat) (hhist : hist ∈ L) (khist : K hist = 2) (rep : Nat) (hrep : rep ∈ L) (krep : K rep = 6) (now : Nat) (hnow : now ∈ L) (know : K now = 10) (dr : Nat) (hdr : dr ∈ L) (kdr : K dr = 13) (sv : Nat) (hsv : sv ∈ L) (ksv : K sv = 14) (tr : Nat) (htr : tr ∈ L) (ktr : K tr = 15) (ba : Nat) (hba : ba ∈ L) (kba : K ba = 142) (nds : Nat) (hnds : nds ∈ L) (knds : K nds = 111) (ka : Nat) (hka : ka ∈ L) (kka : K ka = 140) (ndn : Nat) (hndn : ndn ∈ L) (kndn : K ndn = 110) (nsv : Nat) (hnsv : nsv ∈ L) (knsv : K nsv = 112) (hr0 : q_ir (q_r f x 0) so) (hr1 : q_ir (q_r f x 1) rd) (hr2 : q_ir (q_r f x 2) scr) (hr3 : q_ir (q_r f x 3) fc) (hr4 : q_ir (q_r f x 4) hist) (hr5 : q_ir (q_r f x 5) rep) (hr6 : q_ir (q_r f x 6) now) (hr7 : q_ir (q_r f x 7) dr) (hr8 : q_ir (q_r f x 8) sv) (hr9 : q_ir (q_r f fc 0) tr) (hr10 : q_ir (q_r f so 0) ba) (hr11 : q_ir (q_r f dr 0) nds) (hr12 : q_ir (q_r f hist 0) ka) (hr13 : q_ir (q_r f now 0) ndn) (hr14 : q_ir (q_r f sv 0) nsv) (hvn : tk_vn K L 5 f now ndn nl9) (hvk : tk_vk K L f hist ka now ndn) : q_Wt l g ad K L yL_setBorn cL_setBorn 5 (some .int) [(0, 10, 13, 35), (0, 10, 17, 19)] 8 126 2 12 [.ref x, .int (q_i a0), .int (q_i b0), .ref out] f [(2, 1, 2), (5, 2, 2), (16, 3, 12), (20, 0, 8), (24, 0, 4), (28, 0, 7), (168, 0, 0)] (q_Pi (fun (z : Int) (f1 : Nat → va_E) => 0 ≤ z ∧ z ≤ 3 ∧ (tk_vk K L f1 hist ka now ndn))) := by
  refine q_wofb (by decide +kernel) hN hT (Nat.le_of_ble_eq_true rfl) ?_
  intro p e s m below meth c ls cx hr hlk htab hX hB hl
  have hl : lv_has ls 5 [(0, .ref x), (1, .int (q_i a0)), (2, .int (q_i b0)), (3, .ref out)] := hl
  obtain ⟨H, hH⟩ : ∃ H : Heap, H = s.heap := ⟨_, rfl⟩
  obtain ⟨locs, hlocs⟩ : ∃ z : List Loc, z = [] := ⟨_, rfl⟩
  rw [← hH, ← hlocs] at hB
  rw [← hH, ← hlocs]
  refine q_ald_n cx dL_setBorn_0 rfl (lv_at hl 3 rfl) ?_
  refine q_iconst cx dL_setBorn_1 ?_
  refine q_ald_n cx dL_setBorn_2 rfl (lv_at hl 0 rfl) ?_
  refine q_ild_n cx dL_setBorn_3 rfl (lv_at hl 1 rfl) ?_
  refine q_ild_n cx dL_setBorn_4 rfl (lv_at hl 2 rfl) ?_
  refine q_cXV (As := [.int (q_i a0), .int (q_i b0)]) (rest := [.int (q_i 0), .ref out]) cx hX hB (fun _ h => h) (fun _ h _ => h) hN hx kx (by decide) rfl (f_xsetBorn l g ad hN hB.2.1 hfl nl9 x hx kx a0 (by omega) (by omega) b0 (by omega) (by omega) so hso kso rd hrd krd scr hscr kscr fc hfc kfc hist hhist khist rep hrep krep now hnow know dr hdr kdr sv hsv ksv tr htr ktr ba hba kba nds hnds knds ka hka kka ndn hndn kndn nsv hnsv knsv hr0 hr1 hr2 hr3 hr4 hr5 hr6 hr7 hr8 hr9 hr10 hr11 hr12 hr13 hr14 hvn hvk) q_cL_99 q_dX11_setBorn (by decide) rfl rfl hl.1 rfl (Nat.le_of_ble_eq_true rfl) dL_setBorn_5 (fun E9 ce9 q9 H locs f44 hex hF hB hcell hcv hcl => ?_) (fun v9 H locs f41 h43 hF hB => ?_)
  · rcases hex with ⟨rfl, rfl⟩ | ⟨rfl, rfl⟩
    · refine vx_catch (E := "java/lang/IndexOutOfBoundsException") (name := "java/lang/IndexOutOfBoundsException") cx.2.2.2.1 [] ⟨0, 10, 13, 35⟩ [⟨0, 10, 17, 19⟩] (htab.trans rfl) (q_pnil) (by decide) (by decide) (cx.2.2.2.2 _ q_h1225) (va_Nw.use rfl (hX.2.2.2.1 (.castable "java/lang/IndexOutOfBoundsException" "java/lang/IndexOutOfBoundsException") (by decide +kernel))) hcell hcv hcl ?_
      refine lv_astore (lv' := [(4, .ref q9), (0, .ref x), (1, .int (q_i a0)), (2, .int (q_i b0)), (3, .ref out)]) cx.1 cx.2.1 dL_setBorn_13 hl (by decide) rfl (fun ls hl => ?_)
      refine q_iconst cx dL_setBorn_15 ?_
      refine W.widen (k := 2) (n := 12) (by decide) (by decide) ?_
      refine q_iret cx hr hlk hB dL_setBorn_16 ⟨by decide, by decide⟩ ?_
      exact ⟨(by decide), (by decide), hvk⟩
    · refine vx_catch (E := "java/lang/IllegalArgumentException") (name := "java/lang/IllegalArgumentException") cx.2.2.2.1 [⟨0, 10, 13, 35⟩] ⟨0, 10, 17, 19⟩ [] (htab.trans rfl) (q_pcons (Or.inr ⟨by decide, "java/lang/IndexOutOfBoundsException", cx.2.2.2.2 _ q_h1225, hX.2.2.2.2.1 ("java/lang/IllegalArgumentException", "java/lang/IndexOutOfBoundsException") (by decide)⟩) (q_pnil)) (by decide) (by decide) (cx.2.2.2.2 _ q_h875) (va_Nw.use rfl (hX.2.2.2.1 (.castable "java/lang/IllegalArgumentException" "java/lang/IllegalArgumentException") (by decide +kernel))) hcell hcv hcl ?_
      refine lv_astore (lv' := [(4, .ref q9), (0, .ref x), (1, .int (q_i a0)), (2, .int (q_i b0)), (3, .ref out)]) cx.1 cx.2.1 dL_setBorn_17 hl (by decide) rfl (fun ls hl => ?_)
      refine q_iconst cx dL_setBorn_19 ?_
      refine W.widen (k := 2) (n := 12) (by decide) (by decide) ?_
      refine q_iret cx hr hlk hB dL_setBorn_20 ⟨by decide, by decide⟩ ?_
      exact ⟨(by decide), (by decide), hvk⟩
  · obtain ⟨y42, rfl, ry42, h43⟩ := h43
    refine W.eq (g2 := F0 m 8 ls [.int (q_i y42), .int (q_i 0), .ref out]) rfl ?_
    have g45 := h43
    have z46 : q_ir (q_r f41 x 0) so := Eq.trans (hF.r hx (by rw [kx]; rfl)) hr0
    have z47 : q_ir (q_r f41 x 1) rd := Eq.trans (hF.r hx (by rw [kx]; rfl)) hr1
    have z48 : q_ir (q_r f41 x 2) scr := Eq.trans (hF.r hx (by rw [kx]; rfl)) hr2
    have z49 : q_ir (q_r f41 x 3) fc := Eq.trans (hF.r hx (by rw [kx]; rfl)) hr3
    have z50 : q_ir (q_r f41 x 4) hist := Eq.trans (hF.r hx (by rw [kx]; rfl)) hr4
    have z51 : q_ir (q_r f41 x 5) rep := Eq.trans (hF.r hx (by rw [kx]; rfl)) hr5
    have z52 : q_ir (q_r f41 x 6) now := Eq.trans (hF.r hx (by rw [kx]; rfl)) hr6
    have z53 : q_ir (q_r f41 x 7) dr := Eq.trans (hF.r hx (by rw [kx]; rfl)) hr7
    have z54 : q_ir (q_r f41 x 8) sv := Eq.trans (hF.r hx (by rw [kx]; rfl)) hr8
    have z55 : q_ir (q_r f41 fc 0) tr := Eq.trans (hF.r hfc (by rw [kfc]; rfl)) hr9
    have z56 : q_ir (q_r f41 so 0) ba := Eq.trans (hF.r hso (by rw [kso]; rfl)) hr10
    have z57 : q_ir (q_r f41 dr 0) nds := Eq.trans (hF.r hdr (by rw [kdr]; rfl)) hr11
    have z58 : q_ir (q_r f41 hist 0) ka := Eq.trans (hF.r hhist (by rw [khist]; rfl)) hr12
    have z59 : q_ir (q_r f41 now 0) ndn := Eq.trans (hF.r hnow (by rw [know]; rfl)) hr13
    have z60 : q_ir (q_r f41 sv 0) nsv := Eq.trans (hF.r hsv (by rw [ksv]; rfl)) hr14
    have g61 : tk_vn K L 5 f41 now ndn nl9 := tk_vn_tr hvn (hF.z hnow (by rw [know]; rfl)) (fun a9 h9 k9 => hF.j h9 (by rw [k9]; rfl)) (fun i9 => hF.r hndn (by rw [kndn]; rfl))
    refine q_i2l cx ⟨by omega, by omega⟩ dL_setBorn_8 ?_
    refine q_last (n := 1) cx hB hout kout (by decide) rfl rfl (by decide) (by decide) (by decide) rfl rfl dL_setBorn_9 (fun H locs f62 ef62 z63 hB => ?_)
    have z64 : q_ir (q_r f62 x 0) so := by rw [ef62, q_setr (Or.inl (fun q => by rw [q, kout] at kx; exact absurd kx (by decide)))]; exact z46
    have z65 : q_ir (q_r f62 x 1) rd := by rw [ef62, q_setr (Or.inr (by decide))]; exact z47
    have z66 : q_ir (q_r f62 x 2) scr := by rw [ef62, q_setr (Or.inr (by decide))]; exact z48
    have z67 : q_ir (q_r f62 x 3) fc := by rw [ef62, q_setr (Or.inr (by decide))]; exact z49
    have z68 : q_ir (q_r f62 x 4) hist := by rw [ef62, q_setr (Or.inr (by decide))]; exact z50
    have z69 : q_ir (q_r f62 x 5) rep := by rw [ef62, q_setr (Or.inr (by decide))]; exact z51
    have z70 : q_ir (q_r f62 x 6) now := by rw [ef62, q_setr (Or.inr (by decide))]; exact z52
    have z71 : q_ir (q_r f62 x 7) dr := by rw [ef62, q_setr (Or.inr (by decide))]; exact z53
    have z72 : q_ir (q_r f62 x 8) sv := by rw [ef62, q_setr (Or.inr (by decide))]; exact z54
    have z73 : q_ir (q_r f62 fc 0) tr := by rw [ef62, q_setr (Or.inl (fun q => by rw [q, kout] at kfc; exact absurd kfc (by decide)))]; exact z55
    have z74 : q_ir (q_r f62 so 0) ba := by rw [ef62, q_setr (Or.inl (fun q => by rw [q, kout] at kso; exact absurd kso (by decide)))]; exact z56
    have z75 : q_ir (q_r f62 dr 0) nds := by rw [ef62, q_setr (Or.inl (fun q => by rw [q, kout] at kdr; exact absurd kdr (by decide)))]; exact z57
    have z76 : q_ir (q_r f62 hist 0) ka := by rw [ef62, q_setr (Or.inl (fun q => by rw [q, kout] at khist; exact absurd khist (by decide)))]; exact z58
    have z77 : q_ir (q_r f62 now 0) ndn := by rw [ef62, q_setr (Or.inl (fun q => by rw [q, kout] at know; exact absurd know (by decide)))]; exact z59
    have z78 : q_ir (q_r f62 sv 0) nsv := by rw [ef62, q_setr (Or.inl (fun q => by rw [q, kout] at ksv; exact absurd ksv (by decide)))]; exact z60
    have g79 : tk_vn K L 5 f62 now ndn nl9 := tk_vn_tr g61 (by rw [ef62, q_setz (Or.inr (by decide))]) (fun a9 h9 k9 => by rw [ef62, q_setj (Or.inl (fun q => by rw [q, kout] at k9; exact absurd k9 (by decide)))]) (fun i9 => by rw [ef62, q_setr (Or.inl (fun q => by rw [q, kout] at kndn; exact absurd kndn (by decide)))])
    have g80 : tk_vk K L f62 hist ka now ndn := tk_vk_tr g45 (by rw [ef62, q_setz (Or.inr (by decide))]) (by rw [ef62, q_setz (Or.inr (by decide))]) (by rw [ef62, q_setz (Or.inr (by decide))]) (fun a9 h9 k9 => by rw [ef62, q_setj (Or.inl (fun q => by rw [q, kout] at k9; exact absurd k9 (by decide)))]) (fun i9 => by rw [ef62, q_setr (Or.inl (fun q => by rw [q, kout] at kndn; exact absurd kndn (by decide)))]) (fun a9 h9 k9 => by rw [ef62, q_setz (Or.inl (fun q => by rw [q, kout] at k9; exact absurd k9 (by decide)))]) (fun a9 h9 k9 => by rw [ef62, q_setj (Or.inl (fun q => by rw [q, kout] at k9; exact absurd k9 (by decide)))]) (fun i9 => by rw [ef62, q_setr (Or.inl (fun q => by rw [q, kout] at kka; exact absurd kka (by decide)))]) (fun a9 h9 k9 => by rw [ef62, q_setr (Or.inl (fun q => by rw [q, kout] at k9; exact absurd k9 (by decide)))]) (fun a9 h9 k9 i9 => by rw [ef62, q_setr (Or.inl (fun q => by rw [q, kout] at k9; exact absurd k9 (by decide)))])
    refine lv_goto (tgt := 21) cx.1 cx.2.1 dL_setBorn_10 (by decide) ?_
    refine q_iconst cx dL_setBorn_21 ?_
    refine W.widen (k := 2) (n := 12) (by decide) (by decide) ?_
    refine q_iret cx hr hlk hB dL_setBorn_22 ⟨by decide, by decide⟩ ?_
    exact ⟨(by decide), (by decide), g80⟩
set_option maxHeartbeats 4000000 in
set_option maxRecDepth 100000 in
theorem f_wcharge (l : Launch) (g : q_G) (ad : Nat → Nat) {K : Nat → Nat} {L : List Nat} (hN : L.Nodup) {f : Nat → va_E} (hT : q_Ty g K L f) (hfl : l.stackTraces = false) (nl9 : List (List Int)) (x : Nat) (hx : x ∈ L) (kx : K x = 11) (a0 : Int) (la0 : (-2147483648) ≤ a0) (ua0 : a0 ≤ 2147483647) (b0 : Int) (lb0 : (-2147483648) ≤ b0) (ub0 : b0 ≤ 2147483647) (out : Nat) (hout : out ∈ L) (kout : K out = 168) (so : Nat) (hso : so ∈ L) (kso : K so = 8) (rd : Nat) (hrd : rd ∈ L) (krd : K rd = 9) (scr : Nat) (hscr : scr ∈ L) (kscr : K scr = 7) (fc : Nat) (hfc : fc ∈ L) (kfc : K fc = 1) (hist : Nat) (hhist : hist ∈ L) (khist : K hist = 2) (rep : Nat) (hrep : rep ∈ L) (krep : K rep = 6) (now : Nat) (hnow : now ∈ L) (know : K now = 10) (dr : Nat) (hdr : dr ∈ L) (kdr : K dr = 13) (sv : Nat) (hsv : sv ∈ L) (ksv : K sv = 14) (tr : Nat) (htr : tr ∈ L) (ktr : K tr = 15) (ba : Nat) (hba : ba ∈ L) (kba : K ba = 142) (nds : Nat) (hnds : nds ∈ L) (knds : K nds = 111) (ka : Nat) (hka : ka ∈ L) (kka : K ka = 140) (ndn : Nat) (hndn : ndn ∈ L) (kndn : K ndn = 110) (nsv : Nat) (hnsv : nsv ∈ L) (knsv : K nsv = 112) (hr0 : q_ir (q_r f x 0) so) (hr1 : q_ir (q_r f x 1) rd) (hr2 : q_ir (q_r f x 2) scr) (hr3 : q_ir (q_r f x 3) fc) (hr4 : q_ir (q_r f x 4) hist) (hr5 : q_ir (q_r f x 5) rep) (hr6 : q_ir (q_r f x 6) now) (hr7 : q_ir (q_r f x 7) dr) (hr8 : q_ir (q_r f x 8) sv) (hr9 : q_ir (q_r f fc 0) tr) (hr10 : q_ir (q_r f so 0) ba) (hr11 : q_ir (q_r f dr 0) nds) (hr12 : q_ir (q_r f hist 0) ka) (hr13 : q_ir (q_r f now 0) ndn) (hr14 : q_ir (q_r f sv 0) nsv) (hvn : tk_vn K L 5 f now ndn nl9) (hvk : tk_vk K L f hist ka now ndn) : q_Wt l g ad K L yL_charge cL_charge 5 (some .int) [(0, 10, 13, 35), (0, 10, 17, 19)] 8 125 2 12 [.ref x, .int (q_i a0), .int (q_i b0), .ref out] f [(2, 1, 2), (5, 4, 4), (16, 3, 12), (20, 0, 8), (24, 0, 4), (28, 0, 7), (168, 0, 0)] (q_Pi (fun (z : Int) (f1 : Nat → va_E) => 0 ≤ z ∧ z ≤ 3 ∧ (tk_vk K L f1 hist ka now ndn))) := by
  refine q_wofb (by decide +kernel) hN hT (Nat.le_of_ble_eq_true rfl) ?_
  intro p e s m below meth c ls cx hr hlk htab hX hB hl
  have hl : lv_has ls 5 [(0, .ref x), (1, .int (q_i a0)), (2, .int (q_i b0)), (3, .ref out)] := hl
  obtain ⟨H, hH⟩ : ∃ H : Heap, H = s.heap := ⟨_, rfl⟩
  obtain ⟨locs, hlocs⟩ : ∃ z : List Loc, z = [] := ⟨_, rfl⟩
  rw [← hH, ← hlocs] at hB
  rw [← hH, ← hlocs]
  refine q_ald_n cx dL_charge_0 rfl (lv_at hl 3 rfl) ?_
  refine q_iconst cx dL_charge_1 ?_
  refine q_ald_n cx dL_charge_2 rfl (lv_at hl 0 rfl) ?_
  refine q_ild_n cx dL_charge_3 rfl (lv_at hl 1 rfl) ?_
  refine q_ild_n cx dL_charge_4 rfl (lv_at hl 2 rfl) ?_
  refine q_cXV (As := [.int (q_i a0), .int (q_i b0)]) (rest := [.int (q_i 0), .ref out]) cx hX hB (fun _ h => h) (fun _ h _ => h) hN hx kx (by decide) rfl (f_xcharge l g ad hN hB.2.1 hfl nl9 x hx kx a0 (by omega) (by omega) b0 (by omega) (by omega) so hso kso rd hrd krd scr hscr kscr fc hfc kfc hist hhist khist rep hrep krep now hnow know dr hdr kdr sv hsv ksv tr htr ktr ba hba kba nds hnds knds ka hka kka ndn hndn kndn nsv hnsv knsv hr0 hr1 hr2 hr3 hr4 hr5 hr6 hr7 hr8 hr9 hr10 hr11 hr12 hr13 hr14 hvn hvk) q_cL_102 q_dX11_charge (by decide) rfl rfl hl.1 rfl (Nat.le_of_ble_eq_true rfl) dL_charge_5 (fun E9 ce9 q9 H locs f44 hex hF hB hcell hcv hcl => ?_) (fun v9 H locs f41 h43 hF hB => ?_)
  · rcases hex with ⟨rfl, rfl⟩ | ⟨rfl, rfl⟩
    · refine vx_catch (E := "java/lang/IndexOutOfBoundsException") (name := "java/lang/IndexOutOfBoundsException") cx.2.2.2.1 [] ⟨0, 10, 13, 35⟩ [⟨0, 10, 17, 19⟩] (htab.trans rfl) (q_pnil) (by decide) (by decide) (cx.2.2.2.2 _ q_h1225) (va_Nw.use rfl (hX.2.2.2.1 (.castable "java/lang/IndexOutOfBoundsException" "java/lang/IndexOutOfBoundsException") (by decide +kernel))) hcell hcv hcl ?_
      refine lv_astore (lv' := [(4, .ref q9), (0, .ref x), (1, .int (q_i a0)), (2, .int (q_i b0)), (3, .ref out)]) cx.1 cx.2.1 dL_charge_13 hl (by decide) rfl (fun ls hl => ?_)
      refine q_iconst cx dL_charge_15 ?_
      refine W.widen (k := 2) (n := 12) (by decide) (by decide) ?_
      refine q_iret cx hr hlk hB dL_charge_16 ⟨by decide, by decide⟩ ?_
      exact ⟨(by decide), (by decide), hvk⟩
    · refine vx_catch (E := "java/lang/IllegalArgumentException") (name := "java/lang/IllegalArgumentException") cx.2.2.2.1 [⟨0, 10, 13, 35⟩] ⟨0, 10, 17, 19⟩ [] (htab.trans rfl) (q_pcons (Or.inr ⟨by decide, "java/lang/IndexOutOfBoundsException", cx.2.2.2.2 _ q_h1225, hX.2.2.2.2.1 ("java/lang/IllegalArgumentException", "java/lang/IndexOutOfBoundsException") (by decide)⟩) (q_pnil)) (by decide) (by decide) (cx.2.2.2.2 _ q_h875) (va_Nw.use rfl (hX.2.2.2.1 (.castable "java/lang/IllegalArgumentException" "java/lang/IllegalArgumentException") (by decide +kernel))) hcell hcv hcl ?_
      refine lv_astore (lv' := [(4, .ref q9), (0, .ref x), (1, .int (q_i a0)), (2, .int (q_i b0)), (3, .ref out)]) cx.1 cx.2.1 dL_charge_17 hl (by decide) rfl (fun ls hl => ?_)
      refine q_iconst cx dL_charge_19 ?_
      refine W.widen (k := 2) (n := 12) (by decide) (by decide) ?_
      refine q_iret cx hr hlk hB dL_charge_20 ⟨by decide, by decide⟩ ?_
      exact ⟨(by decide), (by decide), hvk⟩
  · obtain ⟨y42, rfl, ry42, h43⟩ := h43
    refine W.eq (g2 := F0 m 8 ls [.int (q_i y42), .int (q_i 0), .ref out]) rfl ?_
    have g45 := h43
    have z46 : q_ir (q_r f41 x 0) so := Eq.trans (hF.r hx (by rw [kx]; rfl)) hr0
    have z47 : q_ir (q_r f41 x 1) rd := Eq.trans (hF.r hx (by rw [kx]; rfl)) hr1
    have z48 : q_ir (q_r f41 x 2) scr := Eq.trans (hF.r hx (by rw [kx]; rfl)) hr2
    have z49 : q_ir (q_r f41 x 3) fc := Eq.trans (hF.r hx (by rw [kx]; rfl)) hr3
    have z50 : q_ir (q_r f41 x 4) hist := Eq.trans (hF.r hx (by rw [kx]; rfl)) hr4
    have z51 : q_ir (q_r f41 x 5) rep := Eq.trans (hF.r hx (by rw [kx]; rfl)) hr5
    have z52 : q_ir (q_r f41 x 6) now := Eq.trans (hF.r hx (by rw [kx]; rfl)) hr6
    have z53 : q_ir (q_r f41 x 7) dr := Eq.trans (hF.r hx (by rw [kx]; rfl)) hr7
    have z54 : q_ir (q_r f41 x 8) sv := Eq.trans (hF.r hx (by rw [kx]; rfl)) hr8
    have z55 : q_ir (q_r f41 fc 0) tr := Eq.trans (hF.r hfc (by rw [kfc]; rfl)) hr9
    have z56 : q_ir (q_r f41 so 0) ba := Eq.trans (hF.r hso (by rw [kso]; rfl)) hr10
    have z57 : q_ir (q_r f41 dr 0) nds := Eq.trans (hF.r hdr (by rw [kdr]; rfl)) hr11
    have z58 : q_ir (q_r f41 hist 0) ka := Eq.trans (hF.r hhist (by rw [khist]; rfl)) hr12
    have z59 : q_ir (q_r f41 now 0) ndn := Eq.trans (hF.r hnow (by rw [know]; rfl)) hr13
    have z60 : q_ir (q_r f41 sv 0) nsv := Eq.trans (hF.r hsv (by rw [ksv]; rfl)) hr14
    have g61 : tk_vn K L 5 f41 now ndn nl9 := tk_vn_tr hvn (hF.z hnow (by rw [know]; rfl)) (fun a9 h9 k9 => hF.j h9 (by rw [k9]; rfl)) (fun i9 => hF.r hndn (by rw [kndn]; rfl))
    refine q_i2l cx ⟨by omega, by omega⟩ dL_charge_8 ?_
    refine q_last (n := 1) cx hB hout kout (by decide) rfl rfl (by decide) (by decide) (by decide) rfl rfl dL_charge_9 (fun H locs f62 ef62 z63 hB => ?_)
    have z64 : q_ir (q_r f62 x 0) so := by rw [ef62, q_setr (Or.inl (fun q => by rw [q, kout] at kx; exact absurd kx (by decide)))]; exact z46
    have z65 : q_ir (q_r f62 x 1) rd := by rw [ef62, q_setr (Or.inr (by decide))]; exact z47
    have z66 : q_ir (q_r f62 x 2) scr := by rw [ef62, q_setr (Or.inr (by decide))]; exact z48
    have z67 : q_ir (q_r f62 x 3) fc := by rw [ef62, q_setr (Or.inr (by decide))]; exact z49
    have z68 : q_ir (q_r f62 x 4) hist := by rw [ef62, q_setr (Or.inr (by decide))]; exact z50
    have z69 : q_ir (q_r f62 x 5) rep := by rw [ef62, q_setr (Or.inr (by decide))]; exact z51
    have z70 : q_ir (q_r f62 x 6) now := by rw [ef62, q_setr (Or.inr (by decide))]; exact z52
    have z71 : q_ir (q_r f62 x 7) dr := by rw [ef62, q_setr (Or.inr (by decide))]; exact z53
    have z72 : q_ir (q_r f62 x 8) sv := by rw [ef62, q_setr (Or.inr (by decide))]; exact z54
    have z73 : q_ir (q_r f62 fc 0) tr := by rw [ef62, q_setr (Or.inl (fun q => by rw [q, kout] at kfc; exact absurd kfc (by decide)))]; exact z55
    have z74 : q_ir (q_r f62 so 0) ba := by rw [ef62, q_setr (Or.inl (fun q => by rw [q, kout] at kso; exact absurd kso (by decide)))]; exact z56
    have z75 : q_ir (q_r f62 dr 0) nds := by rw [ef62, q_setr (Or.inl (fun q => by rw [q, kout] at kdr; exact absurd kdr (by decide)))]; exact z57
    have z76 : q_ir (q_r f62 hist 0) ka := by rw [ef62, q_setr (Or.inl (fun q => by rw [q, kout] at khist; exact absurd khist (by decide)))]; exact z58
    have z77 : q_ir (q_r f62 now 0) ndn := by rw [ef62, q_setr (Or.inl (fun q => by rw [q, kout] at know; exact absurd know (by decide)))]; exact z59
    have z78 : q_ir (q_r f62 sv 0) nsv := by rw [ef62, q_setr (Or.inl (fun q => by rw [q, kout] at ksv; exact absurd ksv (by decide)))]; exact z60
    have g79 : tk_vn K L 5 f62 now ndn nl9 := tk_vn_tr g61 (by rw [ef62, q_setz (Or.inr (by decide))]) (fun a9 h9 k9 => by rw [ef62, q_setj (Or.inl (fun q => by rw [q, kout] at k9; exact absurd k9 (by decide)))]) (fun i9 => by rw [ef62, q_setr (Or.inl (fun q => by rw [q, kout] at kndn; exact absurd kndn (by decide)))])
    have g80 : tk_vk K L f62 hist ka now ndn := tk_vk_tr g45 (by rw [ef62, q_setz (Or.inr (by decide))]) (by rw [ef62, q_setz (Or.inr (by decide))]) (by rw [ef62, q_setz (Or.inr (by decide))]) (fun a9 h9 k9 => by rw [ef62, q_setj (Or.inl (fun q => by rw [q, kout] at k9; exact absurd k9 (by decide)))]) (fun i9 => by rw [ef62, q_setr (Or.inl (fun q => by rw [q, kout] at kndn; exact absurd kndn (by decide)))]) (fun a9 h9 k9 => by rw [ef62, q_setz (Or.inl (fun q => by rw [q, kout] at k9; exact absurd k9 (by decide)))]) (fun a9 h9 k9 => by rw [ef62, q_setj (Or.inl (fun q => by rw [q, kout] at k9; exact absurd k9 (by decide)))]) (fun i9 => by rw [ef62, q_setr (Or.inl (fun q => by rw [q, kout] at kka; exact absurd kka (by decide)))]) (fun a9 h9 k9 => by rw [ef62, q_setr (Or.inl (fun q => by rw [q, kout] at k9; exact absurd k9 (by decide)))]) (fun a9 h9 k9 i9 => by rw [ef62, q_setr (Or.inl (fun q => by rw [q, kout] at k9; exact absurd k9 (by decide)))])
    refine lv_goto (tgt := 21) cx.1 cx.2.1 dL_charge_10 (by decide) ?_
    refine q_iconst cx dL_charge_21 ?_
    refine W.widen (k := 2) (n := 12) (by decide) (by decide) ?_
    refine q_iret cx hr hlk hB dL_charge_22 ⟨by decide, by decide⟩ ?_
    exact ⟨(by decide), (by decide), g80⟩
set_option maxHeartbeats 4000000 in
set_option maxRecDepth 100000 in
theorem f_wsetMiss (l : Launch) (g : q_G) (ad : Nat → Nat) {K : Nat → Nat} {L : List Nat} (hN : L.Nodup) {f : Nat → va_E} (hT : q_Ty g K L f) (hfl : l.stackTraces = false) (nl9 : List (List Int)) (x : Nat) (hx : x ∈ L) (kx : K x = 11) (a0 : Int) (la0 : (-2147483648) ≤ a0) (ua0 : a0 ≤ 2147483647) (out : Nat) (hout : out ∈ L) (kout : K out = 168) (so : Nat) (hso : so ∈ L) (kso : K so = 8) (rd : Nat) (hrd : rd ∈ L) (krd : K rd = 9) (scr : Nat) (hscr : scr ∈ L) (kscr : K scr = 7) (fc : Nat) (hfc : fc ∈ L) (kfc : K fc = 1) (hist : Nat) (hhist : hist ∈ L) (khist : K hist = 2) (rep : Nat) (hrep : rep ∈ L) (krep : K rep = 6) (now : Nat) (hnow : now ∈ L) (know : K now = 10) (dr : Nat) (hdr : dr ∈ L) (kdr : K dr = 13) (sv : Nat) (hsv : sv ∈ L) (ksv : K sv = 14) (tr : Nat) (htr : tr ∈ L) (ktr : K tr = 15) (ba : Nat) (hba : ba ∈ L) (kba : K ba = 142) (nds : Nat) (hnds : nds ∈ L) (knds : K nds = 111) (ka : Nat) (hka : ka ∈ L) (kka : K ka = 140) (ndn : Nat) (hndn : ndn ∈ L) (kndn : K ndn = 110) (nsv : Nat) (hnsv : nsv ∈ L) (knsv : K nsv = 112) (hr0 : q_ir (q_r f x 0) so) (hr1 : q_ir (q_r f x 1) rd) (hr2 : q_ir (q_r f x 2) scr) (hr3 : q_ir (q_r f x 3) fc) (hr4 : q_ir (q_r f x 4) hist) (hr5 : q_ir (q_r f x 5) rep) (hr6 : q_ir (q_r f x 6) now) (hr7 : q_ir (q_r f x 7) dr) (hr8 : q_ir (q_r f x 8) sv) (hr9 : q_ir (q_r f fc 0) tr) (hr10 : q_ir (q_r f so 0) ba) (hr11 : q_ir (q_r f dr 0) nds) (hr12 : q_ir (q_r f hist 0) ka) (hr13 : q_ir (q_r f now 0) ndn) (hr14 : q_ir (q_r f sv 0) nsv) (hvn : tk_vn K L 5 f now ndn nl9) (hvk : tk_vk K L f hist ka now ndn) : q_Wt l g ad K L yL_setMiss cL_setMiss 4 (some .int) [(0, 9, 12, 19)] 7 104 1 6 [.ref x, .int (q_i a0), .ref out] f [(2, 1, 2), (10, 10, 10), (16, 3, 12), (20, 0, 8), (24, 0, 4), (28, 0, 7), (168, 0, 0)] (q_Pi (fun (z : Int) (f1 : Nat → va_E) => 0 ≤ z ∧ z ≤ 3 ∧ (tk_vk K L f1 hist ka now ndn))) := by
  refine q_wofb (by decide +kernel) hN hT (Nat.le_of_ble_eq_true rfl) ?_
  intro p e s m below meth c ls cx hr hlk htab hX hB hl
  have hl : lv_has ls 4 [(0, .ref x), (1, .int (q_i a0)), (2, .ref out)] := hl
  obtain ⟨H, hH⟩ : ∃ H : Heap, H = s.heap := ⟨_, rfl⟩
  obtain ⟨locs, hlocs⟩ : ∃ z : List Loc, z = [] := ⟨_, rfl⟩
  rw [← hH, ← hlocs] at hB
  rw [← hH, ← hlocs]
  refine q_ald_n cx dL_setMiss_0 rfl (lv_at hl 2 rfl) ?_
  refine q_iconst cx dL_setMiss_1 ?_
  refine q_ald_n cx dL_setMiss_2 rfl (lv_at hl 0 rfl) ?_
  refine q_ild_n cx dL_setMiss_3 rfl (lv_at hl 1 rfl) ?_
  refine q_cXV (As := [.int (q_i a0)]) (rest := [.int (q_i 0), .ref out]) cx hX hB (fun _ h => h) (fun _ h _ => h) hN hx kx (by decide) rfl (f_xsetMiss l g ad hN hB.2.1 hfl nl9 x hx kx a0 (by omega) (by omega) so hso kso rd hrd krd scr hscr kscr fc hfc kfc hist hhist khist rep hrep krep now hnow know dr hdr kdr sv hsv ksv tr htr ktr ba hba kba nds hnds knds ka hka kka ndn hndn kndn nsv hnsv knsv hr0 hr1 hr2 hr3 hr4 hr5 hr6 hr7 hr8 hr9 hr10 hr11 hr12 hr13 hr14 hvn hvk) q_cL_105 q_dX11_setMiss (by decide) rfl rfl hl.1 rfl (Nat.le_of_ble_eq_true rfl) dL_setMiss_4 (fun E9 ce9 q9 H locs f44 hex hF hB hcell hcv hcl => ?_) (fun v9 H locs f41 h43 hF hB => ?_)
  · rcases hex with ⟨rfl, rfl⟩
    · refine vx_catch (E := "java/lang/IllegalArgumentException") (name := "java/lang/IllegalArgumentException") cx.2.2.2.1 [] ⟨0, 9, 12, 19⟩ [] (htab.trans rfl) (q_pnil) (by decide) (by decide) (cx.2.2.2.2 _ q_h875) (va_Nw.use rfl (hX.2.2.2.1 (.castable "java/lang/IllegalArgumentException" "java/lang/IllegalArgumentException") (by decide +kernel))) hcell hcv hcl ?_
      refine lv_astore_n (lv' := [(3, .ref q9), (0, .ref x), (1, .int (q_i a0)), (2, .ref out)]) cx.1 cx.2.1 dL_setMiss_12 rfl hl (by decide) rfl (fun ls hl => ?_)
      refine q_iconst cx dL_setMiss_13 ?_
      refine W.widen (k := 1) (n := 6) (by decide) (by decide) ?_
      refine q_iret cx hr hlk hB dL_setMiss_14 ⟨by decide, by decide⟩ ?_
      exact ⟨(by decide), (by decide), hvk⟩
  · obtain ⟨y42, rfl, ry42, h43⟩ := h43
    refine W.eq (g2 := F0 m 7 ls [.int (q_i y42), .int (q_i 0), .ref out]) rfl ?_
    have g45 := h43
    have z46 : q_ir (q_r f41 x 0) so := Eq.trans (hF.r hx (by rw [kx]; rfl)) hr0
    have z47 : q_ir (q_r f41 x 1) rd := Eq.trans (hF.r hx (by rw [kx]; rfl)) hr1
    have z48 : q_ir (q_r f41 x 2) scr := Eq.trans (hF.r hx (by rw [kx]; rfl)) hr2
    have z49 : q_ir (q_r f41 x 3) fc := Eq.trans (hF.r hx (by rw [kx]; rfl)) hr3
    have z50 : q_ir (q_r f41 x 4) hist := Eq.trans (hF.r hx (by rw [kx]; rfl)) hr4
    have z51 : q_ir (q_r f41 x 5) rep := Eq.trans (hF.r hx (by rw [kx]; rfl)) hr5
    have z52 : q_ir (q_r f41 x 6) now := Eq.trans (hF.r hx (by rw [kx]; rfl)) hr6
    have z53 : q_ir (q_r f41 x 7) dr := Eq.trans (hF.r hx (by rw [kx]; rfl)) hr7
    have z54 : q_ir (q_r f41 x 8) sv := Eq.trans (hF.r hx (by rw [kx]; rfl)) hr8
    have z55 : q_ir (q_r f41 fc 0) tr := Eq.trans (hF.r hfc (by rw [kfc]; rfl)) hr9
    have z56 : q_ir (q_r f41 so 0) ba := Eq.trans (hF.r hso (by rw [kso]; rfl)) hr10
    have z57 : q_ir (q_r f41 dr 0) nds := Eq.trans (hF.r hdr (by rw [kdr]; rfl)) hr11
    have z58 : q_ir (q_r f41 hist 0) ka := Eq.trans (hF.r hhist (by rw [khist]; rfl)) hr12
    have z59 : q_ir (q_r f41 now 0) ndn := Eq.trans (hF.r hnow (by rw [know]; rfl)) hr13
    have z60 : q_ir (q_r f41 sv 0) nsv := Eq.trans (hF.r hsv (by rw [ksv]; rfl)) hr14
    have g61 : tk_vn K L 5 f41 now ndn nl9 := tk_vn_tr hvn (hF.z hnow (by rw [know]; rfl)) (fun a9 h9 k9 => hF.j h9 (by rw [k9]; rfl)) (fun i9 => hF.r hndn (by rw [kndn]; rfl))
    refine q_i2l cx ⟨by omega, by omega⟩ dL_setMiss_7 ?_
    refine q_last (n := 1) cx hB hout kout (by decide) rfl rfl (by decide) (by decide) (by decide) rfl rfl dL_setMiss_8 (fun H locs f62 ef62 z63 hB => ?_)
    have z64 : q_ir (q_r f62 x 0) so := by rw [ef62, q_setr (Or.inl (fun q => by rw [q, kout] at kx; exact absurd kx (by decide)))]; exact z46
    have z65 : q_ir (q_r f62 x 1) rd := by rw [ef62, q_setr (Or.inr (by decide))]; exact z47
    have z66 : q_ir (q_r f62 x 2) scr := by rw [ef62, q_setr (Or.inr (by decide))]; exact z48
    have z67 : q_ir (q_r f62 x 3) fc := by rw [ef62, q_setr (Or.inr (by decide))]; exact z49
    have z68 : q_ir (q_r f62 x 4) hist := by rw [ef62, q_setr (Or.inr (by decide))]; exact z50
    have z69 : q_ir (q_r f62 x 5) rep := by rw [ef62, q_setr (Or.inr (by decide))]; exact z51
    have z70 : q_ir (q_r f62 x 6) now := by rw [ef62, q_setr (Or.inr (by decide))]; exact z52
    have z71 : q_ir (q_r f62 x 7) dr := by rw [ef62, q_setr (Or.inr (by decide))]; exact z53
    have z72 : q_ir (q_r f62 x 8) sv := by rw [ef62, q_setr (Or.inr (by decide))]; exact z54
    have z73 : q_ir (q_r f62 fc 0) tr := by rw [ef62, q_setr (Or.inl (fun q => by rw [q, kout] at kfc; exact absurd kfc (by decide)))]; exact z55
    have z74 : q_ir (q_r f62 so 0) ba := by rw [ef62, q_setr (Or.inl (fun q => by rw [q, kout] at kso; exact absurd kso (by decide)))]; exact z56
    have z75 : q_ir (q_r f62 dr 0) nds := by rw [ef62, q_setr (Or.inl (fun q => by rw [q, kout] at kdr; exact absurd kdr (by decide)))]; exact z57
    have z76 : q_ir (q_r f62 hist 0) ka := by rw [ef62, q_setr (Or.inl (fun q => by rw [q, kout] at khist; exact absurd khist (by decide)))]; exact z58
    have z77 : q_ir (q_r f62 now 0) ndn := by rw [ef62, q_setr (Or.inl (fun q => by rw [q, kout] at know; exact absurd know (by decide)))]; exact z59
    have z78 : q_ir (q_r f62 sv 0) nsv := by rw [ef62, q_setr (Or.inl (fun q => by rw [q, kout] at ksv; exact absurd ksv (by decide)))]; exact z60
    have g79 : tk_vn K L 5 f62 now ndn nl9 := tk_vn_tr g61 (by rw [ef62, q_setz (Or.inr (by decide))]) (fun a9 h9 k9 => by rw [ef62, q_setj (Or.inl (fun q => by rw [q, kout] at k9; exact absurd k9 (by decide)))]) (fun i9 => by rw [ef62, q_setr (Or.inl (fun q => by rw [q, kout] at kndn; exact absurd kndn (by decide)))])
    have g80 : tk_vk K L f62 hist ka now ndn := tk_vk_tr g45 (by rw [ef62, q_setz (Or.inr (by decide))]) (by rw [ef62, q_setz (Or.inr (by decide))]) (by rw [ef62, q_setz (Or.inr (by decide))]) (fun a9 h9 k9 => by rw [ef62, q_setj (Or.inl (fun q => by rw [q, kout] at k9; exact absurd k9 (by decide)))]) (fun i9 => by rw [ef62, q_setr (Or.inl (fun q => by rw [q, kout] at kndn; exact absurd kndn (by decide)))]) (fun a9 h9 k9 => by rw [ef62, q_setz (Or.inl (fun q => by rw [q, kout] at k9; exact absurd k9 (by decide)))]) (fun a9 h9 k9 => by rw [ef62, q_setj (Or.inl (fun q => by rw [q, kout] at k9; exact absurd k9 (by decide)))]) (fun i9 => by rw [ef62, q_setr (Or.inl (fun q => by rw [q, kout] at kka; exact absurd kka (by decide)))]) (fun a9 h9 k9 => by rw [ef62, q_setr (Or.inl (fun q => by rw [q, kout] at k9; exact absurd k9 (by decide)))]) (fun a9 h9 k9 i9 => by rw [ef62, q_setr (Or.inl (fun q => by rw [q, kout] at k9; exact absurd k9 (by decide)))])
    refine lv_goto (tgt := 15) cx.1 cx.2.1 dL_setMiss_9 (by decide) ?_
    refine q_iconst cx dL_setMiss_15 ?_
    refine W.widen (k := 1) (n := 6) (by decide) (by decide) ?_
    refine q_iret cx hr hlk hB dL_setMiss_16 ⟨by decide, by decide⟩ ?_
    exact ⟨(by decide), (by decide), g80⟩
set_option maxHeartbeats 4000000 in
set_option maxRecDepth 100000 in
theorem f_wrunScript (l : Launch) (g : q_G) (ad : Nat → Nat) {K : Nat → Nat} {L : List Nat} (hN : L.Nodup) {f : Nat → va_E} (hT : q_Ty g K L f) (hfl : l.stackTraces = false) (nl9 : List (List Int)) (x : Nat) (hx : x ∈ L) (kx : K x = 11) (out : Nat) (hout : out ∈ L) (kout : K out = 168) (so : Nat) (hso : so ∈ L) (kso : K so = 8) (rd : Nat) (hrd : rd ∈ L) (krd : K rd = 9) (scr : Nat) (hscr : scr ∈ L) (kscr : K scr = 7) (fc : Nat) (hfc : fc ∈ L) (kfc : K fc = 1) (hist : Nat) (hhist : hist ∈ L) (khist : K hist = 2) (rep : Nat) (hrep : rep ∈ L) (krep : K rep = 6) (now : Nat) (hnow : now ∈ L) (know : K now = 10) (dr : Nat) (hdr : dr ∈ L) (kdr : K dr = 13) (sv : Nat) (hsv : sv ∈ L) (ksv : K sv = 14) (tr : Nat) (htr : tr ∈ L) (ktr : K tr = 15) (ba : Nat) (hba : ba ∈ L) (kba : K ba = 142) (nds : Nat) (hnds : nds ∈ L) (knds : K nds = 111) (ka : Nat) (hka : ka ∈ L) (kka : K ka = 140) (ndn : Nat) (hndn : ndn ∈ L) (kndn : K ndn = 110) (nsv : Nat) (hnsv : nsv ∈ L) (knsv : K nsv = 112) (hr0 : q_ir (q_r f x 0) so) (hr1 : q_ir (q_r f x 1) rd) (hr2 : q_ir (q_r f x 2) scr) (hr3 : q_ir (q_r f x 3) fc) (hr4 : q_ir (q_r f x 4) hist) (hr5 : q_ir (q_r f x 5) rep) (hr6 : q_ir (q_r f x 6) now) (hr7 : q_ir (q_r f x 7) dr) (hr8 : q_ir (q_r f x 8) sv) (hr9 : q_ir (q_r f fc 0) tr) (hr10 : q_ir (q_r f so 0) ba) (hr11 : q_ir (q_r f dr 0) nds) (hr12 : q_ir (q_r f hist 0) ka) (hr13 : q_ir (q_r f now 0) ndn) (hr14 : q_ir (q_r f sv 0) nsv) (hvn : tk_vn K L 5 f now ndn nl9) (hvk : tk_vk K L f hist ka now ndn) : q_Wt l g ad K L yL_runScript cL_runScript 3 (some .int) [(0, 8, 11, 19)] 9 196 1 6 [.ref x, .ref out] f [(0, 0, 6), (2, 1, 2), (3, 2, 4), (4, 0, 7), (5, 1, 1), (5, 3, 4), (5, 6, 9), (7, 1, 4), (8, 1, 9), (10, 5, 5), (10, 11, 15), (16, 3, 12), (20, 0, 8), (24, 0, 4), (28, 0, 7), (168, 0, 0)] (q_Pi (fun (z : Int) (f1 : Nat → va_E) => 0 ≤ z ∧ z ≤ 1 ∧ q_is (q_z f1 so 1) 0 ∧ (tk_vk K L f1 hist ka now ndn))) := by
  refine q_wofb (by decide +kernel) hN hT (Nat.le_of_ble_eq_true rfl) ?_
  intro p e s m below meth c ls cx hr hlk htab hX hB hl
  have hl : lv_has ls 3 [(0, .ref x), (1, .ref out)] := hl
  obtain ⟨H, hH⟩ : ∃ H : Heap, H = s.heap := ⟨_, rfl⟩
  obtain ⟨locs, hlocs⟩ : ∃ z : List Loc, z = [] := ⟨_, rfl⟩
  rw [← hH, ← hlocs] at hB
  rw [← hH, ← hlocs]
  refine q_ald_n cx dL_runScript_0 rfl (lv_at hl 1 rfl) ?_
  refine q_iconst cx dL_runScript_1 ?_
  refine q_ald_n cx dL_runScript_2 rfl (lv_at hl 0 rfl) ?_
  refine q_cXV (As := []) (rest := [.int (q_i 0), .ref out]) cx hX hB (fun _ h => h) (fun _ h _ => h) hN hx kx (by decide) rfl (f_xrunScript l g ad hN hB.2.1 hfl nl9 x hx kx so hso kso rd hrd krd scr hscr kscr fc hfc kfc hist hhist khist rep hrep krep now hnow know dr hdr kdr sv hsv ksv tr htr ktr ba hba kba nds hnds knds ka hka kka ndn hndn kndn nsv hnsv knsv hr0 hr1 hr2 hr3 hr4 hr5 hr6 hr7 hr8 hr9 hr10 hr11 hr12 hr13 hr14 hvn hvk) q_cL_25 q_dX11_runScript (by decide) rfl rfl hl.1 rfl (Nat.le_of_ble_eq_true rfl) dL_runScript_3 (fun E9 ce9 q9 H locs f64 hex hF hB hcell hcv hcl => ?_) (fun v9 H locs f61 h63 hF hB => ?_)
  · rcases hex with ⟨rfl, z65, g66⟩
    · have z67 : q_ir (q_r f64 x 0) so := Eq.trans (hF.r hx (by rw [kx]; rfl)) hr0
      have z68 : q_ir (q_r f64 x 1) rd := Eq.trans (hF.r hx (by rw [kx]; rfl)) hr1
      have z69 : q_ir (q_r f64 x 2) scr := Eq.trans (hF.r hx (by rw [kx]; rfl)) hr2
      have z70 : q_ir (q_r f64 x 3) fc := Eq.trans (hF.r hx (by rw [kx]; rfl)) hr3
      have z71 : q_ir (q_r f64 x 4) hist := Eq.trans (hF.r hx (by rw [kx]; rfl)) hr4
      have z72 : q_ir (q_r f64 x 5) rep := Eq.trans (hF.r hx (by rw [kx]; rfl)) hr5
      have z73 : q_ir (q_r f64 x 6) now := Eq.trans (hF.r hx (by rw [kx]; rfl)) hr6
      have z74 : q_ir (q_r f64 x 7) dr := Eq.trans (hF.r hx (by rw [kx]; rfl)) hr7
      have z75 : q_ir (q_r f64 x 8) sv := Eq.trans (hF.r hx (by rw [kx]; rfl)) hr8
      have z76 : q_ir (q_r f64 fc 0) tr := Eq.trans (hF.r hfc (by rw [kfc]; rfl)) hr9
      have z77 : q_ir (q_r f64 so 0) ba := Eq.trans (hF.r hso (by rw [kso]; rfl)) hr10
      have z78 : q_ir (q_r f64 dr 0) nds := Eq.trans (hF.r hdr (by rw [kdr]; rfl)) hr11
      have z79 : q_ir (q_r f64 hist 0) ka := Eq.trans (hF.r hhist (by rw [khist]; rfl)) hr12
      have z80 : q_ir (q_r f64 now 0) ndn := Eq.trans (hF.r hnow (by rw [know]; rfl)) hr13
      have z81 : q_ir (q_r f64 sv 0) nsv := Eq.trans (hF.r hsv (by rw [ksv]; rfl)) hr14
      have g82 : tk_vn K L 5 f64 now ndn nl9 := tk_vn_tr hvn (hF.z hnow (by rw [know]; rfl)) (fun a9 h9 k9 => hF.j h9 (by rw [k9]; rfl)) (fun i9 => hF.r hndn (by rw [kndn]; rfl))
      refine vx_catch (E := "java/lang/IllegalArgumentException") (name := "java/lang/IllegalArgumentException") cx.2.2.2.1 [] ⟨0, 8, 11, 19⟩ [] (htab.trans rfl) (q_pnil) (by decide) (by decide) (cx.2.2.2.2 _ q_h875) (va_Nw.use rfl (hX.2.2.2.1 (.castable "java/lang/IllegalArgumentException" "java/lang/IllegalArgumentException") (by decide +kernel))) hcell hcv hcl ?_
      refine lv_astore_n (lv' := [(2, .ref q9), (0, .ref x), (1, .ref out)]) cx.1 cx.2.1 dL_runScript_11 rfl hl (by decide) rfl (fun ls hl => ?_)
      refine q_iconst cx dL_runScript_12 ?_
      refine W.widen (k := 1) (n := 6) (by decide) (by decide) ?_
      refine q_iret cx hr hlk hB dL_runScript_13 ⟨by decide, by decide⟩ ?_
      exact ⟨(by decide), (by decide), z65, g66⟩
  · obtain ⟨y62, rfl, ry62, h63⟩ := h63
    refine W.eq (g2 := F0 m 6 ls [.int (q_i y62), .int (q_i 0), .ref out]) rfl ?_
    obtain ⟨z83, g84⟩ := h63
    have z85 : q_ir (q_r f61 x 0) so := Eq.trans (hF.r hx (by rw [kx]; rfl)) hr0
    have z86 : q_ir (q_r f61 x 1) rd := Eq.trans (hF.r hx (by rw [kx]; rfl)) hr1
    have z87 : q_ir (q_r f61 x 2) scr := Eq.trans (hF.r hx (by rw [kx]; rfl)) hr2
    have z88 : q_ir (q_r f61 x 3) fc := Eq.trans (hF.r hx (by rw [kx]; rfl)) hr3
    have z89 : q_ir (q_r f61 x 4) hist := Eq.trans (hF.r hx (by rw [kx]; rfl)) hr4
    have z90 : q_ir (q_r f61 x 5) rep := Eq.trans (hF.r hx (by rw [kx]; rfl)) hr5
    have z91 : q_ir (q_r f61 x 6) now := Eq.trans (hF.r hx (by rw [kx]; rfl)) hr6
    have z92 : q_ir (q_r f61 x 7) dr := Eq.trans (hF.r hx (by rw [kx]; rfl)) hr7
    have z93 : q_ir (q_r f61 x 8) sv := Eq.trans (hF.r hx (by rw [kx]; rfl)) hr8
    have z94 : q_ir (q_r f61 fc 0) tr := Eq.trans (hF.r hfc (by rw [kfc]; rfl)) hr9
    have z95 : q_ir (q_r f61 so 0) ba := Eq.trans (hF.r hso (by rw [kso]; rfl)) hr10
    have z96 : q_ir (q_r f61 dr 0) nds := Eq.trans (hF.r hdr (by rw [kdr]; rfl)) hr11
    have z97 : q_ir (q_r f61 hist 0) ka := Eq.trans (hF.r hhist (by rw [khist]; rfl)) hr12
    have z98 : q_ir (q_r f61 now 0) ndn := Eq.trans (hF.r hnow (by rw [know]; rfl)) hr13
    have z99 : q_ir (q_r f61 sv 0) nsv := Eq.trans (hF.r hsv (by rw [ksv]; rfl)) hr14
    have g100 : tk_vn K L 5 f61 now ndn nl9 := tk_vn_tr hvn (hF.z hnow (by rw [know]; rfl)) (fun a9 h9 k9 => hF.j h9 (by rw [k9]; rfl)) (fun i9 => hF.r hndn (by rw [kndn]; rfl))
    refine q_i2l cx ⟨by omega, by omega⟩ dL_runScript_6 ?_
    refine q_last (n := 1) cx hB hout kout (by decide) rfl rfl (by decide) (by decide) (by decide) rfl rfl dL_runScript_7 (fun H locs f101 ef101 z102 hB => ?_)
    have z103 : q_is (q_z f101 so 1) 0 := by rw [ef101, q_setz (Or.inr (by decide))]; exact z83
    have z104 : q_ir (q_r f101 x 0) so := by rw [ef101, q_setr (Or.inl (fun q => by rw [q, kout] at kx; exact absurd kx (by decide)))]; exact z85
    have z105 : q_ir (q_r f101 x 1) rd := by rw [ef101, q_setr (Or.inr (by decide))]; exact z86
    have z106 : q_ir (q_r f101 x 2) scr := by rw [ef101, q_setr (Or.inr (by decide))]; exact z87
    have z107 : q_ir (q_r f101 x 3) fc := by rw [ef101, q_setr (Or.inr (by decide))]; exact z88
    have z108 : q_ir (q_r f101 x 4) hist := by rw [ef101, q_setr (Or.inr (by decide))]; exact z89
    have z109 : q_ir (q_r f101 x 5) rep := by rw [ef101, q_setr (Or.inr (by decide))]; exact z90
    have z110 : q_ir (q_r f101 x 6) now := by rw [ef101, q_setr (Or.inr (by decide))]; exact z91
    have z111 : q_ir (q_r f101 x 7) dr := by rw [ef101, q_setr (Or.inr (by decide))]; exact z92
    have z112 : q_ir (q_r f101 x 8) sv := by rw [ef101, q_setr (Or.inr (by decide))]; exact z93
    have z113 : q_ir (q_r f101 fc 0) tr := by rw [ef101, q_setr (Or.inl (fun q => by rw [q, kout] at kfc; exact absurd kfc (by decide)))]; exact z94
    have z114 : q_ir (q_r f101 so 0) ba := by rw [ef101, q_setr (Or.inl (fun q => by rw [q, kout] at kso; exact absurd kso (by decide)))]; exact z95
    have z115 : q_ir (q_r f101 dr 0) nds := by rw [ef101, q_setr (Or.inl (fun q => by rw [q, kout] at kdr; exact absurd kdr (by decide)))]; exact z96
    have z116 : q_ir (q_r f101 hist 0) ka := by rw [ef101, q_setr (Or.inl (fun q => by rw [q, kout] at khist; exact absurd khist (by decide)))]; exact z97
    have z117 : q_ir (q_r f101 now 0) ndn := by rw [ef101, q_setr (Or.inl (fun q => by rw [q, kout] at know; exact absurd know (by decide)))]; exact z98
    have z118 : q_ir (q_r f101 sv 0) nsv := by rw [ef101, q_setr (Or.inl (fun q => by rw [q, kout] at ksv; exact absurd ksv (by decide)))]; exact z99
    have g119 : tk_vn K L 5 f101 now ndn nl9 := tk_vn_tr g100 (by rw [ef101, q_setz (Or.inr (by decide))]) (fun a9 h9 k9 => by rw [ef101, q_setj (Or.inl (fun q => by rw [q, kout] at k9; exact absurd k9 (by decide)))]) (fun i9 => by rw [ef101, q_setr (Or.inl (fun q => by rw [q, kout] at kndn; exact absurd kndn (by decide)))])
    have g120 : tk_vk K L f101 hist ka now ndn := tk_vk_tr g84 (by rw [ef101, q_setz (Or.inr (by decide))]) (by rw [ef101, q_setz (Or.inr (by decide))]) (by rw [ef101, q_setz (Or.inr (by decide))]) (fun a9 h9 k9 => by rw [ef101, q_setj (Or.inl (fun q => by rw [q, kout] at k9; exact absurd k9 (by decide)))]) (fun i9 => by rw [ef101, q_setr (Or.inl (fun q => by rw [q, kout] at kndn; exact absurd kndn (by decide)))]) (fun a9 h9 k9 => by rw [ef101, q_setz (Or.inl (fun q => by rw [q, kout] at k9; exact absurd k9 (by decide)))]) (fun a9 h9 k9 => by rw [ef101, q_setj (Or.inl (fun q => by rw [q, kout] at k9; exact absurd k9 (by decide)))]) (fun i9 => by rw [ef101, q_setr (Or.inl (fun q => by rw [q, kout] at kka; exact absurd kka (by decide)))]) (fun a9 h9 k9 => by rw [ef101, q_setr (Or.inl (fun q => by rw [q, kout] at k9; exact absurd k9 (by decide)))]) (fun a9 h9 k9 i9 => by rw [ef101, q_setr (Or.inl (fun q => by rw [q, kout] at k9; exact absurd k9 (by decide)))])
    refine lv_goto (tgt := 14) cx.1 cx.2.1 dL_runScript_8 (by decide) ?_
    refine q_iconst cx dL_runScript_14 ?_
    refine W.widen (k := 1) (n := 6) (by decide) (by decide) ?_
    refine q_iret cx hr hlk hB dL_runScript_15 ⟨by decide, by decide⟩ ?_
    exact ⟨(by decide), (by decide), z103, g120⟩
set_option maxHeartbeats 4000000 in
set_option maxRecDepth 100000 in
theorem f_wletter (l : Launch) (g : q_G) (ad : Nat → Nat) {K : Nat → Nat} {L : List Nat} (hN : L.Nodup) {f : Nat → va_E} (hT : q_Ty g K L f) (hfl : l.stackTraces = false) (nl9 : List (List Int)) (x : Nat) (hx : x ∈ L) (kx : K x = 11) (a0 : Int) (la0 : (-2147483648) ≤ a0) (ua0 : a0 ≤ 2147483647) (b0 : Int) (lb0 : (-2147483648) ≤ b0) (ub0 : b0 ≤ 2147483647) (out : Nat) (hout : out ∈ L) (kout : K out = 168) (so : Nat) (hso : so ∈ L) (kso : K so = 8) (rd : Nat) (hrd : rd ∈ L) (krd : K rd = 9) (scr : Nat) (hscr : scr ∈ L) (kscr : K scr = 7) (fc : Nat) (hfc : fc ∈ L) (kfc : K fc = 1) (hist : Nat) (hhist : hist ∈ L) (khist : K hist = 2) (rep : Nat) (hrep : rep ∈ L) (krep : K rep = 6) (now : Nat) (hnow : now ∈ L) (know : K now = 10) (dr : Nat) (hdr : dr ∈ L) (kdr : K dr = 13) (sv : Nat) (hsv : sv ∈ L) (ksv : K sv = 14) (tr : Nat) (htr : tr ∈ L) (ktr : K tr = 15) (ba : Nat) (hba : ba ∈ L) (kba : K ba = 142) (nds : Nat) (hnds : nds ∈ L) (knds : K nds = 111) (ka : Nat) (hka : ka ∈ L) (kka : K ka = 140) (ndn : Nat) (hndn : ndn ∈ L) (kndn : K ndn = 110) (nsv : Nat) (hnsv : nsv ∈ L) (knsv : K nsv = 112) (nn : Int) (lnn : 0 ≤ nn) (unn : nn ≤ 10) (hf0 : q_is (q_z f now 3) nn) (hr0 : q_ir (q_r f x 0) so) (hr1 : q_ir (q_r f x 1) rd) (hr2 : q_ir (q_r f x 2) scr) (hr3 : q_ir (q_r f x 3) fc) (hr4 : q_ir (q_r f x 4) hist) (hr5 : q_ir (q_r f x 5) rep) (hr6 : q_ir (q_r f x 6) now) (hr7 : q_ir (q_r f x 7) dr) (hr8 : q_ir (q_r f x 8) sv) (hr9 : q_ir (q_r f fc 0) tr) (hr10 : q_ir (q_r f so 0) ba) (hr11 : q_ir (q_r f dr 0) nds) (hr12 : q_ir (q_r f hist 0) ka) (hr13 : q_ir (q_r f now 0) ndn) (hr14 : q_ir (q_r f sv 0) nsv) (hvn : tk_vn K L 5 f now ndn nl9) : q_Wt l g ad K L yL_letter cL_letter 5 (some .int) [(0, 10, 13, 35)] 8 125 1 6 [.ref x, .int (q_i a0), .int (q_i b0), .ref out] f [(168, 0, 0)] (q_Pi (fun (z : Int) (f1 : Nat → va_E) => (z = 0 ∧ (0 ≤ a0 ∧ a0 < (nl9.length : Int)) ∧ (q_j f1 out 0 = q_l (tk_le (nl9.getD (Int.toNat a0) []) b0)) ∧ (tk_isw (nl9.getD (Int.toNat a0) []))) ∨ (z = 1 ∧ (a0 < 0 ∨ (nl9.length : Int) ≤ a0)))) := by
  refine q_wofb (by decide +kernel) hN hT (Nat.le_of_ble_eq_true rfl) ?_
  intro p e s m below meth c ls cx hr hlk htab hX hB hl
  have hl : lv_has ls 5 [(0, .ref x), (1, .int (q_i a0)), (2, .int (q_i b0)), (3, .ref out)] := hl
  obtain ⟨H, hH⟩ : ∃ H : Heap, H = s.heap := ⟨_, rfl⟩
  obtain ⟨locs, hlocs⟩ : ∃ z : List Loc, z = [] := ⟨_, rfl⟩
  rw [← hH, ← hlocs] at hB
  rw [← hH, ← hlocs]
  refine q_ald_n cx dL_letter_0 rfl (lv_at hl 3 rfl) ?_
  refine q_iconst cx dL_letter_1 ?_
  refine q_ald_n cx dL_letter_2 rfl (lv_at hl 0 rfl) ?_
  refine q_ild_n cx dL_letter_3 rfl (lv_at hl 1 rfl) ?_
  refine q_ild_n cx dL_letter_4 rfl (lv_at hl 2 rfl) ?_
  refine q_cXV (As := [.int (q_i a0), .int (q_i b0)]) (rest := [.int (q_i 0), .ref out]) cx hX hB (fun _ h => h) (fun _ h _ => h) hN hx kx (by decide) rfl (f_xletter l g ad hN hB.2.1 hfl nl9 x hx kx a0 (by omega) (by omega) b0 (by omega) (by omega) so hso kso rd hrd krd scr hscr kscr fc hfc kfc hist hhist khist rep hrep krep now hnow know dr hdr kdr sv hsv ksv tr htr ktr ba hba kba nds hnds knds ka hka kka ndn hndn kndn nsv hnsv knsv nn (by omega) (by omega) hf0 hr0 hr1 hr2 hr3 hr4 hr5 hr6 hr7 hr8 hr9 hr10 hr11 hr12 hr13 hr14 hvn) q_cL_43 q_dX11_letter (by decide) rfl rfl hl.1 rfl (Nat.le_of_ble_eq_true rfl) dL_letter_5 (fun E9 ce9 q9 H locs f31 hex hF hB hcell hcv hcl => ?_) (fun v9 H locs f28 h30 hF hB => ?_)
  · rcases hex with ⟨rfl, rfl, t32⟩
    · refine vx_catch (E := "java/lang/IndexOutOfBoundsException") (name := "java/lang/IndexOutOfBoundsException") cx.2.2.2.1 [] ⟨0, 10, 13, 35⟩ [] (htab.trans rfl) (q_pnil) (by decide) (by decide) (cx.2.2.2.2 _ q_h1225) (va_Nw.use rfl (hX.2.2.2.1 (.castable "java/lang/IndexOutOfBoundsException" "java/lang/IndexOutOfBoundsException") (by decide +kernel))) hcell hcv hcl ?_
      refine lv_astore (lv' := [(4, .ref q9), (0, .ref x), (1, .int (q_i a0)), (2, .int (q_i b0)), (3, .ref out)]) cx.1 cx.2.1 dL_letter_13 hl (by decide) rfl (fun ls hl => ?_)
      refine q_iconst cx dL_letter_15 ?_
      refine W.widen (k := 1) (n := 6) (by decide) (by decide) ?_
      refine q_iret cx hr hlk hB dL_letter_16 ⟨by decide, by decide⟩ ?_
      exact (Or.inr ⟨rfl, t32⟩)
  · obtain ⟨y29, rfl, ry29, h30⟩ := h30
    refine W.eq (g2 := F0 m 8 ls [.int (q_i y29), .int (q_i 0), .ref out]) rfl ?_
    obtain ⟨rfl, t33, t34, t35⟩ := h30
    refine q_i2l cx ⟨by omega, by omega⟩ dL_letter_8 ?_
    refine q_last (n := 1) cx hB hout kout (by decide) rfl rfl (by decide) (by decide) (by decide) rfl rfl dL_letter_9 (fun H locs f36 ef36 z37 hB => ?_)
    have z38 : q_is (q_z f36 now 3) nn := by rw [ef36, q_setz (Or.inr (by decide))]; exact hf0
    have z39 : q_ir (q_r f36 x 0) so := by rw [ef36, q_setr (Or.inl (fun q => by rw [q, kout] at kx; exact absurd kx (by decide)))]; exact hr0
    have z40 : q_ir (q_r f36 x 1) rd := by rw [ef36, q_setr (Or.inr (by decide))]; exact hr1
    have z41 : q_ir (q_r f36 x 2) scr := by rw [ef36, q_setr (Or.inr (by decide))]; exact hr2
    have z42 : q_ir (q_r f36 x 3) fc := by rw [ef36, q_setr (Or.inr (by decide))]; exact hr3
    have z43 : q_ir (q_r f36 x 4) hist := by rw [ef36, q_setr (Or.inr (by decide))]; exact hr4
    have z44 : q_ir (q_r f36 x 5) rep := by rw [ef36, q_setr (Or.inr (by decide))]; exact hr5
    have z45 : q_ir (q_r f36 x 6) now := by rw [ef36, q_setr (Or.inr (by decide))]; exact hr6
    have z46 : q_ir (q_r f36 x 7) dr := by rw [ef36, q_setr (Or.inr (by decide))]; exact hr7
    have z47 : q_ir (q_r f36 x 8) sv := by rw [ef36, q_setr (Or.inr (by decide))]; exact hr8
    have z48 : q_ir (q_r f36 fc 0) tr := by rw [ef36, q_setr (Or.inl (fun q => by rw [q, kout] at kfc; exact absurd kfc (by decide)))]; exact hr9
    have z49 : q_ir (q_r f36 so 0) ba := by rw [ef36, q_setr (Or.inl (fun q => by rw [q, kout] at kso; exact absurd kso (by decide)))]; exact hr10
    have z50 : q_ir (q_r f36 dr 0) nds := by rw [ef36, q_setr (Or.inl (fun q => by rw [q, kout] at kdr; exact absurd kdr (by decide)))]; exact hr11
    have z51 : q_ir (q_r f36 hist 0) ka := by rw [ef36, q_setr (Or.inl (fun q => by rw [q, kout] at khist; exact absurd khist (by decide)))]; exact hr12
    have z52 : q_ir (q_r f36 now 0) ndn := by rw [ef36, q_setr (Or.inl (fun q => by rw [q, kout] at know; exact absurd know (by decide)))]; exact hr13
    have z53 : q_ir (q_r f36 sv 0) nsv := by rw [ef36, q_setr (Or.inl (fun q => by rw [q, kout] at ksv; exact absurd ksv (by decide)))]; exact hr14
    have g54 : tk_vn K L 5 f36 now ndn nl9 := tk_vn_tr hvn (by rw [ef36, q_setz (Or.inr (by decide))]) (fun a9 h9 k9 => by rw [ef36, q_setj (Or.inl (fun q => by rw [q, kout] at k9; exact absurd k9 (by decide)))]) (fun i9 => by rw [ef36, q_setr (Or.inl (fun q => by rw [q, kout] at kndn; exact absurd kndn (by decide)))])
    refine lv_goto (tgt := 17) cx.1 cx.2.1 dL_letter_10 (by decide) ?_
    refine q_iconst cx dL_letter_17 ?_
    refine W.widen (k := 1) (n := 6) (by decide) (by decide) ?_
    refine q_iret cx hr hlk hB dL_letter_18 ⟨by decide, by decide⟩ ?_
    exact (Or.inl ⟨rfl, t33, (Eq.trans z37 (congrArg q_l t34)), t35⟩)
set_option maxHeartbeats 4000000 in
set_option maxRecDepth 100000 in
theorem f_wrestore (l : Launch) (g : q_G) (ad : Nat → Nat) {K : Nat → Nat} {L : List Nat} (hN : L.Nodup) {f : Nat → va_E} (hT : q_Ty g K L f) (hfl : l.stackTraces = false) (nl9 : List (List Int)) (ls9 : List (List Int)) (x : Nat) (hx : x ∈ L) (kx : K x = 11) (out : Nat) (hout : out ∈ L) (kout : K out = 168) (so : Nat) (hso : so ∈ L) (kso : K so = 8) (rd : Nat) (hrd : rd ∈ L) (krd : K rd = 9) (scr : Nat) (hscr : scr ∈ L) (kscr : K scr = 7) (fc : Nat) (hfc : fc ∈ L) (kfc : K fc = 1) (hist : Nat) (hhist : hist ∈ L) (khist : K hist = 2) (rep : Nat) (hrep : rep ∈ L) (krep : K rep = 6) (now : Nat) (hnow : now ∈ L) (know : K now = 10) (dr : Nat) (hdr : dr ∈ L) (kdr : K dr = 13) (sv : Nat) (hsv : sv ∈ L) (ksv : K sv = 14) (tr : Nat) (htr : tr ∈ L) (ktr : K tr = 15) (ba : Nat) (hba : ba ∈ L) (kba : K ba = 142) (nds : Nat) (hnds : nds ∈ L) (knds : K nds = 111) (ka : Nat) (hka : ka ∈ L) (kka : K ka = 140) (ndn : Nat) (hndn : ndn ∈ L) (kndn : K ndn = 110) (nsv : Nat) (hnsv : nsv ∈ L) (knsv : K nsv = 112) (hr0 : q_ir (q_r f x 0) so) (hr1 : q_ir (q_r f x 1) rd) (hr2 : q_ir (q_r f x 2) scr) (hr3 : q_ir (q_r f x 3) fc) (hr4 : q_ir (q_r f x 4) hist) (hr5 : q_ir (q_r f x 5) rep) (hr6 : q_ir (q_r f x 6) now) (hr7 : q_ir (q_r f x 7) dr) (hr8 : q_ir (q_r f x 8) sv) (hr9 : q_ir (q_r f fc 0) tr) (hr10 : q_ir (q_r f so 0) ba) (hr11 : q_ir (q_r f dr 0) nds) (hr12 : q_ir (q_r f hist 0) ka) (hr13 : q_ir (q_r f now 0) ndn) (hr14 : q_ir (q_r f sv 0) nsv) (hvn : tk_vn K L 5 f now ndn nl9) (hvk : tk_vk K L f hist ka now ndn) (hvs : tk_vs K L f x sv nsv ls9) : q_Wt l g ad K L yL_restore cL_restore 3 (some .int) [(0, 8, 11, 13)] 7 102 1 6 [.ref x, .ref out] f [(2, 2, 2), (3, 0, 4), (4, 0, 7), (5, 0, 8), (10, 3, 12), (168, 0, 0)] (q_Pi (fun (z : Int) (f1 : Nat → va_E) => (z = 0 ∧ (q_z f x 9 = 1) ∧ (tk_vn K L 5 f1 now ndn ls9) ∧ (tk_vk K L f1 hist ka now ndn) ∧ (tk_vs K L f1 x sv nsv ls9)) ∨ (z = 1 ∧ (q_z f x 9 ≠ 1) ∧ (tk_vn K L 5 f1 now ndn nl9) ∧ (tk_vk K L f1 hist ka now ndn) ∧ (tk_vs K L f1 x sv nsv ls9)))) := by
  refine q_wofb (by decide +kernel) hN hT (Nat.le_of_ble_eq_true rfl) ?_
  intro p e s m below meth c ls cx hr hlk htab hX hB hl
  have hl : lv_has ls 3 [(0, .ref x), (1, .ref out)] := hl
  obtain ⟨H, hH⟩ : ∃ H : Heap, H = s.heap := ⟨_, rfl⟩
  obtain ⟨locs, hlocs⟩ : ∃ z : List Loc, z = [] := ⟨_, rfl⟩
  rw [← hH, ← hlocs] at hB
  rw [← hH, ← hlocs]
  refine q_ald_n cx dL_restore_0 rfl (lv_at hl 1 rfl) ?_
  refine q_iconst cx dL_restore_1 ?_
  refine q_ald_n cx dL_restore_2 rfl (lv_at hl 0 rfl) ?_
  refine q_cXV (As := []) (rest := [.int (q_i 0), .ref out]) cx hX hB (fun _ h => h) (fun _ h _ => h) hN hx kx (by decide) rfl (f_xrestore l g ad hN hB.2.1 hfl nl9 ls9 x hx kx so hso kso rd hrd krd scr hscr kscr fc hfc kfc hist hhist khist rep hrep krep now hnow know dr hdr kdr sv hsv ksv tr htr ktr ba hba kba nds hnds knds ka hka kka ndn hndn kndn nsv hnsv knsv hr0 hr1 hr2 hr3 hr4 hr5 hr6 hr7 hr8 hr9 hr10 hr11 hr12 hr13 hr14 hvn hvk hvs) q_cL_111 q_dX11_restore (by decide) rfl rfl hl.1 rfl (Nat.le_of_ble_eq_true rfl) dL_restore_3 (fun E9 ce9 q9 H locs f49 hex hF hB hcell hcv hcl => ?_) (fun v9 H locs f46 h48 hF hB => ?_)
  · rcases hex with ⟨rfl, rfl, t50⟩
    · refine vx_catch (E := "java/lang/IllegalStateException") (name := "java/lang/IllegalStateException") cx.2.2.2.1 [] ⟨0, 8, 11, 13⟩ [] (htab.trans rfl) (q_pnil) (by decide) (by decide) (cx.2.2.2.2 _ q_h792) (va_Nw.use rfl (hX.2.2.2.1 (.castable "java/lang/IllegalStateException" "java/lang/IllegalStateException") (by decide +kernel))) hcell hcv hcl ?_
      refine lv_astore_n (lv' := [(2, .ref q9), (0, .ref x), (1, .ref out)]) cx.1 cx.2.1 dL_restore_11 rfl hl (by decide) rfl (fun ls hl => ?_)
      refine q_iconst cx dL_restore_12 ?_
      refine W.widen (k := 1) (n := 6) (by decide) (by decide) ?_
      refine q_iret cx hr hlk hB dL_restore_13 ⟨by decide, by decide⟩ ?_
      exact (Or.inr ⟨rfl, t50, hvn, hvk, hvs⟩)
  · obtain ⟨y47, rfl, ry47, h48⟩ := h48
    refine W.eq (g2 := F0 m 6 ls [.int (q_i y47), .int (q_i 0), .ref out]) rfl ?_
    obtain ⟨t51, t52, g53, g54⟩ := h48
    have z55 : q_ir (q_r f46 x 0) so := Eq.trans (hF.r hx (by rw [kx]; rfl)) hr0
    have z56 : q_ir (q_r f46 x 1) rd := Eq.trans (hF.r hx (by rw [kx]; rfl)) hr1
    have z57 : q_ir (q_r f46 x 2) scr := Eq.trans (hF.r hx (by rw [kx]; rfl)) hr2
    have z58 : q_ir (q_r f46 x 3) fc := Eq.trans (hF.r hx (by rw [kx]; rfl)) hr3
    have z59 : q_ir (q_r f46 x 4) hist := Eq.trans (hF.r hx (by rw [kx]; rfl)) hr4
    have z60 : q_ir (q_r f46 x 5) rep := Eq.trans (hF.r hx (by rw [kx]; rfl)) hr5
    have z61 : q_ir (q_r f46 x 6) now := Eq.trans (hF.r hx (by rw [kx]; rfl)) hr6
    have z62 : q_ir (q_r f46 x 7) dr := Eq.trans (hF.r hx (by rw [kx]; rfl)) hr7
    have z63 : q_ir (q_r f46 x 8) sv := Eq.trans (hF.r hx (by rw [kx]; rfl)) hr8
    have z64 : q_ir (q_r f46 fc 0) tr := Eq.trans (hF.r hfc (by rw [kfc]; rfl)) hr9
    have z65 : q_ir (q_r f46 so 0) ba := Eq.trans (hF.r hso (by rw [kso]; rfl)) hr10
    have z66 : q_ir (q_r f46 dr 0) nds := Eq.trans (hF.r hdr (by rw [kdr]; rfl)) hr11
    have z67 : q_ir (q_r f46 hist 0) ka := Eq.trans (hF.r hhist (by rw [khist]; rfl)) hr12
    have z68 : q_ir (q_r f46 now 0) ndn := Eq.trans (hF.r hnow (by rw [know]; rfl)) hr13
    have z69 : q_ir (q_r f46 sv 0) nsv := Eq.trans (hF.r hsv (by rw [ksv]; rfl)) hr14
    have g70 : tk_vs K L f46 x sv nsv ls9 := tk_vs_tr hvs (hF.z hx (by rw [kx]; rfl)) (hF.z hsv (by rw [ksv]; rfl)) (fun a9 h9 k9 => hF.j h9 (by rw [k9]; rfl)) (fun i9 => hF.r hnsv (by rw [knsv]; rfl))
    refine q_i2l cx ⟨by omega, by omega⟩ dL_restore_6 ?_
    refine q_last (n := 1) cx hB hout kout (by decide) rfl rfl (by decide) (by decide) (by decide) rfl rfl dL_restore_7 (fun H locs f71 ef71 z72 hB => ?_)
    have z73 : q_ir (q_r f71 x 0) so := by rw [ef71, q_setr (Or.inl (fun q => by rw [q, kout] at kx; exact absurd kx (by decide)))]; exact z55
    have z74 : q_ir (q_r f71 x 1) rd := by rw [ef71, q_setr (Or.inr (by decide))]; exact z56
    have z75 : q_ir (q_r f71 x 2) scr := by rw [ef71, q_setr (Or.inr (by decide))]; exact z57
    have z76 : q_ir (q_r f71 x 3) fc := by rw [ef71, q_setr (Or.inr (by decide))]; exact z58
    have z77 : q_ir (q_r f71 x 4) hist := by rw [ef71, q_setr (Or.inr (by decide))]; exact z59
    have z78 : q_ir (q_r f71 x 5) rep := by rw [ef71, q_setr (Or.inr (by decide))]; exact z60
    have z79 : q_ir (q_r f71 x 6) now := by rw [ef71, q_setr (Or.inr (by decide))]; exact z61
    have z80 : q_ir (q_r f71 x 7) dr := by rw [ef71, q_setr (Or.inr (by decide))]; exact z62
    have z81 : q_ir (q_r f71 x 8) sv := by rw [ef71, q_setr (Or.inr (by decide))]; exact z63
    have z82 : q_ir (q_r f71 fc 0) tr := by rw [ef71, q_setr (Or.inl (fun q => by rw [q, kout] at kfc; exact absurd kfc (by decide)))]; exact z64
    have z83 : q_ir (q_r f71 so 0) ba := by rw [ef71, q_setr (Or.inl (fun q => by rw [q, kout] at kso; exact absurd kso (by decide)))]; exact z65
    have z84 : q_ir (q_r f71 dr 0) nds := by rw [ef71, q_setr (Or.inl (fun q => by rw [q, kout] at kdr; exact absurd kdr (by decide)))]; exact z66
    have z85 : q_ir (q_r f71 hist 0) ka := by rw [ef71, q_setr (Or.inl (fun q => by rw [q, kout] at khist; exact absurd khist (by decide)))]; exact z67
    have z86 : q_ir (q_r f71 now 0) ndn := by rw [ef71, q_setr (Or.inl (fun q => by rw [q, kout] at know; exact absurd know (by decide)))]; exact z68
    have z87 : q_ir (q_r f71 sv 0) nsv := by rw [ef71, q_setr (Or.inl (fun q => by rw [q, kout] at ksv; exact absurd ksv (by decide)))]; exact z69
    have g88 : tk_vs K L f71 x sv nsv ls9 := tk_vs_tr g54 (by rw [ef71, q_setz (Or.inr (by decide))]) (by rw [ef71, q_setz (Or.inr (by decide))]) (fun a9 h9 k9 => by rw [ef71, q_setj (Or.inl (fun q => by rw [q, kout] at k9; exact absurd k9 (by decide)))]) (fun i9 => by rw [ef71, q_setr (Or.inl (fun q => by rw [q, kout] at knsv; exact absurd knsv (by decide)))])
    have g89 : tk_vk K L f71 hist ka now ndn := tk_vk_tr g53 (by rw [ef71, q_setz (Or.inr (by decide))]) (by rw [ef71, q_setz (Or.inr (by decide))]) (by rw [ef71, q_setz (Or.inr (by decide))]) (fun a9 h9 k9 => by rw [ef71, q_setj (Or.inl (fun q => by rw [q, kout] at k9; exact absurd k9 (by decide)))]) (fun i9 => by rw [ef71, q_setr (Or.inl (fun q => by rw [q, kout] at kndn; exact absurd kndn (by decide)))]) (fun a9 h9 k9 => by rw [ef71, q_setz (Or.inl (fun q => by rw [q, kout] at k9; exact absurd k9 (by decide)))]) (fun a9 h9 k9 => by rw [ef71, q_setj (Or.inl (fun q => by rw [q, kout] at k9; exact absurd k9 (by decide)))]) (fun i9 => by rw [ef71, q_setr (Or.inl (fun q => by rw [q, kout] at kka; exact absurd kka (by decide)))]) (fun a9 h9 k9 => by rw [ef71, q_setr (Or.inl (fun q => by rw [q, kout] at k9; exact absurd k9 (by decide)))]) (fun a9 h9 k9 i9 => by rw [ef71, q_setr (Or.inl (fun q => by rw [q, kout] at k9; exact absurd k9 (by decide)))])
    have g90 : tk_vn K L 5 f71 now ndn ls9 := tk_vn_tr t51 (by rw [ef71, q_setz (Or.inr (by decide))]) (fun a9 h9 k9 => by rw [ef71, q_setj (Or.inl (fun q => by rw [q, kout] at k9; exact absurd k9 (by decide)))]) (fun i9 => by rw [ef71, q_setr (Or.inl (fun q => by rw [q, kout] at kndn; exact absurd kndn (by decide)))])
    refine lv_goto (tgt := 14) cx.1 cx.2.1 dL_restore_8 (by decide) ?_
    refine q_iconst cx dL_restore_14 ?_
    refine W.widen (k := 1) (n := 6) (by decide) (by decide) ?_
    refine q_iret cx hr hlk hB dL_restore_15 ⟨by decide, by decide⟩ ?_
    exact (Or.inl ⟨rfl, t52, g90, g89, g88⟩)
