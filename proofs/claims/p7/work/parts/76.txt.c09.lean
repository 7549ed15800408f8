set_option maxHeartbeats 4000000 in
set_option maxRecDepth 100000 in
theorem f_wreadText (l : Launch) (g : q_G) (ad : Nat → Nat) {K : Nat → Nat} {L : List Nat} (hN : L.Nodup) {f : Nat → va_E} (hT : q_Ty g K L f) (hfl : l.stackTraces = false) (B : Nat → Int) (nl9 : List (List Int)) (x : Nat) (hx : x ∈ L) (kx : K x = 11) (out : Nat) (hout : out ∈ L) (kout : K out = 168) (so : Nat) (hso : so ∈ L) (kso : K so = 8) (rd : Nat) (hrd : rd ∈ L) (krd : K rd = 9) (scr : Nat) (hscr : scr ∈ L) (kscr : K scr = 7) (fc : Nat) (hfc : fc ∈ L) (kfc : K fc = 1) (hist : Nat) (hhist : hist ∈ L) (khist : K hist = 2) (rep : Nat) (hrep : rep ∈ L) (krep : K rep = 6) (now : Nat) (hnow : now ∈ L) (know : K now = 10) (dr : Nat) (hdr : dr ∈ L) (kdr : K dr = 13) (sv : Nat) (hsv : sv ∈ L) (ksv : K sv = 14) (tr : Nat) (htr : tr ∈ L) (ktr : K tr = 15) (ba : Nat) (hba : ba ∈ L) (kba : K ba = 142) (nds : Nat) (hnds : nds ∈ L) (knds : K nds = 111) (ka : Nat) (hka : ka ∈ L) (kka : K ka = 140) (ndn : Nat) (hndn : ndn ∈ L) (kndn : K ndn = 110) (nsv : Nat) (hnsv : nsv ∈ L) (knsv : K nsv = 112) (tn : Int) (ltn : 0 ≤ tn) (utn : tn ≤ 600) (hf0 : q_is (q_z f so 1) tn) (hr0 : q_ir (q_r f x 0) so) (hr1 : q_ir (q_r f x 1) rd) (hr2 : q_ir (q_r f x 2) scr) (hr3 : q_ir (q_r f x 3) fc) (hr4 : q_ir (q_r f x 4) hist) (hr5 : q_ir (q_r f x 5) rep) (hr6 : q_ir (q_r f x 6) now) (hr7 : q_ir (q_r f x 7) dr) (hr8 : q_ir (q_r f x 8) sv) (hr9 : q_ir (q_r f fc 0) tr) (hr10 : q_ir (q_r f so 0) ba) (hr11 : q_ir (q_r f dr 0) nds) (hr12 : q_ir (q_r f hist 0) ka) (hr13 : q_ir (q_r f now 0) ndn) (hr14 : q_ir (q_r f sv 0) nsv) (htb : tk_tb f ba B tn) (hij : tk_ij K L f nds) (hvn : tk_vn K L 5 f now ndn nl9) (hvk : tk_vk K L f hist ka now ndn) : q_Wt l g ad K L yL_readText cL_readText 3 (some .int) [(0, 8, 11, 19)] 10 220 1 6 [.ref x, .ref out] f [(2, 2, 2), (3, 0, 4), (4, 0, 7), (5, 0, 8), (8, 1, 9), (9, 0, 2), (10, 3, 12), (13, 3, 12), (17, 0, 8), (21, 0, 4), (168, 0, 0)] (q_Pi (fun (z : Int) (f1 : Nat → va_E) => (z = 0 ∧ q_is (q_z f1 so 1) 0 ∧ q_is (q_z f1 so 2) 0 ∧ q_is (q_z f1 so 3) (-1) ∧ (∃ A1 : tk_A, tk_T B tn (tk_S B tn 0) tk_A0 = tk_ok A1 ∧ (tk_nd A1).length ≤ 10 ∧ q_j f1 out 0 = q_l ((tk_nd A1).length : Int) ∧ tk_vn K L 5 f1 now ndn (tk_nd A1)) ∧ (tk_vk K L f1 hist ka now ndn)) ∨ (z = 1 ∧ q_is (q_z f1 so 1) 0 ∧ (tk_T B tn (tk_S B tn 0) tk_A0 = tk_er (q_z f1 so 2) (q_z f1 so 3)) ∧ (tk_vn K L 5 f1 now ndn nl9) ∧ (tk_vk K L f1 hist ka now ndn)))) := by
  refine q_wofb (by decide +kernel) hN hT (Nat.le_of_ble_eq_true rfl) ?_
  intro p e s m below meth c ls cx hr hlk htab hX hB hl
  have hl : lv_has ls 3 [(0, .ref x), (1, .ref out)] := hl
  obtain ⟨H, hH⟩ : ∃ H : Heap, H = s.heap := ⟨_, rfl⟩
  obtain ⟨locs, hlocs⟩ : ∃ z : List Loc, z = [] := ⟨_, rfl⟩
  rw [← hH, ← hlocs] at hB
  rw [← hH, ← hlocs]
  refine q_ald_n cx dL_readText_0 rfl (lv_at hl 1 rfl) ?_
  refine q_iconst cx dL_readText_1 ?_
  refine q_ald_n cx dL_readText_2 rfl (lv_at hl 0 rfl) ?_
  refine q_cXV (As := []) (rest := [.int (q_i 0), .ref out]) cx hX hB (fun _ h => h) (fun _ h _ => h) hN hx kx (by decide) rfl (f_xreadText l g ad hN hB.2.1 hfl B nl9 x hx kx so hso kso rd hrd krd scr hscr kscr fc hfc kfc hist hhist khist rep hrep krep now hnow know dr hdr kdr sv hsv ksv tr htr ktr ba hba kba nds hnds knds ka hka kka ndn hndn kndn nsv hnsv knsv tn (by omega) (by omega) hf0 hr0 hr1 hr2 hr3 hr4 hr5 hr6 hr7 hr8 hr9 hr10 hr11 hr12 hr13 hr14 htb hij hvn hvk) q_cL_21 q_dX11_readText (by decide) rfl rfl hl.1 rfl (Nat.le_of_ble_eq_true rfl) dL_readText_3 (fun E9 ce9 q9 H locs f76 hex hF hB hcell hcv hcl => ?_) (fun v9 H locs f73 h75 hF hB => ?_)
  · rcases hex with ⟨rfl, t77, z78, g79, g80⟩
    · have z81 : q_ir (q_r f76 x 0) so := Eq.trans (hF.r hx (by rw [kx]; rfl)) hr0
      have z82 : q_ir (q_r f76 x 1) rd := Eq.trans (hF.r hx (by rw [kx]; rfl)) hr1
      have z83 : q_ir (q_r f76 x 2) scr := Eq.trans (hF.r hx (by rw [kx]; rfl)) hr2
      have z84 : q_ir (q_r f76 x 3) fc := Eq.trans (hF.r hx (by rw [kx]; rfl)) hr3
      have z85 : q_ir (q_r f76 x 4) hist := Eq.trans (hF.r hx (by rw [kx]; rfl)) hr4
      have z86 : q_ir (q_r f76 x 5) rep := Eq.trans (hF.r hx (by rw [kx]; rfl)) hr5
      have z87 : q_ir (q_r f76 x 6) now := Eq.trans (hF.r hx (by rw [kx]; rfl)) hr6
      have z88 : q_ir (q_r f76 x 7) dr := Eq.trans (hF.r hx (by rw [kx]; rfl)) hr7
      have z89 : q_ir (q_r f76 x 8) sv := Eq.trans (hF.r hx (by rw [kx]; rfl)) hr8
      have z90 : q_ir (q_r f76 fc 0) tr := Eq.trans (hF.r hfc (by rw [kfc]; rfl)) hr9
      have z91 : q_ir (q_r f76 so 0) ba := Eq.trans (hF.r hso (by rw [kso]; rfl)) hr10
      have z92 : q_ir (q_r f76 dr 0) nds := Eq.trans (hF.r hdr (by rw [kdr]; rfl)) hr11
      have z93 : q_ir (q_r f76 hist 0) ka := Eq.trans (hF.r hhist (by rw [khist]; rfl)) hr12
      have z94 : q_ir (q_r f76 now 0) ndn := Eq.trans (hF.r hnow (by rw [know]; rfl)) hr13
      have z95 : q_ir (q_r f76 sv 0) nsv := Eq.trans (hF.r hsv (by rw [ksv]; rfl)) hr14
      have g96 : tk_tb f76 ba B tn := tk_tb_tr htb (fun i9 => hF.z hba (by rw [kba]; rfl))
      have g97 : tk_ij K L f76 nds := tk_ij_tr hij (fun i9 => hF.r hnds (by rw [knds]; rfl))
      refine vx_catch (E := "java/lang/IllegalArgumentException") (name := "java/lang/IllegalArgumentException") cx.2.2.2.1 [] ⟨0, 8, 11, 19⟩ [] (htab.trans rfl) (q_pnil) (by decide) (by decide) (cx.2.2.2.2 _ q_h875) (va_Nw.use rfl (hX.2.2.2.1 (.castable "java/lang/IllegalArgumentException" "java/lang/IllegalArgumentException") (by decide +kernel))) hcell hcv hcl ?_
      refine lv_astore_n (lv' := [(2, .ref q9), (0, .ref x), (1, .ref out)]) cx.1 cx.2.1 dL_readText_11 rfl hl (by decide) rfl (fun ls hl => ?_)
      refine q_iconst cx dL_readText_12 ?_
      refine W.widen (k := 1) (n := 6) (by decide) (by decide) ?_
      refine q_iret cx hr hlk hB dL_readText_13 ⟨by decide, by decide⟩ ?_
      exact (Or.inr ⟨rfl, z78, t77, g80, g79⟩)
  · obtain ⟨y74, rfl, ry74, h75⟩ := h75
    refine W.eq (g2 := F0 m 6 ls [.int (q_i y74), .int (q_i 0), .ref out]) rfl ?_
    obtain ⟨ly74, uy74, z98, z99, z100, t101, g102⟩ := h75
    have z103 : q_ir (q_r f73 x 0) so := Eq.trans (hF.r hx (by rw [kx]; rfl)) hr0
    have z104 : q_ir (q_r f73 x 1) rd := Eq.trans (hF.r hx (by rw [kx]; rfl)) hr1
    have z105 : q_ir (q_r f73 x 2) scr := Eq.trans (hF.r hx (by rw [kx]; rfl)) hr2
    have z106 : q_ir (q_r f73 x 3) fc := Eq.trans (hF.r hx (by rw [kx]; rfl)) hr3
    have z107 : q_ir (q_r f73 x 4) hist := Eq.trans (hF.r hx (by rw [kx]; rfl)) hr4
    have z108 : q_ir (q_r f73 x 5) rep := Eq.trans (hF.r hx (by rw [kx]; rfl)) hr5
    have z109 : q_ir (q_r f73 x 6) now := Eq.trans (hF.r hx (by rw [kx]; rfl)) hr6
    have z110 : q_ir (q_r f73 x 7) dr := Eq.trans (hF.r hx (by rw [kx]; rfl)) hr7
    have z111 : q_ir (q_r f73 x 8) sv := Eq.trans (hF.r hx (by rw [kx]; rfl)) hr8
    have z112 : q_ir (q_r f73 fc 0) tr := Eq.trans (hF.r hfc (by rw [kfc]; rfl)) hr9
    have z113 : q_ir (q_r f73 so 0) ba := Eq.trans (hF.r hso (by rw [kso]; rfl)) hr10
    have z114 : q_ir (q_r f73 dr 0) nds := Eq.trans (hF.r hdr (by rw [kdr]; rfl)) hr11
    have z115 : q_ir (q_r f73 hist 0) ka := Eq.trans (hF.r hhist (by rw [khist]; rfl)) hr12
    have z116 : q_ir (q_r f73 now 0) ndn := Eq.trans (hF.r hnow (by rw [know]; rfl)) hr13
    have z117 : q_ir (q_r f73 sv 0) nsv := Eq.trans (hF.r hsv (by rw [ksv]; rfl)) hr14
    have g118 : tk_tb f73 ba B tn := tk_tb_tr htb (fun i9 => hF.z hba (by rw [kba]; rfl))
    have g119 : tk_ij K L f73 nds := tk_ij_tr hij (fun i9 => hF.r hnds (by rw [knds]; rfl))
    obtain ⟨A120, hA120, lA120, vA120⟩ := t101
    refine q_i2l cx ⟨by omega, by omega⟩ dL_readText_6 ?_
    refine q_last (n := 1) cx hB hout kout (by decide) rfl rfl (by decide) (by decide) (by decide) rfl rfl dL_readText_7 (fun H locs f121 ef121 z122 hB => ?_)
    have z123 : q_is (q_z f121 so 1) 0 := by rw [ef121, q_setz (Or.inr (by decide))]; exact z98
    have z124 : q_is (q_z f121 so 2) 0 := by rw [ef121, q_setz (Or.inr (by decide))]; exact z99
    have z125 : q_is (q_z f121 so 3) (-1) := by rw [ef121, q_setz (Or.inr (by decide))]; exact z100
    have z126 : q_ir (q_r f121 x 0) so := by rw [ef121, q_setr (Or.inl (fun q => by rw [q, kout] at kx; exact absurd kx (by decide)))]; exact z103
    have z127 : q_ir (q_r f121 x 1) rd := by rw [ef121, q_setr (Or.inr (by decide))]; exact z104
    have z128 : q_ir (q_r f121 x 2) scr := by rw [ef121, q_setr (Or.inr (by decide))]; exact z105
    have z129 : q_ir (q_r f121 x 3) fc := by rw [ef121, q_setr (Or.inr (by decide))]; exact z106
    have z130 : q_ir (q_r f121 x 4) hist := by rw [ef121, q_setr (Or.inr (by decide))]; exact z107
    have z131 : q_ir (q_r f121 x 5) rep := by rw [ef121, q_setr (Or.inr (by decide))]; exact z108
    have z132 : q_ir (q_r f121 x 6) now := by rw [ef121, q_setr (Or.inr (by decide))]; exact z109
    have z133 : q_ir (q_r f121 x 7) dr := by rw [ef121, q_setr (Or.inr (by decide))]; exact z110
    have z134 : q_ir (q_r f121 x 8) sv := by rw [ef121, q_setr (Or.inr (by decide))]; exact z111
    have z135 : q_ir (q_r f121 fc 0) tr := by rw [ef121, q_setr (Or.inl (fun q => by rw [q, kout] at kfc; exact absurd kfc (by decide)))]; exact z112
    have z136 : q_ir (q_r f121 so 0) ba := by rw [ef121, q_setr (Or.inl (fun q => by rw [q, kout] at kso; exact absurd kso (by decide)))]; exact z113
    have z137 : q_ir (q_r f121 dr 0) nds := by rw [ef121, q_setr (Or.inl (fun q => by rw [q, kout] at kdr; exact absurd kdr (by decide)))]; exact z114
    have z138 : q_ir (q_r f121 hist 0) ka := by rw [ef121, q_setr (Or.inl (fun q => by rw [q, kout] at khist; exact absurd khist (by decide)))]; exact z115
    have z139 : q_ir (q_r f121 now 0) ndn := by rw [ef121, q_setr (Or.inl (fun q => by rw [q, kout] at know; exact absurd know (by decide)))]; exact z116
    have z140 : q_ir (q_r f121 sv 0) nsv := by rw [ef121, q_setr (Or.inl (fun q => by rw [q, kout] at ksv; exact absurd ksv (by decide)))]; exact z117
    have g141 : tk_tb f121 ba B tn := tk_tb_tr g118 (fun i9 => by rw [ef121, q_setz (Or.inl (fun q => by rw [q, kout] at kba; exact absurd kba (by decide)))])
    have g142 : tk_ij K L f121 nds := tk_ij_tr g119 (fun i9 => by rw [ef121, q_setr (Or.inl (fun q => by rw [q, kout] at knds; exact absurd knds (by decide)))])
    have g143 : tk_vk K L f121 hist ka now ndn := tk_vk_tr g102 (by rw [ef121, q_setz (Or.inr (by decide))]) (by rw [ef121, q_setz (Or.inr (by decide))]) (by rw [ef121, q_setz (Or.inr (by decide))]) (fun a9 h9 k9 => by rw [ef121, q_setj (Or.inl (fun q => by rw [q, kout] at k9; exact absurd k9 (by decide)))]) (fun i9 => by rw [ef121, q_setr (Or.inl (fun q => by rw [q, kout] at kndn; exact absurd kndn (by decide)))]) (fun a9 h9 k9 => by rw [ef121, q_setz (Or.inl (fun q => by rw [q, kout] at k9; exact absurd k9 (by decide)))]) (fun a9 h9 k9 => by rw [ef121, q_setj (Or.inl (fun q => by rw [q, kout] at k9; exact absurd k9 (by decide)))]) (fun i9 => by rw [ef121, q_setr (Or.inl (fun q => by rw [q, kout] at kka; exact absurd kka (by decide)))]) (fun a9 h9 k9 => by rw [ef121, q_setr (Or.inl (fun q => by rw [q, kout] at k9; exact absurd k9 (by decide)))]) (fun a9 h9 k9 i9 => by rw [ef121, q_setr (Or.inl (fun q => by rw [q, kout] at k9; exact absurd k9 (by decide)))])
    have g144 : tk_vn K L 5 f121 now ndn (tk_nd A120) := tk_vn_tr vA120 (by rw [ef121, q_setz (Or.inr (by decide))]) (fun a9 h9 k9 => by rw [ef121, q_setj (Or.inl (fun q => by rw [q, kout] at k9; exact absurd k9 (by decide)))]) (fun i9 => by rw [ef121, q_setr (Or.inl (fun q => by rw [q, kout] at kndn; exact absurd kndn (by decide)))])
    refine lv_goto (tgt := 14) cx.1 cx.2.1 dL_readText_8 (by decide) ?_
    refine q_iconst cx dL_readText_14 ?_
    refine W.widen (k := 1) (n := 6) (by decide) (by decide) ?_
    refine q_iret cx hr hlk hB dL_readText_15 ⟨by decide, by decide⟩ ?_
    exact (Or.inl ⟨rfl, z123, z124, z125, ⟨A120, hA120, by omega, (Eq.trans z122 (congrArg q_l lA120)), g144⟩, g143⟩)
