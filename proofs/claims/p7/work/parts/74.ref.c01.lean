set_option maxHeartbeats 4000000 in
set_option maxRecDepth 100000 in
theorem f_mgoOn (l : Launch) (g : q_G) {K : Nat → Nat} {L : List Nat} (hN : L.Nodup) {f : Nat → va_E} (hT : q_Ty g K L f) (B : Nat → Int) (mo : Nat) (hmo : mo ∈ L) (kmo : K mo = 12) (bu : Nat) (hbu : bu ∈ L) (kbu : K bu = 150) (tn : Int) (ltn : 0 ≤ tn) (utn : tn ≤ 600) (nx : Int) (lnx : 0 ≤ nx) (unx : nx ≤ 600) (hf0 : q_is (q_z f mo 3) tn) (hf1 : q_is (q_z f mo 4) nx) (hr0 : q_ir (q_r f mo 1) bu) (hp0 : nx ≤ tn) (hub : tk_ub f bu B tn) : q_Ct l g K L yX12_goOn cX12_goOn 3 none 1 21 [.ref mo] f [(12, 4, 7), (12, 12, 12)] (q_Pv (fun (f1 : Nat → va_E) => (q_z f1 mo 5 = tk_S B tn nx) ∧ (tk_tr f1 mo B tn))) := by
  refine q_ofb (by decide +kernel) hN hT (Nat.le_of_ble_eq_true rfl) ?_
  intro p e s m below meth c ls cx hr hlk hB hl
  have hl : lv_has ls 3 [(0, .ref mo)] := hl
  have J76 : ∀ (n : Nat) (f76 : Nat → va_E) (v76_2 : Int) (lv76_2 : 0 ≤ v76_2) (uv76_2 : v76_2 ≤ 600) (w76_mo_4 : Int) (lw76_mo_4 : 0 ≤ w76_mo_4) (uw76_mo_4 : w76_mo_4 ≤ 599) (w76_mo_5 : Int) (lw76_mo_5 : 0 ≤ w76_mo_5) (uw76_mo_5 : w76_mo_5 ≤ 599) (w76_mo_7 : Int) (lw76_mo_7 : 0 ≤ w76_mo_7) (uw76_mo_7 : w76_mo_7 ≤ 0) (bltn : 1 ≤ tn) (hj_mo_3 : q_is (q_z f76 mo 3) tn) (hj_mo_4 : q_is (q_z f76 mo 4) w76_mo_4) (hj_mo_5 : q_is (q_z f76 mo 5) w76_mo_5) (hj_mo_7 : q_is (q_z f76 mo 7) w76_mo_7) (hq_mo_1 : q_ir (q_r f76 mo 1) bu) (hub76 : tk_ub f76 bu B tn) (hrl76_0 : 1 * w76_mo_4 + -1 * tn + 0 ≤ (-1)) (hrl76_1 : 1 * w76_mo_4 + 1 * v76_2 + -1 * tn + 0 ≤ 0) (hrl76_2 : 0 ≤ 1 * w76_mo_5 + -1 * w76_mo_4 + 0 ∧ 1 * w76_mo_5 + -1 * w76_mo_4 + 0 ≤ 0) (hs76 : w76_mo_4 = tk_S B tn nx) (hl76 : tk_lt (B (Int.toNat w76_mo_4)) = true) (hru76 : (w76_mo_4 + v76_2) + tk_run tk_lt B tn (w76_mo_4 + v76_2) = w76_mo_4 + tk_run tk_lt B tn w76_mo_4) (hwo : q_j f76 mo 12 = tk_mw (tk_ls B w76_mo_4 (min 8 (Int.toNat v76_2)))) (hmu : (Int.toNat (601 - v76_2)) < n) (H : Heap) (locs : List Loc) (hB : q_B g K L (fun q => q ∈ L) [(12, 4, 7), (12, 12, 12)] f f76 s H locs) (ls : Array Slot) (hl : lv_has ls 3 [(0, .ref mo), (2, .int (q_i v76_2))]), W p l e { frames := 1, cells := 0, slots := 0, locals := 21 } s m ([.ref mo] : List Value).toArray below meth c H locs 0 0 (MQ below (q_Q g K L [(12, 4, 7), (12, 12, 12)] f (q_Pv (fun (f1 : Nat → va_E) => (q_z f1 mo 5 = tk_S B tn nx) ∧ (tk_tr f1 mo B tn)))) ([.ref mo] : List Value).toArray s 0 0 (fun q => q ∈ L)) (F0 m 76 ls []) := by
    intro n
    induction n with
    | zero =>
      intro f76 v76_2 lv76_2 uv76_2 w76_mo_4 lw76_mo_4 uw76_mo_4 w76_mo_5 lw76_mo_5 uw76_mo_5 w76_mo_7 lw76_mo_7 uw76_mo_7 bltn hj_mo_3 hj_mo_4 hj_mo_5 hj_mo_7 hq_mo_1 hub76 hrl76_0 hrl76_1 hrl76_2 hs76 hl76 hru76 hwo hmu
      exact absurd hmu (Nat.not_lt_zero _)
    | succ n ih76 =>
      intro f76 v76_2 lv76_2 uv76_2 w76_mo_4 lw76_mo_4 uw76_mo_4 w76_mo_5 lw76_mo_5 uw76_mo_5 w76_mo_7 lw76_mo_7 uw76_mo_7 bltn hj_mo_3 hj_mo_4 hj_mo_5 hj_mo_7 hq_mo_1 hub76 hrl76_0 hrl76_1 hrl76_2 hs76 hl76 hru76 hwo hmu H locs hB ls hl
      refine q_ald_n cx dX12_goOn_76 rfl (lv_at hl 0 rfl) ?_
      refine q_ild_n cx dX12_goOn_77 rfl (lv_at hl 1 rfl) ?_
      refine q_cVi (As := [.int (q_i v76_2)]) (rest := []) cx hB (fun _ h => h) hN hmo kmo (by decide) rfl (f_mhere l g hN hB.2.1 B mo hmo kmo v76_2 (by omega) (by omega) bu hbu kbu w76_mo_4 (by omega) (by omega) tn (by omega) (by omega) hj_mo_4 hj_mo_3 hq_mo_1 hub76) q_cX12_103 q_dX12_here (by decide) rfl rfl hl.1 rfl (Nat.le_of_ble_eq_true rfl) dX12_goOn_78 (fun y6286 H locs f6285 ry6286 h6287 hF hB => ?_)
      rcases h6287 with h6288 | h6289
      · obtain ⟨rfl, ly6286, uy6286, t6290, t6291⟩ := h6288
        refine q_cSi (As := [.int (q_i y6286)]) (rest := []) cx hB (fun _ h => h) hN (f_misLetter l g hN hB.2.1 y6286 (by omega) (by omega)) q_cX12_120 q_dX12_isLetter (by decide) rfl rfl hl.1 rfl (Nat.le_of_ble_eq_true rfl) dX12_goOn_81 (fun y6293 H locs f6292 ry6293 h6294 hF hB => ?_)
        rcases h6294 with h6295 | h6296
        · obtain ⟨rfl, qy6293, t6297, t6298, t6299⟩ := h6295
          subst qy6293
          refine q_ifeq (tgt := 121) cx ⟨by decide, by decide⟩ dX12_goOn_84 (by decide) (fun c6300 => ?_) (fun c6300 => ?_)
          · exact absurd c6300 (by omega)
          · have hlt9 : tk_lt (B (Int.toNat (w76_mo_4 + v76_2))) = true := ((tk_uL hub76 t6290 (by omega) (by omega) (by omega)).symm.trans t6299)
            refine q_ild_n cx dX12_goOn_87 rfl (lv_at hl 1 rfl) ?_
            refine q_bipush cx dX12_goOn_88 rfl ?_
            refine q_icge (tgt := 115) cx ⟨by omega, by omega⟩ ⟨by decide, by decide⟩ dX12_goOn_90 (by decide) (fun c6301 => ?_) (fun c6301 => ?_)
            · refine q_iinc (lv' := [(2, .int (q_i (v76_2 + 1))), (0, .ref mo)]) cx dX12_goOn_115 hl (k := 1) rfl (by decide) rfl (fun ls hl => ?_)
              refine lv_goto (tgt := 76) cx.1 cx.2.1 dX12_goOn_118 (by decide) ?_
              exact ih76 f76 (v76_2 + 1) (by omega) (by omega) w76_mo_4 (by omega) (by omega) w76_mo_5 (by omega) (by omega) w76_mo_7 (by omega) (by omega) (by omega) hj_mo_3 hj_mo_4 hj_mo_5 hj_mo_7 hq_mo_1 hub76 (by omega) (by omega) (by omega) hs76 hl76 (tk_ur_step hru76 (by omega) (by omega) hlt9) (tk_mwo_same (by omega) hwo) (by omega) H locs hB ls (lv_sub hl [1, 0] rfl)
            · refine q_ald_n cx dX12_goOn_93 rfl (lv_at hl 0 rfl) ?_
              refine q_ald_n cx dX12_goOn_94 rfl (lv_at hl 0 rfl) ?_
              refine q_gX12_110 cx hB hmo kmo hwo dX12_goOn_95 ?_
              refine q_iconst cx dX12_goOn_98 ?_
              refine lv_lshl cx.1 cx.2.1 dX12_goOn_99 rfl ?_
              refine lv_topl (fun j6302 ej6302 => ?_)
              refine q_ald_n cx dX12_goOn_100 rfl (lv_at hl 0 rfl) ?_
              refine q_ild_n cx dX12_goOn_101 rfl (lv_at hl 1 rfl) ?_
              refine q_cVi (As := [.int (q_i v76_2)]) (rest := [.long j6302, .ref mo]) cx hB (fun _ h => h) hN hmo kmo (by decide) rfl (f_mhere l g hN hB.2.1 B mo hmo kmo v76_2 (by omega) (by omega) bu hbu kbu w76_mo_4 (by omega) (by omega) tn (by omega) (by omega) hj_mo_4 hj_mo_3 hq_mo_1 hub76) q_cX12_103 q_dX12_here (by decide) rfl rfl hl.1 rfl (Nat.le_of_ble_eq_true rfl) dX12_goOn_102 (fun y6304 H locs f6303 ry6304 h6305 hF hB => ?_)
              rcases h6305 with h6306 | h6307
              · obtain ⟨rfl, ly6304, uy6304, t6308, t6309⟩ := h6306
                refine q_bipush cx dX12_goOn_105 rfl ?_
                refine q_isub cx dX12_goOn_107 ?_
                refine q_iconst cx dX12_goOn_108 ?_
                refine q_iadd cx dX12_goOn_109 ?_
                refine q_i2l cx ⟨by omega, by omega⟩ dX12_goOn_110 ?_
                refine lv_lor cx.1 cx.2.1 dX12_goOn_111 ?_
                refine lv_topl (fun j6310 ej6310 => ?_)
                refine q_pX12_110 cx hB hmo kmo rfl dX12_goOn_112 (fun H locs f6311 ef6311 z6312 hB => ?_)
                have z6313 : q_is (q_z f6311 mo 3) tn := by rw [ef6311, q_setz (Or.inr (by decide))]; exact hj_mo_3
                have z6314 : q_is (q_z f6311 mo 4) w76_mo_4 := by rw [ef6311, q_setz (Or.inr (by decide))]; exact hj_mo_4
                have z6315 : q_is (q_z f6311 mo 5) w76_mo_5 := by rw [ef6311, q_setz (Or.inr (by decide))]; exact hj_mo_5
                have z6316 : q_is (q_z f6311 mo 7) w76_mo_7 := by rw [ef6311, q_setz (Or.inr (by decide))]; exact hj_mo_7
                have z6317 : q_ir (q_r f6311 mo 1) bu := by rw [ef6311, q_setr (Or.inr (by decide))]; exact hq_mo_1
                have g6318 : tk_ub f6311 bu B tn := tk_ub_tr hub76 (fun i9 => by rw [ef6311, q_setz (Or.inl (fun q => by rw [q, kmo] at kbu; exact absurd kbu (by decide)))])
                refine q_iinc (lv' := [(2, .int (q_i (v76_2 + 1))), (0, .ref mo)]) cx dX12_goOn_115 hl (k := 1) rfl (by decide) rfl (fun ls hl => ?_)
                refine lv_goto (tgt := 76) cx.1 cx.2.1 dX12_goOn_118 (by decide) ?_
                exact ih76 f6311 (v76_2 + 1) (by omega) (by omega) w76_mo_4 (by omega) (by omega) w76_mo_5 (by omega) (by omega) w76_mo_7 (by omega) (by omega) (by omega) z6313 z6314 z6315 z6316 z6317 g6318 (by omega) (by omega) (by omega) hs76 hl76 (tk_ur_step hru76 (by omega) (by omega) hlt9) (tk_mwo_step (by omega) (by omega) hru76 (by omega) (by omega) hlt9 (tk_uE g6318 t6308 (by omega) (by omega) (by omega) (by omega)) ej6302 ej6310 z6312) (by omega) H locs hB ls (lv_sub hl [1, 0] rfl)
              · obtain ⟨rfl, qy6304, t6319⟩ := h6307
                subst qy6304
                exact False.elim (by omega)
        · obtain ⟨rfl, qy6293, t6320⟩ := h6296
          subst qy6293
          refine q_ifeq (tgt := 121) cx ⟨by decide, by decide⟩ dX12_goOn_84 (by decide) (fun c6321 => ?_) (fun c6321 => ?_)
          · have hen : w76_mo_4 + v76_2 = w76_mo_4 + tk_run tk_lt B tn w76_mo_4 := tk_ur_end hru76 (fun _ => ((tk_uL hub76 t6290 (by omega) (by omega) (by omega)).symm.trans t6320))
            refine q_ald_n cx dX12_goOn_121 rfl (lv_at hl 0 rfl) ?_
            refine q_ild_n cx dX12_goOn_122 rfl (lv_at hl 1 rfl) ?_
            refine q_bipush cx dX12_goOn_123 rfl ?_
            refine q_icle (tgt := 132) cx ⟨by omega, by omega⟩ ⟨by decide, by decide⟩ dX12_goOn_125 (by decide) (fun c6322 => ?_) (fun c6322 => ?_)
            · refine q_iconst cx dX12_goOn_132 ?_
              refine q_pX12_117 cx hB hmo kmo ⟨by decide, by decide⟩ (by decide) (by decide) rfl dX12_goOn_133 (fun H locs f6323 ef6323 z6324 hB => ?_)
              have z6325 : q_is (q_z f6323 mo 3) tn := by rw [ef6323, q_setz (Or.inr (by decide))]; exact hj_mo_3
              have z6326 : q_is (q_z f6323 mo 4) w76_mo_4 := by rw [ef6323, q_setz (Or.inr (by decide))]; exact hj_mo_4
              have z6327 : q_is (q_z f6323 mo 5) w76_mo_5 := by rw [ef6323, q_setz (Or.inr (by decide))]; exact hj_mo_5
              have z6328 : q_is (q_z f6323 mo 7) w76_mo_7 := by rw [ef6323, q_setz (Or.inr (by decide))]; exact hj_mo_7
              have z6329 : q_j f6323 mo 12 = (tk_mw (tk_ls B w76_mo_4 (min 8 (Int.toNat v76_2)))) := by rw [ef6323, q_setj (Or.inr (by decide))]; exact hwo
              have z6330 : q_ir (q_r f6323 mo 1) bu := by rw [ef6323, q_setr (Or.inr (by decide))]; exact hq_mo_1
              have g6331 : tk_ub f6323 bu B tn := tk_ub_tr hub76 (fun i9 => by rw [ef6323, q_setz (Or.inl (fun q => by rw [q, kmo] at kbu; exact absurd kbu (by decide)))])
              refine lv_goto (tgt := 239) cx.1 cx.2.1 dX12_goOn_136 (by decide) ?_
              refine q_ald_n cx dX12_goOn_239 rfl (lv_at hl 0 rfl) ?_
              refine lv_dup cx.1 cx.2.1 dX12_goOn_240 rfl ?_
              refine q_gX12_97 cx hB hmo kmo z6326 dX12_goOn_241 (fun lb6332 ub6332 => ?_)
              refine q_ild_n cx dX12_goOn_244 rfl (lv_at hl 1 rfl) ?_
              refine q_iadd cx dX12_goOn_245 ?_
              refine q_pX12_97 cx hB hmo kmo ⟨by omega, by omega⟩ (by omega) (by omega) rfl dX12_goOn_246 (fun H locs f6333 ef6333 z6334 hB => ?_)
              have z6335 : q_is (q_z f6333 mo 3) tn := by rw [ef6333, q_setz (Or.inr (by decide))]; exact z6325
              have z6336 : q_is (q_z f6333 mo 5) w76_mo_5 := by rw [ef6333, q_setz (Or.inr (by decide))]; exact z6327
              have z6337 : q_is (q_z f6333 mo 7) w76_mo_7 := by rw [ef6333, q_setz (Or.inr (by decide))]; exact z6328
              have z6338 : q_is (q_z f6333 mo 6) 1 := by rw [ef6333, q_setz (Or.inr (by decide))]; exact z6324
              have z6339 : q_j f6333 mo 12 = (tk_mw (tk_ls B w76_mo_4 (min 8 (Int.toNat v76_2)))) := by rw [ef6333, q_setj (Or.inr (by decide))]; exact z6329
              have z6340 : q_ir (q_r f6333 mo 1) bu := by rw [ef6333, q_setr (Or.inr (by decide))]; exact z6330
              have g6341 : tk_ub f6333 bu B tn := tk_ub_tr g6331 (fun i9 => by rw [ef6333, q_setz (Or.inl (fun q => by rw [q, kmo] at kbu; exact absurd kbu (by decide)))])
              have htr9 : tk_tr f6333 mo B tn := tk_tr_word (Eq.trans z6336 (show w76_mo_5 = w76_mo_4 by omega)) z6334 (by omega) z6338 (by omega) (by omega) (by omega) hl76 hen z6339
              refine q_vret cx hr hlk hB dX12_goOn_249 ?_
              exact ⟨(Eq.trans (Eq.trans z6336 (show w76_mo_5 = w76_mo_4 by omega)) hs76), htr9⟩
            · refine q_iconst cx dX12_goOn_128 ?_
              refine lv_goto (tgt := 133) cx.1 cx.2.1 dX12_goOn_129 (by decide) ?_
              refine q_pX12_117 cx hB hmo kmo ⟨by decide, by decide⟩ (by decide) (by decide) rfl dX12_goOn_133 (fun H locs f6342 ef6342 z6343 hB => ?_)
              have z6344 : q_is (q_z f6342 mo 3) tn := by rw [ef6342, q_setz (Or.inr (by decide))]; exact hj_mo_3
              have z6345 : q_is (q_z f6342 mo 4) w76_mo_4 := by rw [ef6342, q_setz (Or.inr (by decide))]; exact hj_mo_4
              have z6346 : q_is (q_z f6342 mo 5) w76_mo_5 := by rw [ef6342, q_setz (Or.inr (by decide))]; exact hj_mo_5
              have z6347 : q_is (q_z f6342 mo 7) w76_mo_7 := by rw [ef6342, q_setz (Or.inr (by decide))]; exact hj_mo_7
              have z6348 : q_j f6342 mo 12 = (tk_mw (tk_ls B w76_mo_4 (min 8 (Int.toNat v76_2)))) := by rw [ef6342, q_setj (Or.inr (by decide))]; exact hwo
              have z6349 : q_ir (q_r f6342 mo 1) bu := by rw [ef6342, q_setr (Or.inr (by decide))]; exact hq_mo_1
              have g6350 : tk_ub f6342 bu B tn := tk_ub_tr hub76 (fun i9 => by rw [ef6342, q_setz (Or.inl (fun q => by rw [q, kmo] at kbu; exact absurd kbu (by decide)))])
              refine lv_goto (tgt := 239) cx.1 cx.2.1 dX12_goOn_136 (by decide) ?_
              refine q_ald_n cx dX12_goOn_239 rfl (lv_at hl 0 rfl) ?_
              refine lv_dup cx.1 cx.2.1 dX12_goOn_240 rfl ?_
              refine q_gX12_97 cx hB hmo kmo z6345 dX12_goOn_241 (fun lb6351 ub6351 => ?_)
              refine q_ild_n cx dX12_goOn_244 rfl (lv_at hl 1 rfl) ?_
              refine q_iadd cx dX12_goOn_245 ?_
              refine q_pX12_97 cx hB hmo kmo ⟨by omega, by omega⟩ (by omega) (by omega) rfl dX12_goOn_246 (fun H locs f6352 ef6352 z6353 hB => ?_)
              have z6354 : q_is (q_z f6352 mo 3) tn := by rw [ef6352, q_setz (Or.inr (by decide))]; exact z6344
              have z6355 : q_is (q_z f6352 mo 5) w76_mo_5 := by rw [ef6352, q_setz (Or.inr (by decide))]; exact z6346
              have z6356 : q_is (q_z f6352 mo 7) w76_mo_7 := by rw [ef6352, q_setz (Or.inr (by decide))]; exact z6347
              have z6357 : q_is (q_z f6352 mo 6) 4 := by rw [ef6352, q_setz (Or.inr (by decide))]; exact z6343
              have z6358 : q_j f6352 mo 12 = (tk_mw (tk_ls B w76_mo_4 (min 8 (Int.toNat v76_2)))) := by rw [ef6352, q_setj (Or.inr (by decide))]; exact z6348
              have z6359 : q_ir (q_r f6352 mo 1) bu := by rw [ef6352, q_setr (Or.inr (by decide))]; exact z6349
              have g6360 : tk_ub f6352 bu B tn := tk_ub_tr g6350 (fun i9 => by rw [ef6352, q_setz (Or.inl (fun q => by rw [q, kmo] at kbu; exact absurd kbu (by decide)))])
              have htr9 : tk_tr f6352 mo B tn := tk_tr_word (Eq.trans z6355 (show w76_mo_5 = w76_mo_4 by omega)) z6353 (by omega) z6357 (by omega) (by omega) (by omega) hl76 hen z6358
              refine q_vret cx hr hlk hB dX12_goOn_249 ?_
              exact ⟨(Eq.trans (Eq.trans z6355 (show w76_mo_5 = w76_mo_4 by omega)) hs76), htr9⟩
          · exact absurd c6321 (by omega)
      · obtain ⟨rfl, qy6286, t6361⟩ := h6289
        subst qy6286
        refine q_cSi (As := [.int (q_i (-1))]) (rest := []) cx hB (fun _ h => h) hN (f_misLetter l g hN hB.2.1 (-1) (by decide) (by decide)) q_cX12_120 q_dX12_isLetter (by decide) rfl rfl hl.1 rfl (Nat.le_of_ble_eq_true rfl) dX12_goOn_81 (fun y6363 H locs f6362 ry6363 h6364 hF hB => ?_)
        rcases h6364 with h6365 | h6366
        · obtain ⟨rfl, qy6363, t6367, t6368, t6369⟩ := h6365
          subst qy6363
          exact False.elim (by omega)
        · obtain ⟨rfl, qy6363, t6370⟩ := h6366
          subst qy6363
          refine q_ifeq (tgt := 121) cx ⟨by decide, by decide⟩ dX12_goOn_84 (by decide) (fun c6371 => ?_) (fun c6371 => ?_)
          · have hen : w76_mo_4 + v76_2 = w76_mo_4 + tk_run tk_lt B tn w76_mo_4 := tk_ur_end hru76 (fun h9 => absurd h9 (by omega))
            refine q_ald_n cx dX12_goOn_121 rfl (lv_at hl 0 rfl) ?_
            refine q_ild_n cx dX12_goOn_122 rfl (lv_at hl 1 rfl) ?_
            refine q_bipush cx dX12_goOn_123 rfl ?_
            refine q_icle (tgt := 132) cx ⟨by omega, by omega⟩ ⟨by decide, by decide⟩ dX12_goOn_125 (by decide) (fun c6372 => ?_) (fun c6372 => ?_)
            · refine q_iconst cx dX12_goOn_132 ?_
              refine q_pX12_117 cx hB hmo kmo ⟨by decide, by decide⟩ (by decide) (by decide) rfl dX12_goOn_133 (fun H locs f6373 ef6373 z6374 hB => ?_)
              have z6375 : q_is (q_z f6373 mo 3) tn := by rw [ef6373, q_setz (Or.inr (by decide))]; exact hj_mo_3
              have z6376 : q_is (q_z f6373 mo 4) w76_mo_4 := by rw [ef6373, q_setz (Or.inr (by decide))]; exact hj_mo_4
              have z6377 : q_is (q_z f6373 mo 5) w76_mo_5 := by rw [ef6373, q_setz (Or.inr (by decide))]; exact hj_mo_5
              have z6378 : q_is (q_z f6373 mo 7) w76_mo_7 := by rw [ef6373, q_setz (Or.inr (by decide))]; exact hj_mo_7
              have z6379 : q_j f6373 mo 12 = (tk_mw (tk_ls B w76_mo_4 (min 8 (Int.toNat v76_2)))) := by rw [ef6373, q_setj (Or.inr (by decide))]; exact hwo
              have z6380 : q_ir (q_r f6373 mo 1) bu := by rw [ef6373, q_setr (Or.inr (by decide))]; exact hq_mo_1
              have g6381 : tk_ub f6373 bu B tn := tk_ub_tr hub76 (fun i9 => by rw [ef6373, q_setz (Or.inl (fun q => by rw [q, kmo] at kbu; exact absurd kbu (by decide)))])
              refine lv_goto (tgt := 239) cx.1 cx.2.1 dX12_goOn_136 (by decide) ?_
              refine q_ald_n cx dX12_goOn_239 rfl (lv_at hl 0 rfl) ?_
              refine lv_dup cx.1 cx.2.1 dX12_goOn_240 rfl ?_
              refine q_gX12_97 cx hB hmo kmo z6376 dX12_goOn_241 (fun lb6382 ub6382 => ?_)
              refine q_ild_n cx dX12_goOn_244 rfl (lv_at hl 1 rfl) ?_
              refine q_iadd cx dX12_goOn_245 ?_
              refine q_pX12_97 cx hB hmo kmo ⟨by omega, by omega⟩ (by omega) (by omega) rfl dX12_goOn_246 (fun H locs f6383 ef6383 z6384 hB => ?_)
              have z6385 : q_is (q_z f6383 mo 3) tn := by rw [ef6383, q_setz (Or.inr (by decide))]; exact z6375
              have z6386 : q_is (q_z f6383 mo 5) w76_mo_5 := by rw [ef6383, q_setz (Or.inr (by decide))]; exact z6377
              have z6387 : q_is (q_z f6383 mo 7) w76_mo_7 := by rw [ef6383, q_setz (Or.inr (by decide))]; exact z6378
              have z6388 : q_is (q_z f6383 mo 6) 1 := by rw [ef6383, q_setz (Or.inr (by decide))]; exact z6374
              have z6389 : q_j f6383 mo 12 = (tk_mw (tk_ls B w76_mo_4 (min 8 (Int.toNat v76_2)))) := by rw [ef6383, q_setj (Or.inr (by decide))]; exact z6379
              have z6390 : q_ir (q_r f6383 mo 1) bu := by rw [ef6383, q_setr (Or.inr (by decide))]; exact z6380
              have g6391 : tk_ub f6383 bu B tn := tk_ub_tr g6381 (fun i9 => by rw [ef6383, q_setz (Or.inl (fun q => by rw [q, kmo] at kbu; exact absurd kbu (by decide)))])
              have htr9 : tk_tr f6383 mo B tn := tk_tr_word (Eq.trans z6386 (show w76_mo_5 = w76_mo_4 by omega)) z6384 (by omega) z6388 (by omega) (by omega) (by omega) hl76 hen z6389
              refine q_vret cx hr hlk hB dX12_goOn_249 ?_
              exact ⟨(Eq.trans (Eq.trans z6386 (show w76_mo_5 = w76_mo_4 by omega)) hs76), htr9⟩
            · refine q_iconst cx dX12_goOn_128 ?_
              refine lv_goto (tgt := 133) cx.1 cx.2.1 dX12_goOn_129 (by decide) ?_
              refine q_pX12_117 cx hB hmo kmo ⟨by decide, by decide⟩ (by decide) (by decide) rfl dX12_goOn_133 (fun H locs f6392 ef6392 z6393 hB => ?_)
              have z6394 : q_is (q_z f6392 mo 3) tn := by rw [ef6392, q_setz (Or.inr (by decide))]; exact hj_mo_3
              have z6395 : q_is (q_z f6392 mo 4) w76_mo_4 := by rw [ef6392, q_setz (Or.inr (by decide))]; exact hj_mo_4
              have z6396 : q_is (q_z f6392 mo 5) w76_mo_5 := by rw [ef6392, q_setz (Or.inr (by decide))]; exact hj_mo_5
              have z6397 : q_is (q_z f6392 mo 7) w76_mo_7 := by rw [ef6392, q_setz (Or.inr (by decide))]; exact hj_mo_7
              have z6398 : q_j f6392 mo 12 = (tk_mw (tk_ls B w76_mo_4 (min 8 (Int.toNat v76_2)))) := by rw [ef6392, q_setj (Or.inr (by decide))]; exact hwo
              have z6399 : q_ir (q_r f6392 mo 1) bu := by rw [ef6392, q_setr (Or.inr (by decide))]; exact hq_mo_1
              have g6400 : tk_ub f6392 bu B tn := tk_ub_tr hub76 (fun i9 => by rw [ef6392, q_setz (Or.inl (fun q => by rw [q, kmo] at kbu; exact absurd kbu (by decide)))])
              refine lv_goto (tgt := 239) cx.1 cx.2.1 dX12_goOn_136 (by decide) ?_
              refine q_ald_n cx dX12_goOn_239 rfl (lv_at hl 0 rfl) ?_
              refine lv_dup cx.1 cx.2.1 dX12_goOn_240 rfl ?_
              refine q_gX12_97 cx hB hmo kmo z6395 dX12_goOn_241 (fun lb6401 ub6401 => ?_)
              refine q_ild_n cx dX12_goOn_244 rfl (lv_at hl 1 rfl) ?_
              refine q_iadd cx dX12_goOn_245 ?_
              refine q_pX12_97 cx hB hmo kmo ⟨by omega, by omega⟩ (by omega) (by omega) rfl dX12_goOn_246 (fun H locs f6402 ef6402 z6403 hB => ?_)
              have z6404 : q_is (q_z f6402 mo 3) tn := by rw [ef6402, q_setz (Or.inr (by decide))]; exact z6394
              have z6405 : q_is (q_z f6402 mo 5) w76_mo_5 := by rw [ef6402, q_setz (Or.inr (by decide))]; exact z6396
              have z6406 : q_is (q_z f6402 mo 7) w76_mo_7 := by rw [ef6402, q_setz (Or.inr (by decide))]; exact z6397
              have z6407 : q_is (q_z f6402 mo 6) 4 := by rw [ef6402, q_setz (Or.inr (by decide))]; exact z6393
              have z6408 : q_j f6402 mo 12 = (tk_mw (tk_ls B w76_mo_4 (min 8 (Int.toNat v76_2)))) := by rw [ef6402, q_setj (Or.inr (by decide))]; exact z6398
              have z6409 : q_ir (q_r f6402 mo 1) bu := by rw [ef6402, q_setr (Or.inr (by decide))]; exact z6399
              have g6410 : tk_ub f6402 bu B tn := tk_ub_tr g6400 (fun i9 => by rw [ef6402, q_setz (Or.inl (fun q => by rw [q, kmo] at kbu; exact absurd kbu (by decide)))])
              have htr9 : tk_tr f6402 mo B tn := tk_tr_word (Eq.trans z6405 (show w76_mo_5 = w76_mo_4 by omega)) z6403 (by omega) z6407 (by omega) (by omega) (by omega) hl76 hen z6408
              refine q_vret cx hr hlk hB dX12_goOn_249 ?_
              exact ⟨(Eq.trans (Eq.trans z6405 (show w76_mo_5 = w76_mo_4 by omega)) hs76), htr9⟩
          · exact absurd c6371 (by omega)
  have J146 : ∀ (n : Nat) (f146 : Nat → va_E) (v146_2 : Int) (lv146_2 : 0 ≤ v146_2) (uv146_2 : v146_2 ≤ 600) (w146_mo_4 : Int) (lw146_mo_4 : 0 ≤ w146_mo_4) (uw146_mo_4 : w146_mo_4 ≤ 599) (w146_mo_5 : Int) (lw146_mo_5 : 0 ≤ w146_mo_5) (uw146_mo_5 : w146_mo_5 ≤ 599) (w146_mo_7 : Int) (lw146_mo_7 : 0 ≤ w146_mo_7) (uw146_mo_7 : w146_mo_7 ≤ 999) (bltn : 1 ≤ tn) (hj_mo_3 : q_is (q_z f146 mo 3) tn) (hj_mo_4 : q_is (q_z f146 mo 4) w146_mo_4) (hj_mo_5 : q_is (q_z f146 mo 5) w146_mo_5) (hj_mo_7 : q_is (q_z f146 mo 7) w146_mo_7) (hq_mo_1 : q_ir (q_r f146 mo 1) bu) (hub146 : tk_ub f146 bu B tn) (hrl146_0 : 1 * w146_mo_4 + -1 * tn + 0 ≤ (-1)) (hrl146_1 : 1 * w146_mo_4 + 1 * v146_2 + -1 * tn + 0 ≤ 0) (hrl146_2 : 0 ≤ 1 * w146_mo_5 + -1 * w146_mo_4 + 0 ∧ 1 * w146_mo_5 + -1 * w146_mo_4 + 0 ≤ 0) (hs146 : w146_mo_4 = tk_S B tn nx) (hn146 : tk_lt (B (Int.toNat w146_mo_4)) = false) (hl146 : tk_dg (B (Int.toNat w146_mo_4)) = true) (hru146 : (w146_mo_4 + v146_2) + tk_run tk_dg B tn (w146_mo_4 + v146_2) = w146_mo_4 + tk_run tk_dg B tn w146_mo_4) (hvb : (v146_2 ≤ 2 → w146_mo_7 ≤ 99) ∧ (v146_2 ≤ 1 → w146_mo_7 ≤ 9) ∧ (v146_2 ≤ 0 → w146_mo_7 ≤ 0)) (hvo : q_is w146_mo_7 (tk_vl B w146_mo_4 (min 3 (Int.toNat v146_2)))) (hmu : (Int.toNat (601 - v146_2)) < n) (H : Heap) (locs : List Loc) (hB : q_B g K L (fun q => q ∈ L) [(12, 4, 7), (12, 12, 12)] f f146 s H locs) (ls : Array Slot) (hl : lv_has ls 3 [(0, .ref mo), (2, .int (q_i v146_2))]), W p l e { frames := 1, cells := 0, slots := 0, locals := 21 } s m ([.ref mo] : List Value).toArray below meth c H locs 0 0 (MQ below (q_Q g K L [(12, 4, 7), (12, 12, 12)] f (q_Pv (fun (f1 : Nat → va_E) => (q_z f1 mo 5 = tk_S B tn nx) ∧ (tk_tr f1 mo B tn)))) ([.ref mo] : List Value).toArray s 0 0 (fun q => q ∈ L)) (F0 m 146 ls []) := by
    intro n
    induction n with
    | zero =>
      intro f146 v146_2 lv146_2 uv146_2 w146_mo_4 lw146_mo_4 uw146_mo_4 w146_mo_5 lw146_mo_5 uw146_mo_5 w146_mo_7 lw146_mo_7 uw146_mo_7 bltn hj_mo_3 hj_mo_4 hj_mo_5 hj_mo_7 hq_mo_1 hub146 hrl146_0 hrl146_1 hrl146_2 hs146 hn146 hl146 hru146 hvb hvo hmu
      exact absurd hmu (Nat.not_lt_zero _)
    | succ n ih146 =>
      intro f146 v146_2 lv146_2 uv146_2 w146_mo_4 lw146_mo_4 uw146_mo_4 w146_mo_5 lw146_mo_5 uw146_mo_5 w146_mo_7 lw146_mo_7 uw146_mo_7 bltn hj_mo_3 hj_mo_4 hj_mo_5 hj_mo_7 hq_mo_1 hub146 hrl146_0 hrl146_1 hrl146_2 hs146 hn146 hl146 hru146 hvb hvo hmu H locs hB ls hl
      refine q_ald_n cx dX12_goOn_146 rfl (lv_at hl 0 rfl) ?_
      refine q_ild_n cx dX12_goOn_147 rfl (lv_at hl 1 rfl) ?_
      refine q_cVi (As := [.int (q_i v146_2)]) (rest := []) cx hB (fun _ h => h) hN hmo kmo (by decide) rfl (f_mhere l g hN hB.2.1 B mo hmo kmo v146_2 (by omega) (by omega) bu hbu kbu w146_mo_4 (by omega) (by omega) tn (by omega) (by omega) hj_mo_4 hj_mo_3 hq_mo_1 hub146) q_cX12_103 q_dX12_here (by decide) rfl rfl hl.1 rfl (Nat.le_of_ble_eq_true rfl) dX12_goOn_148 (fun y6412 H locs f6411 ry6412 h6413 hF hB => ?_)
      rcases h6413 with h6414 | h6415
      · obtain ⟨rfl, ly6412, uy6412, t6416, t6417⟩ := h6414
        refine q_cSi (As := [.int (q_i y6412)]) (rest := []) cx hB (fun _ h => h) hN (f_misDigit l g hN hB.2.1 y6412 (by omega) (by omega)) q_cX12_124 q_dX12_isDigit (by decide) rfl rfl hl.1 rfl (Nat.le_of_ble_eq_true rfl) dX12_goOn_151 (fun y6419 H locs f6418 ry6419 h6420 hF hB => ?_)
        rcases h6420 with h6421 | h6422
        · obtain ⟨rfl, qy6419, t6423, t6424, t6425⟩ := h6421
          subst qy6419
          refine q_ifeq (tgt := 188) cx ⟨by decide, by decide⟩ dX12_goOn_154 (by decide) (fun c6426 => ?_) (fun c6426 => ?_)
          · exact absurd c6426 (by omega)
          · have hdg9 : tk_dg (B (Int.toNat (w146_mo_4 + v146_2))) = true := ((tk_uD hub146 t6416 (by omega) (by omega) (by omega)).symm.trans t6425)
            refine q_ild_n cx dX12_goOn_157 rfl (lv_at hl 1 rfl) ?_
            refine q_iconst cx dX12_goOn_158 ?_
            refine q_icge (tgt := 182) cx ⟨by omega, by omega⟩ ⟨by decide, by decide⟩ dX12_goOn_159 (by decide) (fun c6427 => ?_) (fun c6427 => ?_)
            · refine q_iinc (lv' := [(2, .int (q_i (v146_2 + 1))), (0, .ref mo)]) cx dX12_goOn_182 hl (k := 1) rfl (by decide) rfl (fun ls hl => ?_)
              refine lv_goto (tgt := 146) cx.1 cx.2.1 dX12_goOn_185 (by decide) ?_
              exact ih146 f146 (v146_2 + 1) (by omega) (by omega) w146_mo_4 (by omega) (by omega) w146_mo_5 (by omega) (by omega) w146_mo_7 (by omega) (by omega) (by omega) hj_mo_3 hj_mo_4 hj_mo_5 hj_mo_7 hq_mo_1 hub146 (by omega) (by omega) (by omega) hs146 hn146 hl146 (tk_ur_step hru146 (by omega) (by omega) hdg9) (by omega) (tk_mvo_same (by omega) hvo) (by omega) H locs hB ls (lv_sub hl [1, 0] rfl)
            · have hv9 : w146_mo_7 ≤ 99 := by omega
              refine q_ald_n cx dX12_goOn_162 rfl (lv_at hl 0 rfl) ?_
              refine q_bipush cx dX12_goOn_163 rfl ?_
              refine q_ald_n cx dX12_goOn_165 rfl (lv_at hl 0 rfl) ?_
              refine q_gX12_114 cx hB hmo kmo hj_mo_7 dX12_goOn_166 (fun lb6428 ub6428 => ?_)
              refine q_imul cx dX12_goOn_169 ?_
              refine q_ald_n cx dX12_goOn_170 rfl (lv_at hl 0 rfl) ?_
              refine q_ild_n cx dX12_goOn_171 rfl (lv_at hl 1 rfl) ?_
              refine q_cVi (As := [.int (q_i v146_2)]) (rest := [.int (q_i (10 * w146_mo_7)), .ref mo]) cx hB (fun _ h => h) hN hmo kmo (by decide) rfl (f_mhere l g hN hB.2.1 B mo hmo kmo v146_2 (by omega) (by omega) bu hbu kbu w146_mo_4 (by omega) (by omega) tn (by omega) (by omega) hj_mo_4 hj_mo_3 hq_mo_1 hub146) q_cX12_103 q_dX12_here (by decide) rfl rfl hl.1 rfl (Nat.le_of_ble_eq_true rfl) dX12_goOn_172 (fun y6430 H locs f6429 ry6430 h6431 hF hB => ?_)
              rcases h6431 with h6432 | h6433
              · obtain ⟨rfl, ly6430, uy6430, t6434, t6435⟩ := h6432
                refine q_iadd cx dX12_goOn_175 ?_
                refine q_bipush cx dX12_goOn_176 rfl ?_
                refine q_isub cx dX12_goOn_178 ?_
                refine q_pX12_114 cx hB hmo kmo ⟨by omega, by omega⟩ (by omega) (by omega) rfl dX12_goOn_179 (fun H locs f6436 ef6436 z6437 hB => ?_)
                have z6438 : q_is (q_z f6436 mo 3) tn := by rw [ef6436, q_setz (Or.inr (by decide))]; exact hj_mo_3
                have z6439 : q_is (q_z f6436 mo 4) w146_mo_4 := by rw [ef6436, q_setz (Or.inr (by decide))]; exact hj_mo_4
                have z6440 : q_is (q_z f6436 mo 5) w146_mo_5 := by rw [ef6436, q_setz (Or.inr (by decide))]; exact hj_mo_5
                have z6441 : q_ir (q_r f6436 mo 1) bu := by rw [ef6436, q_setr (Or.inr (by decide))]; exact hq_mo_1
                have g6442 : tk_ub f6436 bu B tn := tk_ub_tr hub146 (fun i9 => by rw [ef6436, q_setz (Or.inl (fun q => by rw [q, kmo] at kbu; exact absurd kbu (by decide)))])
                refine q_iinc (lv' := [(2, .int (q_i (v146_2 + 1))), (0, .ref mo)]) cx dX12_goOn_182 hl (k := 1) rfl (by decide) rfl (fun ls hl => ?_)
                refine lv_goto (tgt := 146) cx.1 cx.2.1 dX12_goOn_185 (by decide) ?_
                exact ih146 f6436 (v146_2 + 1) (by omega) (by omega) w146_mo_4 (by omega) (by omega) w146_mo_5 (by omega) (by omega) (((10 * w146_mo_7) + y6430) - 48) (by omega) (by omega) (by omega) z6438 z6439 z6440 z6437 z6441 g6442 (by omega) (by omega) (by omega) hs146 hn146 hl146 (tk_ur_step hru146 (by omega) (by omega) hdg9) (by omega) (tk_mvo_step (by omega) (by omega) (tk_uE g6442 t6434 (by omega) (by omega) (by omega) (by omega)) hvo (by omega)) (by omega) H locs hB ls (lv_sub hl [1, 0] rfl)
              · obtain ⟨rfl, qy6430, t6443⟩ := h6433
                subst qy6430
                exact False.elim (by omega)
        · obtain ⟨rfl, qy6419, t6444⟩ := h6422
          subst qy6419
          refine q_ifeq (tgt := 188) cx ⟨by decide, by decide⟩ dX12_goOn_154 (by decide) (fun c6445 => ?_) (fun c6445 => ?_)
          · have hen : w146_mo_4 + v146_2 = w146_mo_4 + tk_run tk_dg B tn w146_mo_4 := tk_ur_end hru146 (fun _ => ((tk_uD hub146 t6416 (by omega) (by omega) (by omega)).symm.trans t6444))
            refine q_ald_n cx dX12_goOn_188 rfl (lv_at hl 0 rfl) ?_
            refine q_ild_n cx dX12_goOn_189 rfl (lv_at hl 1 rfl) ?_
            refine q_iconst cx dX12_goOn_190 ?_
            refine q_icle (tgt := 198) cx ⟨by omega, by omega⟩ ⟨by decide, by decide⟩ dX12_goOn_191 (by decide) (fun c6446 => ?_) (fun c6446 => ?_)
            · refine q_iconst cx dX12_goOn_198 ?_
              refine q_pX12_117 cx hB hmo kmo ⟨by decide, by decide⟩ (by decide) (by decide) rfl dX12_goOn_199 (fun H locs f6447 ef6447 z6448 hB => ?_)
              have z6449 : q_is (q_z f6447 mo 3) tn := by rw [ef6447, q_setz (Or.inr (by decide))]; exact hj_mo_3
              have z6450 : q_is (q_z f6447 mo 4) w146_mo_4 := by rw [ef6447, q_setz (Or.inr (by decide))]; exact hj_mo_4
              have z6451 : q_is (q_z f6447 mo 5) w146_mo_5 := by rw [ef6447, q_setz (Or.inr (by decide))]; exact hj_mo_5
              have z6452 : q_is (q_z f6447 mo 7) w146_mo_7 := by rw [ef6447, q_setz (Or.inr (by decide))]; exact hj_mo_7
              have z6453 : q_ir (q_r f6447 mo 1) bu := by rw [ef6447, q_setr (Or.inr (by decide))]; exact hq_mo_1
              have g6454 : tk_ub f6447 bu B tn := tk_ub_tr hub146 (fun i9 => by rw [ef6447, q_setz (Or.inl (fun q => by rw [q, kmo] at kbu; exact absurd kbu (by decide)))])
              refine lv_goto (tgt := 239) cx.1 cx.2.1 dX12_goOn_202 (by decide) ?_
              refine q_ald_n cx dX12_goOn_239 rfl (lv_at hl 0 rfl) ?_
              refine lv_dup cx.1 cx.2.1 dX12_goOn_240 rfl ?_
              refine q_gX12_97 cx hB hmo kmo z6450 dX12_goOn_241 (fun lb6455 ub6455 => ?_)
              refine q_ild_n cx dX12_goOn_244 rfl (lv_at hl 1 rfl) ?_
              refine q_iadd cx dX12_goOn_245 ?_
              refine q_pX12_97 cx hB hmo kmo ⟨by omega, by omega⟩ (by omega) (by omega) rfl dX12_goOn_246 (fun H locs f6456 ef6456 z6457 hB => ?_)
              have z6458 : q_is (q_z f6456 mo 3) tn := by rw [ef6456, q_setz (Or.inr (by decide))]; exact z6449
              have z6459 : q_is (q_z f6456 mo 5) w146_mo_5 := by rw [ef6456, q_setz (Or.inr (by decide))]; exact z6451
              have z6460 : q_is (q_z f6456 mo 7) w146_mo_7 := by rw [ef6456, q_setz (Or.inr (by decide))]; exact z6452
              have z6461 : q_is (q_z f6456 mo 6) 2 := by rw [ef6456, q_setz (Or.inr (by decide))]; exact z6448
              have z6462 : q_ir (q_r f6456 mo 1) bu := by rw [ef6456, q_setr (Or.inr (by decide))]; exact z6453
              have g6463 : tk_ub f6456 bu B tn := tk_ub_tr g6454 (fun i9 => by rw [ef6456, q_setz (Or.inl (fun q => by rw [q, kmo] at kbu; exact absurd kbu (by decide)))])
              have htr9 : tk_tr f6456 mo B tn := tk_tr_num (Eq.trans z6459 (show w146_mo_5 = w146_mo_4 by omega)) z6457 (by omega) z6461 (by omega) (by omega) (by omega) hn146 hl146 hen z6460 hvo
              refine q_vret cx hr hlk hB dX12_goOn_249 ?_
              exact ⟨(Eq.trans (Eq.trans z6459 (show w146_mo_5 = w146_mo_4 by omega)) hs146), htr9⟩
            · refine q_iconst cx dX12_goOn_194 ?_
              refine lv_goto (tgt := 199) cx.1 cx.2.1 dX12_goOn_195 (by decide) ?_
              refine q_pX12_117 cx hB hmo kmo ⟨by decide, by decide⟩ (by decide) (by decide) rfl dX12_goOn_199 (fun H locs f6464 ef6464 z6465 hB => ?_)
              have z6466 : q_is (q_z f6464 mo 3) tn := by rw [ef6464, q_setz (Or.inr (by decide))]; exact hj_mo_3
              have z6467 : q_is (q_z f6464 mo 4) w146_mo_4 := by rw [ef6464, q_setz (Or.inr (by decide))]; exact hj_mo_4
              have z6468 : q_is (q_z f6464 mo 5) w146_mo_5 := by rw [ef6464, q_setz (Or.inr (by decide))]; exact hj_mo_5
              have z6469 : q_is (q_z f6464 mo 7) w146_mo_7 := by rw [ef6464, q_setz (Or.inr (by decide))]; exact hj_mo_7
              have z6470 : q_ir (q_r f6464 mo 1) bu := by rw [ef6464, q_setr (Or.inr (by decide))]; exact hq_mo_1
              have g6471 : tk_ub f6464 bu B tn := tk_ub_tr hub146 (fun i9 => by rw [ef6464, q_setz (Or.inl (fun q => by rw [q, kmo] at kbu; exact absurd kbu (by decide)))])
              refine lv_goto (tgt := 239) cx.1 cx.2.1 dX12_goOn_202 (by decide) ?_
              refine q_ald_n cx dX12_goOn_239 rfl (lv_at hl 0 rfl) ?_
              refine lv_dup cx.1 cx.2.1 dX12_goOn_240 rfl ?_
              refine q_gX12_97 cx hB hmo kmo z6467 dX12_goOn_241 (fun lb6472 ub6472 => ?_)
              refine q_ild_n cx dX12_goOn_244 rfl (lv_at hl 1 rfl) ?_
              refine q_iadd cx dX12_goOn_245 ?_
              refine q_pX12_97 cx hB hmo kmo ⟨by omega, by omega⟩ (by omega) (by omega) rfl dX12_goOn_246 (fun H locs f6473 ef6473 z6474 hB => ?_)
              have z6475 : q_is (q_z f6473 mo 3) tn := by rw [ef6473, q_setz (Or.inr (by decide))]; exact z6466
              have z6476 : q_is (q_z f6473 mo 5) w146_mo_5 := by rw [ef6473, q_setz (Or.inr (by decide))]; exact z6468
              have z6477 : q_is (q_z f6473 mo 7) w146_mo_7 := by rw [ef6473, q_setz (Or.inr (by decide))]; exact z6469
              have z6478 : q_is (q_z f6473 mo 6) 4 := by rw [ef6473, q_setz (Or.inr (by decide))]; exact z6465
              have z6479 : q_ir (q_r f6473 mo 1) bu := by rw [ef6473, q_setr (Or.inr (by decide))]; exact z6470
              have g6480 : tk_ub f6473 bu B tn := tk_ub_tr g6471 (fun i9 => by rw [ef6473, q_setz (Or.inl (fun q => by rw [q, kmo] at kbu; exact absurd kbu (by decide)))])
              have htr9 : tk_tr f6473 mo B tn := tk_tr_num (Eq.trans z6476 (show w146_mo_5 = w146_mo_4 by omega)) z6474 (by omega) z6478 (by omega) (by omega) (by omega) hn146 hl146 hen z6477 hvo
              refine q_vret cx hr hlk hB dX12_goOn_249 ?_
              exact ⟨(Eq.trans (Eq.trans z6476 (show w146_mo_5 = w146_mo_4 by omega)) hs146), htr9⟩
          · exact absurd c6445 (by omega)
      · obtain ⟨rfl, qy6412, t6481⟩ := h6415
        subst qy6412
        refine q_cSi (As := [.int (q_i (-1))]) (rest := []) cx hB (fun _ h => h) hN (f_misDigit l g hN hB.2.1 (-1) (by decide) (by decide)) q_cX12_124 q_dX12_isDigit (by decide) rfl rfl hl.1 rfl (Nat.le_of_ble_eq_true rfl) dX12_goOn_151 (fun y6483 H locs f6482 ry6483 h6484 hF hB => ?_)
        rcases h6484 with h6485 | h6486
        · obtain ⟨rfl, qy6483, t6487, t6488, t6489⟩ := h6485
          subst qy6483
          exact False.elim (by omega)
        · obtain ⟨rfl, qy6483, t6490⟩ := h6486
          subst qy6483
          refine q_ifeq (tgt := 188) cx ⟨by decide, by decide⟩ dX12_goOn_154 (by decide) (fun c6491 => ?_) (fun c6491 => ?_)
          · have hen : w146_mo_4 + v146_2 = w146_mo_4 + tk_run tk_dg B tn w146_mo_4 := tk_ur_end hru146 (fun h9 => absurd h9 (by omega))
            refine q_ald_n cx dX12_goOn_188 rfl (lv_at hl 0 rfl) ?_
            refine q_ild_n cx dX12_goOn_189 rfl (lv_at hl 1 rfl) ?_
            refine q_iconst cx dX12_goOn_190 ?_
            refine q_icle (tgt := 198) cx ⟨by omega, by omega⟩ ⟨by decide, by decide⟩ dX12_goOn_191 (by decide) (fun c6492 => ?_) (fun c6492 => ?_)
            · refine q_iconst cx dX12_goOn_198 ?_
              refine q_pX12_117 cx hB hmo kmo ⟨by decide, by decide⟩ (by decide) (by decide) rfl dX12_goOn_199 (fun H locs f6493 ef6493 z6494 hB => ?_)
              have z6495 : q_is (q_z f6493 mo 3) tn := by rw [ef6493, q_setz (Or.inr (by decide))]; exact hj_mo_3
              have z6496 : q_is (q_z f6493 mo 4) w146_mo_4 := by rw [ef6493, q_setz (Or.inr (by decide))]; exact hj_mo_4
              have z6497 : q_is (q_z f6493 mo 5) w146_mo_5 := by rw [ef6493, q_setz (Or.inr (by decide))]; exact hj_mo_5
              have z6498 : q_is (q_z f6493 mo 7) w146_mo_7 := by rw [ef6493, q_setz (Or.inr (by decide))]; exact hj_mo_7
              have z6499 : q_ir (q_r f6493 mo 1) bu := by rw [ef6493, q_setr (Or.inr (by decide))]; exact hq_mo_1
              have g6500 : tk_ub f6493 bu B tn := tk_ub_tr hub146 (fun i9 => by rw [ef6493, q_setz (Or.inl (fun q => by rw [q, kmo] at kbu; exact absurd kbu (by decide)))])
              refine lv_goto (tgt := 239) cx.1 cx.2.1 dX12_goOn_202 (by decide) ?_
              refine q_ald_n cx dX12_goOn_239 rfl (lv_at hl 0 rfl) ?_
              refine lv_dup cx.1 cx.2.1 dX12_goOn_240 rfl ?_
              refine q_gX12_97 cx hB hmo kmo z6496 dX12_goOn_241 (fun lb6501 ub6501 => ?_)
              refine q_ild_n cx dX12_goOn_244 rfl (lv_at hl 1 rfl) ?_
              refine q_iadd cx dX12_goOn_245 ?_
              refine q_pX12_97 cx hB hmo kmo ⟨by omega, by omega⟩ (by omega) (by omega) rfl dX12_goOn_246 (fun H locs f6502 ef6502 z6503 hB => ?_)
              have z6504 : q_is (q_z f6502 mo 3) tn := by rw [ef6502, q_setz (Or.inr (by decide))]; exact z6495
              have z6505 : q_is (q_z f6502 mo 5) w146_mo_5 := by rw [ef6502, q_setz (Or.inr (by decide))]; exact z6497
              have z6506 : q_is (q_z f6502 mo 7) w146_mo_7 := by rw [ef6502, q_setz (Or.inr (by decide))]; exact z6498
              have z6507 : q_is (q_z f6502 mo 6) 2 := by rw [ef6502, q_setz (Or.inr (by decide))]; exact z6494
              have z6508 : q_ir (q_r f6502 mo 1) bu := by rw [ef6502, q_setr (Or.inr (by decide))]; exact z6499
              have g6509 : tk_ub f6502 bu B tn := tk_ub_tr g6500 (fun i9 => by rw [ef6502, q_setz (Or.inl (fun q => by rw [q, kmo] at kbu; exact absurd kbu (by decide)))])
              have htr9 : tk_tr f6502 mo B tn := tk_tr_num (Eq.trans z6505 (show w146_mo_5 = w146_mo_4 by omega)) z6503 (by omega) z6507 (by omega) (by omega) (by omega) hn146 hl146 hen z6506 hvo
              refine q_vret cx hr hlk hB dX12_goOn_249 ?_
              exact ⟨(Eq.trans (Eq.trans z6505 (show w146_mo_5 = w146_mo_4 by omega)) hs146), htr9⟩
            · refine q_iconst cx dX12_goOn_194 ?_
              refine lv_goto (tgt := 199) cx.1 cx.2.1 dX12_goOn_195 (by decide) ?_
              refine q_pX12_117 cx hB hmo kmo ⟨by decide, by decide⟩ (by decide) (by decide) rfl dX12_goOn_199 (fun H locs f6510 ef6510 z6511 hB => ?_)
              have z6512 : q_is (q_z f6510 mo 3) tn := by rw [ef6510, q_setz (Or.inr (by decide))]; exact hj_mo_3
              have z6513 : q_is (q_z f6510 mo 4) w146_mo_4 := by rw [ef6510, q_setz (Or.inr (by decide))]; exact hj_mo_4
              have z6514 : q_is (q_z f6510 mo 5) w146_mo_5 := by rw [ef6510, q_setz (Or.inr (by decide))]; exact hj_mo_5
              have z6515 : q_is (q_z f6510 mo 7) w146_mo_7 := by rw [ef6510, q_setz (Or.inr (by decide))]; exact hj_mo_7
              have z6516 : q_ir (q_r f6510 mo 1) bu := by rw [ef6510, q_setr (Or.inr (by decide))]; exact hq_mo_1
              have g6517 : tk_ub f6510 bu B tn := tk_ub_tr hub146 (fun i9 => by rw [ef6510, q_setz (Or.inl (fun q => by rw [q, kmo] at kbu; exact absurd kbu (by decide)))])
              refine lv_goto (tgt := 239) cx.1 cx.2.1 dX12_goOn_202 (by decide) ?_
              refine q_ald_n cx dX12_goOn_239 rfl (lv_at hl 0 rfl) ?_
              refine lv_dup cx.1 cx.2.1 dX12_goOn_240 rfl ?_
              refine q_gX12_97 cx hB hmo kmo z6513 dX12_goOn_241 (fun lb6518 ub6518 => ?_)
              refine q_ild_n cx dX12_goOn_244 rfl (lv_at hl 1 rfl) ?_
              refine q_iadd cx dX12_goOn_245 ?_
              refine q_pX12_97 cx hB hmo kmo ⟨by omega, by omega⟩ (by omega) (by omega) rfl dX12_goOn_246 (fun H locs f6519 ef6519 z6520 hB => ?_)
              have z6521 : q_is (q_z f6519 mo 3) tn := by rw [ef6519, q_setz (Or.inr (by decide))]; exact z6512
              have z6522 : q_is (q_z f6519 mo 5) w146_mo_5 := by rw [ef6519, q_setz (Or.inr (by decide))]; exact z6514
              have z6523 : q_is (q_z f6519 mo 7) w146_mo_7 := by rw [ef6519, q_setz (Or.inr (by decide))]; exact z6515
              have z6524 : q_is (q_z f6519 mo 6) 4 := by rw [ef6519, q_setz (Or.inr (by decide))]; exact z6511
              have z6525 : q_ir (q_r f6519 mo 1) bu := by rw [ef6519, q_setr (Or.inr (by decide))]; exact z6516
              have g6526 : tk_ub f6519 bu B tn := tk_ub_tr g6517 (fun i9 => by rw [ef6519, q_setz (Or.inl (fun q => by rw [q, kmo] at kbu; exact absurd kbu (by decide)))])
              have htr9 : tk_tr f6519 mo B tn := tk_tr_num (Eq.trans z6522 (show w146_mo_5 = w146_mo_4 by omega)) z6520 (by omega) z6524 (by omega) (by omega) (by omega) hn146 hl146 hen z6523 hvo
              refine q_vret cx hr hlk hB dX12_goOn_249 ?_
              exact ⟨(Eq.trans (Eq.trans z6522 (show w146_mo_5 = w146_mo_4 by omega)) hs146), htr9⟩
          · exact absurd c6491 (by omega)
  have J0 : ∀ (n : Nat) (f0 : Nat → va_E) (w0_mo_4 : Int) (lw0_mo_4 : 0 ≤ w0_mo_4) (uw0_mo_4 : w0_mo_4 ≤ 600) (hj_mo_3 : q_is (q_z f0 mo 3) tn) (hj_mo_4 : q_is (q_z f0 mo 4) w0_mo_4) (hq_mo_1 : q_ir (q_r f0 mo 1) bu) (hub0 : tk_ub f0 bu B tn) (hrl0_0 : 0 ≤ -1 * nx + 1 * w0_mo_4 + 0) (hrl0_1 : 0 ≤ 1 * tn + -1 * w0_mo_4 + 0) (hru : w0_mo_4 + tk_run tk_sp B tn w0_mo_4 = nx + tk_run tk_sp B tn nx) (hmu : (Int.toNat (601 - w0_mo_4)) < n) (H : Heap) (locs : List Loc) (hB : q_B g K L (fun q => q ∈ L) [(12, 4, 7), (12, 12, 12)] f f0 s H locs) (ls : Array Slot) (hl : lv_has ls 3 [(0, .ref mo)]), W p l e { frames := 1, cells := 0, slots := 0, locals := 21 } s m ([.ref mo] : List Value).toArray below meth c H locs 0 0 (MQ below (q_Q g K L [(12, 4, 7), (12, 12, 12)] f (q_Pv (fun (f1 : Nat → va_E) => (q_z f1 mo 5 = tk_S B tn nx) ∧ (tk_tr f1 mo B tn)))) ([.ref mo] : List Value).toArray s 0 0 (fun q => q ∈ L)) (F0 m 0 ls []) := by
    intro n
    induction n with
    | zero =>
      intro f0 w0_mo_4 lw0_mo_4 uw0_mo_4 hj_mo_3 hj_mo_4 hq_mo_1 hub0 hrl0_0 hrl0_1 hru hmu
      exact absurd hmu (Nat.not_lt_zero _)
    | succ n ih0 =>
      intro f0 w0_mo_4 lw0_mo_4 uw0_mo_4 hj_mo_3 hj_mo_4 hq_mo_1 hub0 hrl0_0 hrl0_1 hru hmu H locs hB ls hl
      refine q_ald_n cx dX12_goOn_0 rfl (lv_at hl 0 rfl) ?_
      refine q_iconst cx dX12_goOn_1 ?_
      refine q_cVi (As := [.int (q_i 0)]) (rest := []) cx hB (fun _ h => h) hN hmo kmo (by decide) rfl (f_mhere l g hN hB.2.1 B mo hmo kmo 0 (by decide) (by decide) bu hbu kbu w0_mo_4 (by omega) (by omega) tn (by omega) (by omega) hj_mo_4 hj_mo_3 hq_mo_1 hub0) q_cX12_103 q_dX12_here (by decide) rfl rfl hl.1 rfl (Nat.le_of_ble_eq_true rfl) dX12_goOn_2 (fun y6528 H locs f6527 ry6528 h6529 hF hB => ?_)
      rcases h6529 with h6530 | h6531
      · obtain ⟨rfl, ly6528, uy6528, t6532, t6533⟩ := h6530
        refine q_bipush cx dX12_goOn_5 rfl ?_
        refine q_iceq (tgt := 20) cx ⟨by omega, by omega⟩ ⟨by decide, by decide⟩ dX12_goOn_7 (by decide) (fun c6534 => ?_) (fun c6534 => ?_)
        · refine q_ald_n cx dX12_goOn_20 rfl (lv_at hl 0 rfl) ?_
          refine lv_dup cx.1 cx.2.1 dX12_goOn_21 rfl ?_
          refine q_gX12_97 cx hB hmo kmo hj_mo_4 dX12_goOn_22 (fun lb6535 ub6535 => ?_)
          refine q_iconst cx dX12_goOn_25 ?_
          refine q_iadd cx dX12_goOn_26 ?_
          refine q_pX12_97 cx hB hmo kmo ⟨by omega, by omega⟩ (by omega) (by omega) rfl dX12_goOn_27 (fun H locs f6536 ef6536 z6537 hB => ?_)
          have z6538 : q_is (q_z f6536 mo 3) tn := by rw [ef6536, q_setz (Or.inr (by decide))]; exact hj_mo_3
          have z6539 : q_ir (q_r f6536 mo 1) bu := by rw [ef6536, q_setr (Or.inr (by decide))]; exact hq_mo_1
          have g6540 : tk_ub f6536 bu B tn := tk_ub_tr hub0 (fun i9 => by rw [ef6536, q_setz (Or.inl (fun q => by rw [q, kmo] at kbu; exact absurd kbu (by decide)))])
          refine lv_goto (tgt := 0) cx.1 cx.2.1 dX12_goOn_30 (by decide) ?_
          exact ih0 f6536 (w0_mo_4 + 1) (by omega) (by omega) z6538 z6537 z6539 g6540 (by omega) (by omega) (tk_ru_step hru (by omega) (by omega) (fun _ => rfl) ((tk_uS g6540 t6532 (by omega) (by omega) (by omega)).symm.trans (tk_sp_y (by omega)))) (by omega) H locs hB ls (lv_sub hl [0] rfl)
        · refine q_ald_n cx dX12_goOn_10 rfl (lv_at hl 0 rfl) ?_
          refine q_iconst cx dX12_goOn_11 ?_
          refine q_cVi (As := [.int (q_i 0)]) (rest := []) cx hB (fun _ h => h) hN hmo kmo (by decide) rfl (f_mhere l g hN hB.2.1 B mo hmo kmo 0 (by decide) (by decide) bu hbu kbu w0_mo_4 (by omega) (by omega) tn (by omega) (by omega) hj_mo_4 hj_mo_3 hq_mo_1 hub0) q_cX12_103 q_dX12_here (by decide) rfl rfl hl.1 rfl (Nat.le_of_ble_eq_true rfl) dX12_goOn_12 (fun y6542 H locs f6541 ry6542 h6543 hF hB => ?_)
          rcases h6543 with h6544 | h6545
          · obtain ⟨rfl, ly6542, uy6542, t6546, t6547⟩ := h6544
            refine q_bipush cx dX12_goOn_15 rfl ?_
            refine q_icne (tgt := 33) cx ⟨by omega, by omega⟩ ⟨by decide, by decide⟩ dX12_goOn_17 (by decide) (fun c6548 => ?_) (fun c6548 => ?_)
            · have hy9 : y6528 = y6542 := (tk_uN hub0 t6532 (by omega) (by omega) (by omega)).trans (tk_uN (w := w0_mo_4) hub0 t6546 (by omega) (by omega) (by omega)).symm
              have hst : w0_mo_4 = tk_S B tn nx := tk_ru_end hru (by omega) (fun _ => rfl) ((tk_uS hub0 t6546 (by omega) (by omega) (by omega)).symm.trans (tk_sp_n (by omega) (by omega)))
              refine q_ald_n cx dX12_goOn_33 rfl (lv_at hl 0 rfl) ?_
              refine q_ald_n cx dX12_goOn_34 rfl (lv_at hl 0 rfl) ?_
              refine q_gX12_97 cx hB hmo kmo hj_mo_4 dX12_goOn_35 (fun lb6549 ub6549 => ?_)
              refine q_pX12_107 cx hB hmo kmo ⟨by omega, by omega⟩ (by omega) (by omega) rfl dX12_goOn_38 (fun H locs f6550 ef6550 z6551 hB => ?_)
              have z6552 : q_is (q_z f6550 mo 3) tn := by rw [ef6550, q_setz (Or.inr (by decide))]; exact hj_mo_3
              have z6553 : q_is (q_z f6550 mo 4) w0_mo_4 := by rw [ef6550, q_setz (Or.inr (by decide))]; exact hj_mo_4
              have z6554 : q_ir (q_r f6550 mo 1) bu := by rw [ef6550, q_setr (Or.inr (by decide))]; exact hq_mo_1
              have g6555 : tk_ub f6550 bu B tn := tk_ub_tr hub0 (fun i9 => by rw [ef6550, q_setz (Or.inl (fun q => by rw [q, kmo] at kbu; exact absurd kbu (by decide)))])
              refine q_ald_n cx dX12_goOn_41 rfl (lv_at hl 0 rfl) ?_
              refine q_lconst (z := 0) cx (by decide) dX12_goOn_42 ?_
              refine q_pX12_110 cx hB hmo kmo rfl dX12_goOn_43 (fun H locs f6556 ef6556 z6557 hB => ?_)
              have z6558 : q_is (q_z f6556 mo 3) tn := by rw [ef6556, q_setz (Or.inr (by decide))]; exact z6552
              have z6559 : q_is (q_z f6556 mo 4) w0_mo_4 := by rw [ef6556, q_setz (Or.inr (by decide))]; exact z6553
              have z6560 : q_is (q_z f6556 mo 5) w0_mo_4 := by rw [ef6556, q_setz (Or.inr (by decide))]; exact z6551
              have z6561 : q_ir (q_r f6556 mo 1) bu := by rw [ef6556, q_setr (Or.inr (by decide))]; exact z6554
              have g6562 : tk_ub f6556 bu B tn := tk_ub_tr g6555 (fun i9 => by rw [ef6556, q_setz (Or.inl (fun q => by rw [q, kmo] at kbu; exact absurd kbu (by decide)))])
              refine q_ald_n cx dX12_goOn_46 rfl (lv_at hl 0 rfl) ?_
              refine q_iconst cx dX12_goOn_47 ?_
              refine q_pX12_114 cx hB hmo kmo ⟨by decide, by decide⟩ (by decide) (by decide) rfl dX12_goOn_48 (fun H locs f6563 ef6563 z6564 hB => ?_)
              have z6565 : q_is (q_z f6563 mo 3) tn := by rw [ef6563, q_setz (Or.inr (by decide))]; exact z6558
              have z6566 : q_is (q_z f6563 mo 4) w0_mo_4 := by rw [ef6563, q_setz (Or.inr (by decide))]; exact z6559
              have z6567 : q_is (q_z f6563 mo 5) w0_mo_4 := by rw [ef6563, q_setz (Or.inr (by decide))]; exact z6560
              have z6568 : q_j f6563 mo 12 = (q_l 0) := by rw [ef6563, q_setj (Or.inr (by decide))]; exact z6557
              have z6569 : q_ir (q_r f6563 mo 1) bu := by rw [ef6563, q_setr (Or.inr (by decide))]; exact z6561
              have g6570 : tk_ub f6563 bu B tn := tk_ub_tr g6562 (fun i9 => by rw [ef6563, q_setz (Or.inl (fun q => by rw [q, kmo] at kbu; exact absurd kbu (by decide)))])
              refine q_ald_n cx dX12_goOn_51 rfl (lv_at hl 0 rfl) ?_
              refine q_iconst cx dX12_goOn_52 ?_
              refine q_cVi (As := [.int (q_i 0)]) (rest := []) cx hB (fun _ h => h) hN hmo kmo (by decide) rfl (f_mhere l g hN hB.2.1 B mo hmo kmo 0 (by decide) (by decide) bu hbu kbu w0_mo_4 (by omega) (by omega) tn (by omega) (by omega) z6566 z6565 z6569 g6570) q_cX12_103 q_dX12_here (by decide) rfl rfl hl.1 rfl (Nat.le_of_ble_eq_true rfl) dX12_goOn_53 (fun y6572 H locs f6571 ry6572 h6573 hF hB => ?_)
              rcases h6573 with h6574 | h6575
              · obtain ⟨rfl, ly6572, uy6572, t6576, t6577⟩ := h6574
                refine lv_istore_n (lv' := [(1, .int (q_i y6572)), (0, .ref mo)]) cx.1 cx.2.1 dX12_goOn_56 rfl hl (by decide) rfl (fun ls hl => ?_)
                refine q_iconst cx dX12_goOn_57 ?_
                refine lv_istore_n (lv' := [(2, .int (q_i 0)), (1, .int (q_i y6572)), (0, .ref mo)]) cx.1 cx.2.1 dX12_goOn_58 rfl hl (by decide) rfl (fun ls hl => ?_)
                refine q_ild_n cx dX12_goOn_59 rfl (lv_at hl 1 rfl) ?_
                refine q_ifge (tgt := 69) cx ⟨by omega, by omega⟩ dX12_goOn_60 (by decide) (fun c6578 => ?_) (fun c6578 => ?_)
                · refine q_ild_n cx dX12_goOn_69 rfl (lv_at hl 1 rfl) ?_
                  refine q_cSi (As := [.int (q_i y6572)]) (rest := []) cx hB (fun _ h => h) hN (f_misLetter l g hN hB.2.1 y6572 (by omega) (by omega)) q_cX12_120 q_dX12_isLetter (by decide) rfl rfl hl.1 rfl (Nat.le_of_ble_eq_true rfl) dX12_goOn_70 (fun y6580 H locs f6579 ry6580 h6581 hF hB => ?_)
                  rcases h6581 with h6582 | h6583
                  · obtain ⟨rfl, qy6580, t6584, t6585, t6586⟩ := h6582
                    subst qy6580
                    refine q_ifeq (tgt := 139) cx ⟨by decide, by decide⟩ dX12_goOn_73 (by decide) (fun c6587 => ?_) (fun c6587 => ?_)
                    · exact absurd c6587 (by omega)
                    · exact J76 ((Int.toNat (601 - 0)) + 1) f6563 0 (by decide) (by decide) w0_mo_4 (by omega) (by omega) w0_mo_4 (by omega) (by omega) 0 (by decide) (by decide) (by omega) z6565 z6566 z6567 z6564 z6569 g6570 (by omega) (by omega) (by omega) hst ((tk_uL g6570 t6576 (by omega) (by omega) (by omega)).symm.trans t6586) tk_ur_0 (tk_mwo_init z6568) (Nat.lt_succ_self _) H locs hB ls (lv_sub hl [2, 0] rfl)
                  · obtain ⟨rfl, qy6580, t6588⟩ := h6583
                    subst qy6580
                    refine q_ifeq (tgt := 139) cx ⟨by decide, by decide⟩ dX12_goOn_73 (by decide) (fun c6589 => ?_) (fun c6589 => ?_)
                    · refine q_ild_n cx dX12_goOn_139 rfl (lv_at hl 1 rfl) ?_
                      refine q_cSi (As := [.int (q_i y6572)]) (rest := []) cx hB (fun _ h => h) hN (f_misDigit l g hN hB.2.1 y6572 (by omega) (by omega)) q_cX12_124 q_dX12_isDigit (by decide) rfl rfl hl.1 rfl (Nat.le_of_ble_eq_true rfl) dX12_goOn_140 (fun y6591 H locs f6590 ry6591 h6592 hF hB => ?_)
                      rcases h6592 with h6593 | h6594
                      · obtain ⟨rfl, qy6591, t6595, t6596, t6597⟩ := h6593
                        subst qy6591
                        refine q_ifeq (tgt := 205) cx ⟨by decide, by decide⟩ dX12_goOn_143 (by decide) (fun c6598 => ?_) (fun c6598 => ?_)
                        · exact absurd c6598 (by omega)
                        · exact J146 ((Int.toNat (601 - 0)) + 1) f6563 0 (by decide) (by decide) w0_mo_4 (by omega) (by omega) w0_mo_4 (by omega) (by omega) 0 (by decide) (by decide) (by omega) z6565 z6566 z6567 z6564 z6569 g6570 (by omega) (by omega) (by omega) hst ((tk_uL g6570 t6576 (by omega) (by omega) (by omega)).symm.trans t6588) ((tk_uD g6570 t6576 (by omega) (by omega) (by omega)).symm.trans t6597) tk_ur_0 (by omega) tk_mvo_init (Nat.lt_succ_self _) H locs hB ls (lv_sub hl [2, 0] rfl)
                      · obtain ⟨rfl, qy6591, t6599⟩ := h6594
                        subst qy6591
                        refine q_ifeq (tgt := 205) cx ⟨by decide, by decide⟩ dX12_goOn_143 (by decide) (fun c6600 => ?_) (fun c6600 => ?_)
                        · refine q_ald_n cx dX12_goOn_205 rfl (lv_at hl 2 rfl) ?_
                          refine q_ild_n cx dX12_goOn_206 rfl (lv_at hl 1 rfl) ?_
                          refine q_bipush cx dX12_goOn_207 rfl ?_
                          refine q_iceq (tgt := 224) cx ⟨by omega, by omega⟩ ⟨by decide, by decide⟩ dX12_goOn_209 (by decide) (fun c6601 => ?_) (fun c6601 => ?_)
                          · refine q_iconst cx dX12_goOn_224 ?_
                            refine lv_goto (tgt := 229) cx.1 cx.2.1 dX12_goOn_225 (by decide) ?_
                            refine q_pX12_117 cx hB hmo kmo ⟨by decide, by decide⟩ (by decide) (by decide) rfl dX12_goOn_229 (fun H locs f6602 ef6602 z6603 hB => ?_)
                            have z6604 : q_is (q_z f6602 mo 3) tn := by rw [ef6602, q_setz (Or.inr (by decide))]; exact z6565
                            have z6605 : q_is (q_z f6602 mo 4) w0_mo_4 := by rw [ef6602, q_setz (Or.inr (by decide))]; exact z6566
                            have z6606 : q_is (q_z f6602 mo 5) w0_mo_4 := by rw [ef6602, q_setz (Or.inr (by decide))]; exact z6567
                            have z6607 : q_is (q_z f6602 mo 7) 0 := by rw [ef6602, q_setz (Or.inr (by decide))]; exact z6564
                            have z6608 : q_j f6602 mo 12 = (q_l 0) := by rw [ef6602, q_setj (Or.inr (by decide))]; exact z6568
                            have z6609 : q_ir (q_r f6602 mo 1) bu := by rw [ef6602, q_setr (Or.inr (by decide))]; exact z6569
                            have g6610 : tk_ub f6602 bu B tn := tk_ub_tr g6570 (fun i9 => by rw [ef6602, q_setz (Or.inl (fun q => by rw [q, kmo] at kbu; exact absurd kbu (by decide)))])
                            refine q_ald_n cx dX12_goOn_232 rfl (lv_at hl 2 rfl) ?_
                            refine q_ild_n cx dX12_goOn_233 rfl (lv_at hl 1 rfl) ?_
                            refine q_pX12_114 cx hB hmo kmo ⟨by omega, by omega⟩ (by omega) (by omega) rfl dX12_goOn_234 (fun H locs f6611 ef6611 z6612 hB => ?_)
                            have z6613 : q_is (q_z f6611 mo 3) tn := by rw [ef6611, q_setz (Or.inr (by decide))]; exact z6604
                            have z6614 : q_is (q_z f6611 mo 4) w0_mo_4 := by rw [ef6611, q_setz (Or.inr (by decide))]; exact z6605
                            have z6615 : q_is (q_z f6611 mo 5) w0_mo_4 := by rw [ef6611, q_setz (Or.inr (by decide))]; exact z6606
                            have z6616 : q_is (q_z f6611 mo 6) 3 := by rw [ef6611, q_setz (Or.inr (by decide))]; exact z6603
                            have z6617 : q_j f6611 mo 12 = (q_l 0) := by rw [ef6611, q_setj (Or.inr (by decide))]; exact z6608
                            have z6618 : q_ir (q_r f6611 mo 1) bu := by rw [ef6611, q_setr (Or.inr (by decide))]; exact z6609
                            have g6619 : tk_ub f6611 bu B tn := tk_ub_tr g6610 (fun i9 => by rw [ef6611, q_setz (Or.inl (fun q => by rw [q, kmo] at kbu; exact absurd kbu (by decide)))])
                            refine q_iconst cx dX12_goOn_237 ?_
                            refine lv_istore_n (lv' := [(2, .int (q_i 1)), (1, .int (q_i y6572)), (0, .ref mo)]) cx.1 cx.2.1 dX12_goOn_238 rfl hl (by decide) rfl (fun ls hl => ?_)
                            refine q_ald_n cx dX12_goOn_239 rfl (lv_at hl 2 rfl) ?_
                            refine lv_dup cx.1 cx.2.1 dX12_goOn_240 rfl ?_
                            refine q_gX12_97 cx hB hmo kmo z6614 dX12_goOn_241 (fun lb6620 ub6620 => ?_)
                            refine q_ild_n cx dX12_goOn_244 rfl (lv_at hl 0 rfl) ?_
                            refine q_iadd cx dX12_goOn_245 ?_
                            refine q_pX12_97 cx hB hmo kmo ⟨by omega, by omega⟩ (by omega) (by omega) rfl dX12_goOn_246 (fun H locs f6621 ef6621 z6622 hB => ?_)
                            have z6623 : q_is (q_z f6621 mo 3) tn := by rw [ef6621, q_setz (Or.inr (by decide))]; exact z6613
                            have z6624 : q_is (q_z f6621 mo 5) w0_mo_4 := by rw [ef6621, q_setz (Or.inr (by decide))]; exact z6615
                            have z6625 : q_is (q_z f6621 mo 6) 3 := by rw [ef6621, q_setz (Or.inr (by decide))]; exact z6616
                            have z6626 : q_is (q_z f6621 mo 7) y6572 := by rw [ef6621, q_setz (Or.inr (by decide))]; exact z6612
                            have z6627 : q_j f6621 mo 12 = (q_l 0) := by rw [ef6621, q_setj (Or.inr (by decide))]; exact z6617
                            have z6628 : q_ir (q_r f6621 mo 1) bu := by rw [ef6621, q_setr (Or.inr (by decide))]; exact z6618
                            have g6629 : tk_ub f6621 bu B tn := tk_ub_tr g6619 (fun i9 => by rw [ef6621, q_setz (Or.inl (fun q => by rw [q, kmo] at kbu; exact absurd kbu (by decide)))])
                            have htr9 : tk_tr f6621 mo B tn := tk_tr_sign z6624 z6622 (by omega) z6625 z6626 g6629 (tk_uN g6629 t6576 (by omega) (by omega) (by omega)) (by omega) (by omega) ((tk_uL g6629 t6576 (by omega) (by omega) (by omega)).symm.trans t6588) ((tk_uD g6629 t6576 (by omega) (by omega) (by omega)).symm.trans t6599) (by omega)
                            refine q_vret cx hr hlk hB dX12_goOn_249 ?_
                            exact ⟨(Eq.trans z6624 hst), htr9⟩
                          · refine q_ild_n cx dX12_goOn_212 rfl (lv_at hl 1 rfl) ?_
                            refine q_bipush cx dX12_goOn_213 rfl ?_
                            refine q_iceq (tgt := 224) cx ⟨by omega, by omega⟩ ⟨by decide, by decide⟩ dX12_goOn_215 (by decide) (fun c6630 => ?_) (fun c6630 => ?_)
                            · refine q_iconst cx dX12_goOn_224 ?_
                              refine lv_goto (tgt := 229) cx.1 cx.2.1 dX12_goOn_225 (by decide) ?_
                              refine q_pX12_117 cx hB hmo kmo ⟨by decide, by decide⟩ (by decide) (by decide) rfl dX12_goOn_229 (fun H locs f6631 ef6631 z6632 hB => ?_)
                              have z6633 : q_is (q_z f6631 mo 3) tn := by rw [ef6631, q_setz (Or.inr (by decide))]; exact z6565
                              have z6634 : q_is (q_z f6631 mo 4) w0_mo_4 := by rw [ef6631, q_setz (Or.inr (by decide))]; exact z6566
                              have z6635 : q_is (q_z f6631 mo 5) w0_mo_4 := by rw [ef6631, q_setz (Or.inr (by decide))]; exact z6567
                              have z6636 : q_is (q_z f6631 mo 7) 0 := by rw [ef6631, q_setz (Or.inr (by decide))]; exact z6564
                              have z6637 : q_j f6631 mo 12 = (q_l 0) := by rw [ef6631, q_setj (Or.inr (by decide))]; exact z6568
                              have z6638 : q_ir (q_r f6631 mo 1) bu := by rw [ef6631, q_setr (Or.inr (by decide))]; exact z6569
                              have g6639 : tk_ub f6631 bu B tn := tk_ub_tr g6570 (fun i9 => by rw [ef6631, q_setz (Or.inl (fun q => by rw [q, kmo] at kbu; exact absurd kbu (by decide)))])
                              refine q_ald_n cx dX12_goOn_232 rfl (lv_at hl 2 rfl) ?_
                              refine q_ild_n cx dX12_goOn_233 rfl (lv_at hl 1 rfl) ?_
                              refine q_pX12_114 cx hB hmo kmo ⟨by omega, by omega⟩ (by omega) (by omega) rfl dX12_goOn_234 (fun H locs f6640 ef6640 z6641 hB => ?_)
                              have z6642 : q_is (q_z f6640 mo 3) tn := by rw [ef6640, q_setz (Or.inr (by decide))]; exact z6633
                              have z6643 : q_is (q_z f6640 mo 4) w0_mo_4 := by rw [ef6640, q_setz (Or.inr (by decide))]; exact z6634
                              have z6644 : q_is (q_z f6640 mo 5) w0_mo_4 := by rw [ef6640, q_setz (Or.inr (by decide))]; exact z6635
                              have z6645 : q_is (q_z f6640 mo 6) 3 := by rw [ef6640, q_setz (Or.inr (by decide))]; exact z6632
                              have z6646 : q_j f6640 mo 12 = (q_l 0) := by rw [ef6640, q_setj (Or.inr (by decide))]; exact z6637
                              have z6647 : q_ir (q_r f6640 mo 1) bu := by rw [ef6640, q_setr (Or.inr (by decide))]; exact z6638
                              have g6648 : tk_ub f6640 bu B tn := tk_ub_tr g6639 (fun i9 => by rw [ef6640, q_setz (Or.inl (fun q => by rw [q, kmo] at kbu; exact absurd kbu (by decide)))])
                              refine q_iconst cx dX12_goOn_237 ?_
                              refine lv_istore_n (lv' := [(2, .int (q_i 1)), (1, .int (q_i y6572)), (0, .ref mo)]) cx.1 cx.2.1 dX12_goOn_238 rfl hl (by decide) rfl (fun ls hl => ?_)
                              refine q_ald_n cx dX12_goOn_239 rfl (lv_at hl 2 rfl) ?_
                              refine lv_dup cx.1 cx.2.1 dX12_goOn_240 rfl ?_
                              refine q_gX12_97 cx hB hmo kmo z6643 dX12_goOn_241 (fun lb6649 ub6649 => ?_)
                              refine q_ild_n cx dX12_goOn_244 rfl (lv_at hl 0 rfl) ?_
                              refine q_iadd cx dX12_goOn_245 ?_
                              refine q_pX12_97 cx hB hmo kmo ⟨by omega, by omega⟩ (by omega) (by omega) rfl dX12_goOn_246 (fun H locs f6650 ef6650 z6651 hB => ?_)
                              have z6652 : q_is (q_z f6650 mo 3) tn := by rw [ef6650, q_setz (Or.inr (by decide))]; exact z6642
                              have z6653 : q_is (q_z f6650 mo 5) w0_mo_4 := by rw [ef6650, q_setz (Or.inr (by decide))]; exact z6644
                              have z6654 : q_is (q_z f6650 mo 6) 3 := by rw [ef6650, q_setz (Or.inr (by decide))]; exact z6645
                              have z6655 : q_is (q_z f6650 mo 7) y6572 := by rw [ef6650, q_setz (Or.inr (by decide))]; exact z6641
                              have z6656 : q_j f6650 mo 12 = (q_l 0) := by rw [ef6650, q_setj (Or.inr (by decide))]; exact z6646
                              have z6657 : q_ir (q_r f6650 mo 1) bu := by rw [ef6650, q_setr (Or.inr (by decide))]; exact z6647
                              have g6658 : tk_ub f6650 bu B tn := tk_ub_tr g6648 (fun i9 => by rw [ef6650, q_setz (Or.inl (fun q => by rw [q, kmo] at kbu; exact absurd kbu (by decide)))])
                              have htr9 : tk_tr f6650 mo B tn := tk_tr_sign z6653 z6651 (by omega) z6654 z6655 g6658 (tk_uN g6658 t6576 (by omega) (by omega) (by omega)) (by omega) (by omega) ((tk_uL g6658 t6576 (by omega) (by omega) (by omega)).symm.trans t6588) ((tk_uD g6658 t6576 (by omega) (by omega) (by omega)).symm.trans t6599) (by omega)
                              refine q_vret cx hr hlk hB dX12_goOn_249 ?_
                              exact ⟨(Eq.trans z6653 hst), htr9⟩
                            · refine q_ild_n cx dX12_goOn_218 rfl (lv_at hl 1 rfl) ?_
                              refine q_bipush cx dX12_goOn_219 rfl ?_
                              refine q_icne (tgt := 228) cx ⟨by omega, by omega⟩ ⟨by decide, by decide⟩ dX12_goOn_221 (by decide) (fun c6659 => ?_) (fun c6659 => ?_)
                              · refine q_iconst cx dX12_goOn_228 ?_
                                refine q_pX12_117 cx hB hmo kmo ⟨by decide, by decide⟩ (by decide) (by decide) rfl dX12_goOn_229 (fun H locs f6660 ef6660 z6661 hB => ?_)
                                have z6662 : q_is (q_z f6660 mo 3) tn := by rw [ef6660, q_setz (Or.inr (by decide))]; exact z6565
                                have z6663 : q_is (q_z f6660 mo 4) w0_mo_4 := by rw [ef6660, q_setz (Or.inr (by decide))]; exact z6566
                                have z6664 : q_is (q_z f6660 mo 5) w0_mo_4 := by rw [ef6660, q_setz (Or.inr (by decide))]; exact z6567
                                have z6665 : q_is (q_z f6660 mo 7) 0 := by rw [ef6660, q_setz (Or.inr (by decide))]; exact z6564
                                have z6666 : q_j f6660 mo 12 = (q_l 0) := by rw [ef6660, q_setj (Or.inr (by decide))]; exact z6568
                                have z6667 : q_ir (q_r f6660 mo 1) bu := by rw [ef6660, q_setr (Or.inr (by decide))]; exact z6569
                                have g6668 : tk_ub f6660 bu B tn := tk_ub_tr g6570 (fun i9 => by rw [ef6660, q_setz (Or.inl (fun q => by rw [q, kmo] at kbu; exact absurd kbu (by decide)))])
                                refine q_ald_n cx dX12_goOn_232 rfl (lv_at hl 2 rfl) ?_
                                refine q_ild_n cx dX12_goOn_233 rfl (lv_at hl 1 rfl) ?_
                                refine q_pX12_114 cx hB hmo kmo ⟨by omega, by omega⟩ (by omega) (by omega) rfl dX12_goOn_234 (fun H locs f6669 ef6669 z6670 hB => ?_)
                                have z6671 : q_is (q_z f6669 mo 3) tn := by rw [ef6669, q_setz (Or.inr (by decide))]; exact z6662
                                have z6672 : q_is (q_z f6669 mo 4) w0_mo_4 := by rw [ef6669, q_setz (Or.inr (by decide))]; exact z6663
                                have z6673 : q_is (q_z f6669 mo 5) w0_mo_4 := by rw [ef6669, q_setz (Or.inr (by decide))]; exact z6664
                                have z6674 : q_is (q_z f6669 mo 6) 4 := by rw [ef6669, q_setz (Or.inr (by decide))]; exact z6661
                                have z6675 : q_j f6669 mo 12 = (q_l 0) := by rw [ef6669, q_setj (Or.inr (by decide))]; exact z6666
                                have z6676 : q_ir (q_r f6669 mo 1) bu := by rw [ef6669, q_setr (Or.inr (by decide))]; exact z6667
                                have g6677 : tk_ub f6669 bu B tn := tk_ub_tr g6668 (fun i9 => by rw [ef6669, q_setz (Or.inl (fun q => by rw [q, kmo] at kbu; exact absurd kbu (by decide)))])
                                refine q_iconst cx dX12_goOn_237 ?_
                                refine lv_istore_n (lv' := [(2, .int (q_i 1)), (1, .int (q_i y6572)), (0, .ref mo)]) cx.1 cx.2.1 dX12_goOn_238 rfl hl (by decide) rfl (fun ls hl => ?_)
                                refine q_ald_n cx dX12_goOn_239 rfl (lv_at hl 2 rfl) ?_
                                refine lv_dup cx.1 cx.2.1 dX12_goOn_240 rfl ?_
                                refine q_gX12_97 cx hB hmo kmo z6672 dX12_goOn_241 (fun lb6678 ub6678 => ?_)
                                refine q_ild_n cx dX12_goOn_244 rfl (lv_at hl 0 rfl) ?_
                                refine q_iadd cx dX12_goOn_245 ?_
                                refine q_pX12_97 cx hB hmo kmo ⟨by omega, by omega⟩ (by omega) (by omega) rfl dX12_goOn_246 (fun H locs f6679 ef6679 z6680 hB => ?_)
                                have z6681 : q_is (q_z f6679 mo 3) tn := by rw [ef6679, q_setz (Or.inr (by decide))]; exact z6671
                                have z6682 : q_is (q_z f6679 mo 5) w0_mo_4 := by rw [ef6679, q_setz (Or.inr (by decide))]; exact z6673
                                have z6683 : q_is (q_z f6679 mo 6) 4 := by rw [ef6679, q_setz (Or.inr (by decide))]; exact z6674
                                have z6684 : q_is (q_z f6679 mo 7) y6572 := by rw [ef6679, q_setz (Or.inr (by decide))]; exact z6670
                                have z6685 : q_j f6679 mo 12 = (q_l 0) := by rw [ef6679, q_setj (Or.inr (by decide))]; exact z6675
                                have z6686 : q_ir (q_r f6679 mo 1) bu := by rw [ef6679, q_setr (Or.inr (by decide))]; exact z6676
                                have g6687 : tk_ub f6679 bu B tn := tk_ub_tr g6677 (fun i9 => by rw [ef6679, q_setz (Or.inl (fun q => by rw [q, kmo] at kbu; exact absurd kbu (by decide)))])
                                have htr9 : tk_tr f6679 mo B tn := tk_tr_sign z6682 z6680 (by omega) z6683 z6684 g6687 (tk_uN g6687 t6576 (by omega) (by omega) (by omega)) (by omega) (by omega) ((tk_uL g6687 t6576 (by omega) (by omega) (by omega)).symm.trans t6588) ((tk_uD g6687 t6576 (by omega) (by omega) (by omega)).symm.trans t6599) (by omega)
                                refine q_vret cx hr hlk hB dX12_goOn_249 ?_
                                exact ⟨(Eq.trans z6682 hst), htr9⟩
                              · refine q_iconst cx dX12_goOn_224 ?_
                                refine lv_goto (tgt := 229) cx.1 cx.2.1 dX12_goOn_225 (by decide) ?_
                                refine q_pX12_117 cx hB hmo kmo ⟨by decide, by decide⟩ (by decide) (by decide) rfl dX12_goOn_229 (fun H locs f6688 ef6688 z6689 hB => ?_)
                                have z6690 : q_is (q_z f6688 mo 3) tn := by rw [ef6688, q_setz (Or.inr (by decide))]; exact z6565
                                have z6691 : q_is (q_z f6688 mo 4) w0_mo_4 := by rw [ef6688, q_setz (Or.inr (by decide))]; exact z6566
                                have z6692 : q_is (q_z f6688 mo 5) w0_mo_4 := by rw [ef6688, q_setz (Or.inr (by decide))]; exact z6567
                                have z6693 : q_is (q_z f6688 mo 7) 0 := by rw [ef6688, q_setz (Or.inr (by decide))]; exact z6564
                                have z6694 : q_j f6688 mo 12 = (q_l 0) := by rw [ef6688, q_setj (Or.inr (by decide))]; exact z6568
                                have z6695 : q_ir (q_r f6688 mo 1) bu := by rw [ef6688, q_setr (Or.inr (by decide))]; exact z6569
                                have g6696 : tk_ub f6688 bu B tn := tk_ub_tr g6570 (fun i9 => by rw [ef6688, q_setz (Or.inl (fun q => by rw [q, kmo] at kbu; exact absurd kbu (by decide)))])
                                refine q_ald_n cx dX12_goOn_232 rfl (lv_at hl 2 rfl) ?_
                                refine q_ild_n cx dX12_goOn_233 rfl (lv_at hl 1 rfl) ?_
                                refine q_pX12_114 cx hB hmo kmo ⟨by omega, by omega⟩ (by omega) (by omega) rfl dX12_goOn_234 (fun H locs f6697 ef6697 z6698 hB => ?_)
                                have z6699 : q_is (q_z f6697 mo 3) tn := by rw [ef6697, q_setz (Or.inr (by decide))]; exact z6690
                                have z6700 : q_is (q_z f6697 mo 4) w0_mo_4 := by rw [ef6697, q_setz (Or.inr (by decide))]; exact z6691
                                have z6701 : q_is (q_z f6697 mo 5) w0_mo_4 := by rw [ef6697, q_setz (Or.inr (by decide))]; exact z6692
                                have z6702 : q_is (q_z f6697 mo 6) 3 := by rw [ef6697, q_setz (Or.inr (by decide))]; exact z6689
                                have z6703 : q_j f6697 mo 12 = (q_l 0) := by rw [ef6697, q_setj (Or.inr (by decide))]; exact z6694
                                have z6704 : q_ir (q_r f6697 mo 1) bu := by rw [ef6697, q_setr (Or.inr (by decide))]; exact z6695
                                have g6705 : tk_ub f6697 bu B tn := tk_ub_tr g6696 (fun i9 => by rw [ef6697, q_setz (Or.inl (fun q => by rw [q, kmo] at kbu; exact absurd kbu (by decide)))])
                                refine q_iconst cx dX12_goOn_237 ?_
                                refine lv_istore_n (lv' := [(2, .int (q_i 1)), (1, .int (q_i y6572)), (0, .ref mo)]) cx.1 cx.2.1 dX12_goOn_238 rfl hl (by decide) rfl (fun ls hl => ?_)
                                refine q_ald_n cx dX12_goOn_239 rfl (lv_at hl 2 rfl) ?_
                                refine lv_dup cx.1 cx.2.1 dX12_goOn_240 rfl ?_
                                refine q_gX12_97 cx hB hmo kmo z6700 dX12_goOn_241 (fun lb6706 ub6706 => ?_)
                                refine q_ild_n cx dX12_goOn_244 rfl (lv_at hl 0 rfl) ?_
                                refine q_iadd cx dX12_goOn_245 ?_
                                refine q_pX12_97 cx hB hmo kmo ⟨by omega, by omega⟩ (by omega) (by omega) rfl dX12_goOn_246 (fun H locs f6707 ef6707 z6708 hB => ?_)
                                have z6709 : q_is (q_z f6707 mo 3) tn := by rw [ef6707, q_setz (Or.inr (by decide))]; exact z6699
                                have z6710 : q_is (q_z f6707 mo 5) w0_mo_4 := by rw [ef6707, q_setz (Or.inr (by decide))]; exact z6701
                                have z6711 : q_is (q_z f6707 mo 6) 3 := by rw [ef6707, q_setz (Or.inr (by decide))]; exact z6702
                                have z6712 : q_is (q_z f6707 mo 7) y6572 := by rw [ef6707, q_setz (Or.inr (by decide))]; exact z6698
                                have z6713 : q_j f6707 mo 12 = (q_l 0) := by rw [ef6707, q_setj (Or.inr (by decide))]; exact z6703
                                have z6714 : q_ir (q_r f6707 mo 1) bu := by rw [ef6707, q_setr (Or.inr (by decide))]; exact z6704
                                have g6715 : tk_ub f6707 bu B tn := tk_ub_tr g6705 (fun i9 => by rw [ef6707, q_setz (Or.inl (fun q => by rw [q, kmo] at kbu; exact absurd kbu (by decide)))])
                                have htr9 : tk_tr f6707 mo B tn := tk_tr_sign z6710 z6708 (by omega) z6711 z6712 g6715 (tk_uN g6715 t6576 (by omega) (by omega) (by omega)) (by omega) (by omega) ((tk_uL g6715 t6576 (by omega) (by omega) (by omega)).symm.trans t6588) ((tk_uD g6715 t6576 (by omega) (by omega) (by omega)).symm.trans t6599) (by omega)
                                refine q_vret cx hr hlk hB dX12_goOn_249 ?_
                                exact ⟨(Eq.trans z6710 hst), htr9⟩
                        · exact absurd c6600 (by omega)
                    · exact absurd c6589 (by omega)
                · exact absurd c6578 (by omega)
              · obtain ⟨rfl, qy6572, t6716⟩ := h6575
                subst qy6572
                exact False.elim (by omega)
            · refine q_ald_n cx dX12_goOn_20 rfl (lv_at hl 0 rfl) ?_
              refine lv_dup cx.1 cx.2.1 dX12_goOn_21 rfl ?_
              refine q_gX12_97 cx hB hmo kmo hj_mo_4 dX12_goOn_22 (fun lb6717 ub6717 => ?_)
              refine q_iconst cx dX12_goOn_25 ?_
              refine q_iadd cx dX12_goOn_26 ?_
              refine q_pX12_97 cx hB hmo kmo ⟨by omega, by omega⟩ (by omega) (by omega) rfl dX12_goOn_27 (fun H locs f6718 ef6718 z6719 hB => ?_)
              have z6720 : q_is (q_z f6718 mo 3) tn := by rw [ef6718, q_setz (Or.inr (by decide))]; exact hj_mo_3
              have z6721 : q_ir (q_r f6718 mo 1) bu := by rw [ef6718, q_setr (Or.inr (by decide))]; exact hq_mo_1
              have g6722 : tk_ub f6718 bu B tn := tk_ub_tr hub0 (fun i9 => by rw [ef6718, q_setz (Or.inl (fun q => by rw [q, kmo] at kbu; exact absurd kbu (by decide)))])
              refine lv_goto (tgt := 0) cx.1 cx.2.1 dX12_goOn_30 (by decide) ?_
              exact ih0 f6718 (w0_mo_4 + 1) (by omega) (by omega) z6720 z6719 z6721 g6722 (by omega) (by omega) (tk_ru_step hru (by omega) (by omega) (fun _ => rfl) ((tk_uS g6722 t6546 (by omega) (by omega) (by omega)).symm.trans (tk_sp_y (by omega)))) (by omega) H locs hB ls (lv_sub hl [0] rfl)
          · obtain ⟨rfl, qy6542, t6723⟩ := h6545
            subst qy6542
            exact False.elim (by omega)
      · obtain ⟨rfl, qy6528, t6724⟩ := h6531
        subst qy6528
        refine q_bipush cx dX12_goOn_5 rfl ?_
        refine q_iceq (tgt := 20) cx ⟨by decide, by decide⟩ ⟨by decide, by decide⟩ dX12_goOn_7 (by decide) (fun c6725 => ?_) (fun c6725 => ?_)
        · exact absurd c6725 (by omega)
        · refine q_ald_n cx dX12_goOn_10 rfl (lv_at hl 0 rfl) ?_
          refine q_iconst cx dX12_goOn_11 ?_
          refine q_cVi (As := [.int (q_i 0)]) (rest := []) cx hB (fun _ h => h) hN hmo kmo (by decide) rfl (f_mhere l g hN hB.2.1 B mo hmo kmo 0 (by decide) (by decide) bu hbu kbu w0_mo_4 (by omega) (by omega) tn (by omega) (by omega) hj_mo_4 hj_mo_3 hq_mo_1 hub0) q_cX12_103 q_dX12_here (by decide) rfl rfl hl.1 rfl (Nat.le_of_ble_eq_true rfl) dX12_goOn_12 (fun y6727 H locs f6726 ry6727 h6728 hF hB => ?_)
          rcases h6728 with h6729 | h6730
          · obtain ⟨rfl, ly6727, uy6727, t6731, t6732⟩ := h6729
            exact False.elim (by omega)
          · obtain ⟨rfl, qy6727, t6733⟩ := h6730
            subst qy6727
            refine q_bipush cx dX12_goOn_15 rfl ?_
            refine q_icne (tgt := 33) cx ⟨by decide, by decide⟩ ⟨by decide, by decide⟩ dX12_goOn_17 (by decide) (fun c6734 => ?_) (fun c6734 => ?_)
            · have hst : w0_mo_4 = tk_S B tn nx := tk_ru_over hru (by omega)
              refine q_ald_n cx dX12_goOn_33 rfl (lv_at hl 0 rfl) ?_
              refine q_ald_n cx dX12_goOn_34 rfl (lv_at hl 0 rfl) ?_
              refine q_gX12_97 cx hB hmo kmo hj_mo_4 dX12_goOn_35 (fun lb6735 ub6735 => ?_)
              refine q_pX12_107 cx hB hmo kmo ⟨by omega, by omega⟩ (by omega) (by omega) rfl dX12_goOn_38 (fun H locs f6736 ef6736 z6737 hB => ?_)
              have z6738 : q_is (q_z f6736 mo 3) tn := by rw [ef6736, q_setz (Or.inr (by decide))]; exact hj_mo_3
              have z6739 : q_is (q_z f6736 mo 4) w0_mo_4 := by rw [ef6736, q_setz (Or.inr (by decide))]; exact hj_mo_4
              have z6740 : q_ir (q_r f6736 mo 1) bu := by rw [ef6736, q_setr (Or.inr (by decide))]; exact hq_mo_1
              have g6741 : tk_ub f6736 bu B tn := tk_ub_tr hub0 (fun i9 => by rw [ef6736, q_setz (Or.inl (fun q => by rw [q, kmo] at kbu; exact absurd kbu (by decide)))])
              refine q_ald_n cx dX12_goOn_41 rfl (lv_at hl 0 rfl) ?_
              refine q_lconst (z := 0) cx (by decide) dX12_goOn_42 ?_
              refine q_pX12_110 cx hB hmo kmo rfl dX12_goOn_43 (fun H locs f6742 ef6742 z6743 hB => ?_)
              have z6744 : q_is (q_z f6742 mo 3) tn := by rw [ef6742, q_setz (Or.inr (by decide))]; exact z6738
              have z6745 : q_is (q_z f6742 mo 4) w0_mo_4 := by rw [ef6742, q_setz (Or.inr (by decide))]; exact z6739
              have z6746 : q_is (q_z f6742 mo 5) w0_mo_4 := by rw [ef6742, q_setz (Or.inr (by decide))]; exact z6737
              have z6747 : q_ir (q_r f6742 mo 1) bu := by rw [ef6742, q_setr (Or.inr (by decide))]; exact z6740
              have g6748 : tk_ub f6742 bu B tn := tk_ub_tr g6741 (fun i9 => by rw [ef6742, q_setz (Or.inl (fun q => by rw [q, kmo] at kbu; exact absurd kbu (by decide)))])
              refine q_ald_n cx dX12_goOn_46 rfl (lv_at hl 0 rfl) ?_
              refine q_iconst cx dX12_goOn_47 ?_
              refine q_pX12_114 cx hB hmo kmo ⟨by decide, by decide⟩ (by decide) (by decide) rfl dX12_goOn_48 (fun H locs f6749 ef6749 z6750 hB => ?_)
              have z6751 : q_is (q_z f6749 mo 3) tn := by rw [ef6749, q_setz (Or.inr (by decide))]; exact z6744
              have z6752 : q_is (q_z f6749 mo 4) w0_mo_4 := by rw [ef6749, q_setz (Or.inr (by decide))]; exact z6745
              have z6753 : q_is (q_z f6749 mo 5) w0_mo_4 := by rw [ef6749, q_setz (Or.inr (by decide))]; exact z6746
              have z6754 : q_j f6749 mo 12 = (q_l 0) := by rw [ef6749, q_setj (Or.inr (by decide))]; exact z6743
              have z6755 : q_ir (q_r f6749 mo 1) bu := by rw [ef6749, q_setr (Or.inr (by decide))]; exact z6747
              have g6756 : tk_ub f6749 bu B tn := tk_ub_tr g6748 (fun i9 => by rw [ef6749, q_setz (Or.inl (fun q => by rw [q, kmo] at kbu; exact absurd kbu (by decide)))])
              refine q_ald_n cx dX12_goOn_51 rfl (lv_at hl 0 rfl) ?_
              refine q_iconst cx dX12_goOn_52 ?_
              refine q_cVi (As := [.int (q_i 0)]) (rest := []) cx hB (fun _ h => h) hN hmo kmo (by decide) rfl (f_mhere l g hN hB.2.1 B mo hmo kmo 0 (by decide) (by decide) bu hbu kbu w0_mo_4 (by omega) (by omega) tn (by omega) (by omega) z6752 z6751 z6755 g6756) q_cX12_103 q_dX12_here (by decide) rfl rfl hl.1 rfl (Nat.le_of_ble_eq_true rfl) dX12_goOn_53 (fun y6758 H locs f6757 ry6758 h6759 hF hB => ?_)
              rcases h6759 with h6760 | h6761
              · obtain ⟨rfl, ly6758, uy6758, t6762, t6763⟩ := h6760
                exact False.elim (by omega)
              · obtain ⟨rfl, qy6758, t6764⟩ := h6761
                subst qy6758
                refine lv_istore_n (lv' := [(1, .int (q_i (-1))), (0, .ref mo)]) cx.1 cx.2.1 dX12_goOn_56 rfl hl (by decide) rfl (fun ls hl => ?_)
                refine q_iconst cx dX12_goOn_57 ?_
                refine lv_istore_n (lv' := [(2, .int (q_i 0)), (1, .int (q_i (-1))), (0, .ref mo)]) cx.1 cx.2.1 dX12_goOn_58 rfl hl (by decide) rfl (fun ls hl => ?_)
                refine q_ild_n cx dX12_goOn_59 rfl (lv_at hl 1 rfl) ?_
                refine q_ifge (tgt := 69) cx ⟨by decide, by decide⟩ dX12_goOn_60 (by decide) (fun c6765 => ?_) (fun c6765 => ?_)
                · exact absurd c6765 (by omega)
                · refine q_ald_n cx dX12_goOn_63 rfl (lv_at hl 2 rfl) ?_
                  refine q_iconst cx dX12_goOn_64 ?_
                  refine q_pX12_117 cx hB hmo kmo ⟨by decide, by decide⟩ (by decide) (by decide) rfl dX12_goOn_65 (fun H locs f6766 ef6766 z6767 hB => ?_)
                  have z6768 : q_is (q_z f6766 mo 3) tn := by rw [ef6766, q_setz (Or.inr (by decide))]; exact z6751
                  have z6769 : q_is (q_z f6766 mo 4) w0_mo_4 := by rw [ef6766, q_setz (Or.inr (by decide))]; exact z6752
                  have z6770 : q_is (q_z f6766 mo 5) w0_mo_4 := by rw [ef6766, q_setz (Or.inr (by decide))]; exact z6753
                  have z6771 : q_is (q_z f6766 mo 7) 0 := by rw [ef6766, q_setz (Or.inr (by decide))]; exact z6750
                  have z6772 : q_j f6766 mo 12 = (q_l 0) := by rw [ef6766, q_setj (Or.inr (by decide))]; exact z6754
                  have z6773 : q_ir (q_r f6766 mo 1) bu := by rw [ef6766, q_setr (Or.inr (by decide))]; exact z6755
                  have g6774 : tk_ub f6766 bu B tn := tk_ub_tr g6756 (fun i9 => by rw [ef6766, q_setz (Or.inl (fun q => by rw [q, kmo] at kbu; exact absurd kbu (by decide)))])
                  have htr9 : tk_tr f6766 mo B tn := tk_tr_over z6770 z6769 z6767 (by omega) (by omega)
                  refine q_vret cx hr hlk hB dX12_goOn_68 ?_
                  exact ⟨(Eq.trans z6770 hst), htr9⟩
            · exact absurd c6734 (by omega)
  obtain ⟨H, hH⟩ : ∃ H : Heap, H = s.heap := ⟨_, rfl⟩
  obtain ⟨locs, hlocs⟩ : ∃ z : List Loc, z = [] := ⟨_, rfl⟩
  rw [← hH, ← hlocs] at hB
  rw [← hH, ← hlocs]
  exact J0 ((Int.toNat (601 - nx)) + 1) f nx (by omega) (by omega) hf0 hf1 hr0 hub (by omega) (by omega) rfl (Nat.lt_succ_self _) H locs hB ls (lv_sub hl [0] rfl)
