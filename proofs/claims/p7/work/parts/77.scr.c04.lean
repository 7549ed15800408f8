set_option maxHeartbeats 4000000 in
set_option maxRecDepth 100000 in
theorem f_readNames (l : Launch) (g : q_G) {K : Nat → Nat} {L : List Nat} (hN : L.Nodup) {f : Nat → va_E} (hT : q_Ty g K L f) (B : Nat → Int) (nl9 : List (List Int)) (scr : Nat) (hscr : scr ∈ L) (kscr : K scr = 7) (so : Nat) (hso : so ∈ L) (kso : K so = 8) (now : Nat) (hnow : now ∈ L) (know : K now = 10) (cmd : Nat) (hcmd : cmd ∈ L) (kcmd : K cmd = 0) (ba : Nat) (hba : ba ∈ L) (kba : K ba = 142) (ndn : Nat) (hndn : ndn ∈ L) (kndn : K ndn = 110) (tn : Int) (ltn : 0 ≤ tn) (utn : tn ≤ 600) (ss : Int) (lss : 0 ≤ ss) (uss : ss ≤ 600) (kq : Int) (lkq : 0 ≤ kq) (ukq : kq ≤ 5) (hf0 : q_is (q_z f so 1) tn) (hf1 : q_is (q_z f so 8) ss) (hf2 : q_is (q_z f so 2) 0) (hf3 : q_is (q_z f so 3) (-1)) (hf4 : q_is (q_z f cmd 0) kq) (hr0 : q_ir (q_r f so 0) ba) (hr1 : q_ir (q_r f now 0) ndn) (htc : tk_tc f so B tn) (htb : tk_tb f ba B tn) (hvn : tk_vn K L 5 f now ndn nl9) : q_Ct l g K L yX7_readNames cX7_readNames 4 (some .boolean) 3 66 [.ref scr, .ref so, .ref now, .ref cmd] f [(0, 2, 3), (8, 2, 4), (8, 6, 9)] (q_Pi (fun (z : Int) (f1 : Nat → va_E) => (z = 1 ∧ q_is (q_z f1 so 2) 0 ∧ q_is (q_z f1 so 3) (-1) ∧ (tk_ns B tn nl9 kq ss = tk_ok (q_z f1 so 8)) ∧ (tk_tc f1 so B tn)) ∨ (z = 0 ∧ (tk_ns B tn nl9 kq ss = tk_er (q_z f1 so 2) (q_z f1 so 3)) ∧ (tk_tc f1 so B tn)))) := by
  refine q_ofb (by decide +kernel) hN hT (Nat.le_of_ble_eq_true rfl) ?_
  intro p e s m below meth c ls cx hr hlk hB hl
  have hl : lv_has ls 4 [(0, .ref scr), (1, .ref so), (2, .ref now), (3, .ref cmd)] := hl
  obtain ⟨H, hH⟩ : ∃ H : Heap, H = s.heap := ⟨_, rfl⟩
  obtain ⟨locs, hlocs⟩ : ∃ z : List Loc, z = [] := ⟨_, rfl⟩
  rw [← hH, ← hlocs] at hB
  rw [← hH, ← hlocs]
  refine q_ald_n cx dX7_readNames_0 rfl (lv_at hl 3 rfl) ?_
  refine q_gX7_78 cx hB hcmd kcmd hf4 dX7_readNames_1 (fun lb259 ub259 => ?_)
  refine q_ifeq (tgt := 30) cx ⟨by omega, by omega⟩ dX7_readNames_4 (by decide) (fun c260 => ?_) (fun c260 => ?_)
  · refine q_ald_n cx dX7_readNames_30 rfl (lv_at hl 3 rfl) ?_
    refine q_gX7_78 cx hB hcmd kcmd hf4 dX7_readNames_31 (fun lb261 ub261 => ?_)
    refine q_iconst cx dX7_readNames_34 ?_
    refine q_iceq (tgt := 46) cx ⟨by omega, by omega⟩ ⟨by decide, by decide⟩ dX7_readNames_35 (by decide) (fun c262 => ?_) (fun c262 => ?_)
    · exact absurd c262 (by omega)
    · refine q_ald_n cx dX7_readNames_38 rfl (lv_at hl 3 rfl) ?_
      refine q_gX7_78 cx hB hcmd kcmd hf4 dX7_readNames_39 (fun lb263 ub263 => ?_)
      refine q_iconst cx dX7_readNames_42 ?_
      refine q_icne (tgt := 69) cx ⟨by omega, by omega⟩ ⟨by decide, by decide⟩ dX7_readNames_43 (by decide) (fun c264 => ?_) (fun c264 => ?_)
      · refine q_iconst cx dX7_readNames_69 ?_
        refine q_zret cx hr hlk hB dX7_readNames_70 (by decide) (by decide) ?_
        exact (Or.inl ⟨rfl, hf2, hf3, (tk_ns_0 (by omega) hf1), htc⟩)
      · exact absurd c264 (by omega)
  · refine q_ald_n cx dX7_readNames_7 rfl (lv_at hl 3 rfl) ?_
    refine q_ald_n cx dX7_readNames_8 rfl (lv_at hl 1 rfl) ?_
    refine q_ald_n cx dX7_readNames_9 rfl (lv_at hl 2 rfl) ?_
    obtain ⟨x265, ex265⟩ : ∃ zz, q_is (q_z f now 3) zz := ⟨_, q_isr _⟩
    obtain ⟨lx265, ux265⟩ := q_isb ex265 (q_fib hB.2.1 hnow know (by decide) rfl)
    refine q_cVi (As := [.ref now]) (rest := [.ref cmd]) cx hB (fun _ h => h) hN hso kso (by decide) rfl (f_expectNodeN l g hN hB.2.1 B nl9 so hso kso now hnow know ba hba kba ndn hndn kndn tn (by omega) (by omega) ss (by omega) (by omega) x265 (by omega) (by omega) hf0 hf1 hf2 hf3 ex265 hr0 hr1 htc htb hvn) q_cX7_114 q_dX8_expectNode (by decide) rfl rfl hl.1 rfl (Nat.le_of_ble_eq_true rfl) dX7_readNames_10 (fun y267 H locs f266 ry267 h268 hF hB => ?_)
    rcases h268 with h269 | h270
    · obtain ⟨ly267, uy267, z271, z272, z273, t274, t275, g276⟩ := h269
      have z277 : q_is (q_z f266 so 1) tn := Eq.trans (hF.z hso (by rw [kso]; rfl)) hf0
      have z278 : q_is (q_z f266 so 8) ss := Eq.trans (hF.z hso (by rw [kso]; rfl)) hf1
      have z279 : q_is (q_z f266 cmd 0) kq := Eq.trans (hF.z hcmd (by rw [kcmd]; rfl)) hf4
      have z280 : q_is (q_z f266 now 3) x265 := Eq.trans (hF.z hnow (by rw [know]; rfl)) ex265
      have z281 : q_ir (q_r f266 so 0) ba := Eq.trans (hF.r hso (by rw [kso]; rfl)) hr0
      have z282 : q_ir (q_r f266 now 0) ndn := Eq.trans (hF.r hnow (by rw [know]; rfl)) hr1
      have g283 : tk_tc f266 so B tn := tk_tc_tr htc (hF.z hso (by rw [kso]; rfl)) (hF.z hso (by rw [kso]; rfl)) (hF.z hso (by rw [kso]; rfl)) (hF.j hso (by rw [kso]; rfl)) (hF.z hso (by rw [kso]; rfl))
      have g284 : tk_tb f266 ba B tn := tk_tb_tr htb (fun i9 => hF.z hba (by rw [kba]; rfl))
      have g285 : tk_vn K L 5 f266 now ndn nl9 := tk_vn_tr hvn (hF.z hnow (by rw [know]; rfl)) (fun a9 h9 k9 => hF.j h9 (by rw [k9]; rfl)) (fun i9 => hF.r hndn (by rw [kndn]; rfl))
      refine q_pX7_118 cx hB hcmd kcmd ⟨by omega, by omega⟩ (by omega) (by omega) rfl dX7_readNames_13 (fun H locs f286 ef286 z287 hB => ?_)
      have z288 : q_is (q_z f286 so 1) tn := by rw [ef286, q_setz (Or.inr (by decide))]; exact z277
      have z289 : q_is (q_z f286 so 8) ss := by rw [ef286, q_setz (Or.inr (by decide))]; exact z273
      have z290 : q_is (q_z f286 cmd 0) kq := by rw [ef286, q_setz (Or.inr (by decide))]; exact z279
      have z291 : q_is (q_z f286 now 3) x265 := by rw [ef286, q_setz (Or.inr (by decide))]; exact z280
      have z292 : q_is (q_z f286 so 2) 0 := by rw [ef286, q_setz (Or.inl (fun q => by rw [q, kcmd] at kso; exact absurd kso (by decide)))]; exact z271
      have z293 : q_is (q_z f286 so 3) (-1) := by rw [ef286, q_setz (Or.inr (by decide))]; exact z272
      have z294 : q_ir (q_r f286 so 0) ba := by rw [ef286, q_setr (Or.inr (by decide))]; exact z281
      have z295 : q_ir (q_r f286 now 0) ndn := by rw [ef286, q_setr (Or.inr (by decide))]; exact z282
      have g296 : tk_tc f286 so B tn := tk_tc_tr g276 (by rw [ef286, q_setz (Or.inr (by decide))]) (by rw [ef286, q_setz (Or.inr (by decide))]) (by rw [ef286, q_setz (Or.inr (by decide))]) (by rw [ef286, q_setj (Or.inr (by decide))]) (by rw [ef286, q_setz (Or.inr (by decide))])
      have g297 : tk_tb f286 ba B tn := tk_tb_tr g284 (fun i9 => by rw [ef286, q_setz (Or.inl (fun q => by rw [q, kcmd] at kba; exact absurd kba (by decide)))])
      have g298 : tk_vn K L 5 f286 now ndn nl9 := tk_vn_tr g285 (by rw [ef286, q_setz (Or.inr (by decide))]) (fun a9 h9 k9 => by rw [ef286, q_setj (Or.inl (fun q => by rw [q, kcmd] at k9; exact absurd k9 (by decide)))]) (fun i9 => by rw [ef286, q_setr (Or.inl (fun q => by rw [q, kcmd] at kndn; exact absurd kndn (by decide)))])
      refine q_ald_n cx dX7_readNames_16 rfl (lv_at hl 3 rfl) ?_
      refine q_gX7_118 cx hB hcmd kcmd z287 dX7_readNames_17 (fun lb299 ub299 => ?_)
      refine q_iconst cx dX7_readNames_20 ?_
      refine q_icne (tgt := 26) cx ⟨by omega, by omega⟩ ⟨by decide, by decide⟩ dX7_readNames_21 (by decide) (fun c300 => ?_) (fun c300 => ?_)
      · refine q_ald_n cx dX7_readNames_26 rfl (lv_at hl 1 rfl) ?_
        refine q_cVv (As := []) (rest := []) cx hB (fun _ h => h) hN hso kso (by decide) rfl (f_adv l g hN hB.2.1 B so hso kso ba hba kba tn (by omega) (by omega) ss (by omega) (by omega) z288 z289 z294 g296 g297) q_cX7_81 q_dX8_advance (by decide) rfl rfl hl.1 rfl (Nat.le_of_ble_eq_true rfl) dX7_readNames_27 (fun H locs f301 h303 hF hB => ?_)
        obtain ⟨t304, g305⟩ := h303
        have z306 : q_is (q_z f301 so 1) tn := Eq.trans (hF.z hso (by rw [kso]; rfl)) z288
        have z307 : q_is (q_z f301 cmd 0) kq := Eq.trans (hF.z hcmd (by rw [kcmd]; rfl)) z290
        have z308 : q_is (q_z f301 now 3) x265 := Eq.trans (hF.z hnow (by rw [know]; rfl)) z291
        have z309 : q_is (q_z f301 so 2) 0 := Eq.trans (hF.z hso (by rw [kso]; rfl)) z292
        have z310 : q_is (q_z f301 so 3) (-1) := Eq.trans (hF.z hso (by rw [kso]; rfl)) z293
        have z311 : q_is (q_z f301 cmd 2) y267 := Eq.trans (hF.z hcmd (by rw [kcmd]; rfl)) z287
        have z312 : q_ir (q_r f301 so 0) ba := Eq.trans (hF.r hso (by rw [kso]; rfl)) z294
        have z313 : q_ir (q_r f301 now 0) ndn := Eq.trans (hF.r hnow (by rw [know]; rfl)) z295
        have g314 : tk_tb f301 ba B tn := tk_tb_tr g297 (fun i9 => hF.z hba (by rw [kba]; rfl))
        have g315 : tk_vn K L 5 f301 now ndn nl9 := tk_vn_tr g298 (hF.z hnow (by rw [know]; rfl)) (fun a9 h9 k9 => hF.j h9 (by rw [k9]; rfl)) (fun i9 => hF.r hndn (by rw [kndn]; rfl))
        obtain ⟨x316, ex316⟩ : ∃ zz, q_is (q_z f301 so 8) zz := ⟨_, q_isr _⟩
        obtain ⟨lx316, ux316⟩ := q_isb ex316 (q_fib hB.2.1 hso kso (by decide) rfl)
        obtain ⟨-, l0x316, u0x316, -, -⟩ := tk_tc_n g305 ex316
        refine q_ald_n cx dX7_readNames_30 rfl (lv_at hl 3 rfl) ?_
        refine q_gX7_78 cx hB hcmd kcmd z307 dX7_readNames_31 (fun lb317 ub317 => ?_)
        refine q_iconst cx dX7_readNames_34 ?_
        refine q_iceq (tgt := 46) cx ⟨by omega, by omega⟩ ⟨by decide, by decide⟩ dX7_readNames_35 (by decide) (fun c318 => ?_) (fun c318 => ?_)
        · refine q_ald_n cx dX7_readNames_46 rfl (lv_at hl 3 rfl) ?_
          refine q_ald_n cx dX7_readNames_47 rfl (lv_at hl 1 rfl) ?_
          refine q_ald_n cx dX7_readNames_48 rfl (lv_at hl 2 rfl) ?_
          refine q_cVi (As := [.ref now]) (rest := [.ref cmd]) cx hB (fun _ h => h) hN hso kso (by decide) rfl (f_expectNodeN l g hN hB.2.1 B nl9 so hso kso now hnow know ba hba kba ndn hndn kndn tn (by omega) (by omega) x316 (by omega) (by omega) x265 (by omega) (by omega) z306 ex316 z309 z310 z308 z312 z313 g305 g314 g315) q_cX7_114 q_dX8_expectNode (by decide) rfl rfl hl.1 rfl (Nat.le_of_ble_eq_true rfl) dX7_readNames_49 (fun y320 H locs f319 ry320 h321 hF hB => ?_)
          rcases h321 with h322 | h323
          · obtain ⟨ly320, uy320, z324, z325, z326, t327, t328, g329⟩ := h322
            have z330 : q_is (q_z f319 so 1) tn := Eq.trans (hF.z hso (by rw [kso]; rfl)) z306
            have z331 : q_is (q_z f319 cmd 0) kq := Eq.trans (hF.z hcmd (by rw [kcmd]; rfl)) z307
            have z332 : q_is (q_z f319 now 3) x265 := Eq.trans (hF.z hnow (by rw [know]; rfl)) z308
            have z333 : q_is (q_z f319 cmd 2) y267 := Eq.trans (hF.z hcmd (by rw [kcmd]; rfl)) z311
            have z334 : q_is (q_z f319 so 8) x316 := Eq.trans (hF.z hso (by rw [kso]; rfl)) ex316
            have z335 : q_ir (q_r f319 so 0) ba := Eq.trans (hF.r hso (by rw [kso]; rfl)) z312
            have z336 : q_ir (q_r f319 now 0) ndn := Eq.trans (hF.r hnow (by rw [know]; rfl)) z313
            have g337 : tk_tb f319 ba B tn := tk_tb_tr g314 (fun i9 => hF.z hba (by rw [kba]; rfl))
            have g338 : tk_vn K L 5 f319 now ndn nl9 := tk_vn_tr g315 (hF.z hnow (by rw [know]; rfl)) (fun a9 h9 k9 => hF.j h9 (by rw [k9]; rfl)) (fun i9 => hF.r hndn (by rw [kndn]; rfl))
            have g339 : tk_tc f319 so B tn := tk_tc_tr g305 (hF.z hso (by rw [kso]; rfl)) (hF.z hso (by rw [kso]; rfl)) (hF.z hso (by rw [kso]; rfl)) (hF.j hso (by rw [kso]; rfl)) (hF.z hso (by rw [kso]; rfl))
            refine q_pX7_121 cx hB hcmd kcmd ⟨by omega, by omega⟩ (by omega) (by omega) rfl dX7_readNames_52 (fun H locs f340 ef340 z341 hB => ?_)
            have z342 : q_is (q_z f340 so 1) tn := by rw [ef340, q_setz (Or.inr (by decide))]; exact z330
            have z343 : q_is (q_z f340 cmd 0) kq := by rw [ef340, q_setz (Or.inr (by decide))]; exact z331
            have z344 : q_is (q_z f340 now 3) x265 := by rw [ef340, q_setz (Or.inl (fun q => by rw [q, kcmd] at know; exact absurd know (by decide)))]; exact z332
            have z345 : q_is (q_z f340 cmd 2) y267 := by rw [ef340, q_setz (Or.inr (by decide))]; exact z333
            have z346 : q_is (q_z f340 so 8) x316 := by rw [ef340, q_setz (Or.inr (by decide))]; exact z326
            have z347 : q_is (q_z f340 so 2) 0 := by rw [ef340, q_setz (Or.inr (by decide))]; exact z324
            have z348 : q_is (q_z f340 so 3) (-1) := by rw [ef340, q_setz (Or.inl (fun q => by rw [q, kcmd] at kso; exact absurd kso (by decide)))]; exact z325
            have z349 : q_ir (q_r f340 so 0) ba := by rw [ef340, q_setr (Or.inr (by decide))]; exact z335
            have z350 : q_ir (q_r f340 now 0) ndn := by rw [ef340, q_setr (Or.inr (by decide))]; exact z336
            have g351 : tk_tb f340 ba B tn := tk_tb_tr g337 (fun i9 => by rw [ef340, q_setz (Or.inl (fun q => by rw [q, kcmd] at kba; exact absurd kba (by decide)))])
            have g352 : tk_vn K L 5 f340 now ndn nl9 := tk_vn_tr g338 (by rw [ef340, q_setz (Or.inl (fun q => by rw [q, kcmd] at know; exact absurd know (by decide)))]) (fun a9 h9 k9 => by rw [ef340, q_setj (Or.inl (fun q => by rw [q, kcmd] at k9; exact absurd k9 (by decide)))]) (fun i9 => by rw [ef340, q_setr (Or.inl (fun q => by rw [q, kcmd] at kndn; exact absurd kndn (by decide)))])
            have g353 : tk_tc f340 so B tn := tk_tc_tr g329 (by rw [ef340, q_setz (Or.inr (by decide))]) (by rw [ef340, q_setz (Or.inr (by decide))]) (by rw [ef340, q_setz (Or.inr (by decide))]) (by rw [ef340, q_setj (Or.inr (by decide))]) (by rw [ef340, q_setz (Or.inr (by decide))])
            refine q_ald_n cx dX7_readNames_55 rfl (lv_at hl 3 rfl) ?_
            refine q_gX7_121 cx hB hcmd kcmd z341 dX7_readNames_56 (fun lb354 ub354 => ?_)
            refine q_iconst cx dX7_readNames_59 ?_
            refine q_icne (tgt := 65) cx ⟨by omega, by omega⟩ ⟨by decide, by decide⟩ dX7_readNames_60 (by decide) (fun c355 => ?_) (fun c355 => ?_)
            · refine q_ald_n cx dX7_readNames_65 rfl (lv_at hl 1 rfl) ?_
              refine q_cVv (As := []) (rest := []) cx hB (fun _ h => h) hN hso kso (by decide) rfl (f_adv l g hN hB.2.1 B so hso kso ba hba kba tn (by omega) (by omega) x316 (by omega) (by omega) z342 z346 z349 g353 g351) q_cX7_81 q_dX8_advance (by decide) rfl rfl hl.1 rfl (Nat.le_of_ble_eq_true rfl) dX7_readNames_66 (fun H locs f356 h358 hF hB => ?_)
              obtain ⟨t359, g360⟩ := h358
              have z361 : q_is (q_z f356 so 1) tn := Eq.trans (hF.z hso (by rw [kso]; rfl)) z342
              have z362 : q_is (q_z f356 cmd 0) kq := Eq.trans (hF.z hcmd (by rw [kcmd]; rfl)) z343
              have z363 : q_is (q_z f356 now 3) x265 := Eq.trans (hF.z hnow (by rw [know]; rfl)) z344
              have z364 : q_is (q_z f356 cmd 2) y267 := Eq.trans (hF.z hcmd (by rw [kcmd]; rfl)) z345
              have z365 : q_is (q_z f356 so 2) 0 := Eq.trans (hF.z hso (by rw [kso]; rfl)) z347
              have z366 : q_is (q_z f356 so 3) (-1) := Eq.trans (hF.z hso (by rw [kso]; rfl)) z348
              have z367 : q_is (q_z f356 cmd 3) y320 := Eq.trans (hF.z hcmd (by rw [kcmd]; rfl)) z341
              have z368 : q_ir (q_r f356 so 0) ba := Eq.trans (hF.r hso (by rw [kso]; rfl)) z349
              have z369 : q_ir (q_r f356 now 0) ndn := Eq.trans (hF.r hnow (by rw [know]; rfl)) z350
              have g370 : tk_tb f356 ba B tn := tk_tb_tr g351 (fun i9 => hF.z hba (by rw [kba]; rfl))
              have g371 : tk_vn K L 5 f356 now ndn nl9 := tk_vn_tr g352 (hF.z hnow (by rw [know]; rfl)) (fun a9 h9 k9 => hF.j h9 (by rw [k9]; rfl)) (fun i9 => hF.r hndn (by rw [kndn]; rfl))
              obtain ⟨x372, ex372⟩ : ∃ zz, q_is (q_z f356 so 8) zz := ⟨_, q_isr _⟩
              obtain ⟨lx372, ux372⟩ := q_isb ex372 (q_fib hB.2.1 hso kso (by decide) rfl)
              obtain ⟨-, l0x372, u0x372, -, -⟩ := tk_tc_n g360 ex372
              refine q_iconst cx dX7_readNames_69 ?_
              refine q_zret cx hr hlk hB dX7_readNames_70 (by decide) (by decide) ?_
              exact (Or.inl ⟨rfl, z365, z366, (tk_ns_2 (by omega) t274 (Eq.trans (Eq.symm ex316) t304) t327 t359), g360⟩)
            · exact absurd c355 (by omega)
          · obtain ⟨qy320, t373, g374⟩ := h323
            have z375 : q_is (q_z f319 so 1) tn := Eq.trans (hF.z hso (by rw [kso]; rfl)) z306
            have z376 : q_is (q_z f319 cmd 0) kq := Eq.trans (hF.z hcmd (by rw [kcmd]; rfl)) z307
            have z377 : q_is (q_z f319 now 3) x265 := Eq.trans (hF.z hnow (by rw [know]; rfl)) z308
            have z378 : q_is (q_z f319 cmd 2) y267 := Eq.trans (hF.z hcmd (by rw [kcmd]; rfl)) z311
            have z379 : q_is (q_z f319 so 8) x316 := Eq.trans (hF.z hso (by rw [kso]; rfl)) ex316
            have z380 : q_ir (q_r f319 so 0) ba := Eq.trans (hF.r hso (by rw [kso]; rfl)) z312
            have z381 : q_ir (q_r f319 now 0) ndn := Eq.trans (hF.r hnow (by rw [know]; rfl)) z313
            have g382 : tk_tb f319 ba B tn := tk_tb_tr g314 (fun i9 => hF.z hba (by rw [kba]; rfl))
            have g383 : tk_vn K L 5 f319 now ndn nl9 := tk_vn_tr g315 (hF.z hnow (by rw [know]; rfl)) (fun a9 h9 k9 => hF.j h9 (by rw [k9]; rfl)) (fun i9 => hF.r hndn (by rw [kndn]; rfl))
            have g384 : tk_tc f319 so B tn := tk_tc_tr g305 (hF.z hso (by rw [kso]; rfl)) (hF.z hso (by rw [kso]; rfl)) (hF.z hso (by rw [kso]; rfl)) (hF.j hso (by rw [kso]; rfl)) (hF.z hso (by rw [kso]; rfl))
            subst qy320
            obtain ⟨x385, ex385⟩ : ∃ zz, q_is (q_z f319 so 2) zz := ⟨_, q_isr _⟩
            obtain ⟨lx385, ux385⟩ := q_isb ex385 (q_fib hB.2.1 hso kso (by decide) rfl)
            obtain ⟨x386, ex386⟩ : ∃ zz, q_is (q_z f319 so 3) zz := ⟨_, q_isr _⟩
            obtain ⟨lx386, ux386⟩ := q_isb ex386 (q_fib hB.2.1 hso kso (by decide) rfl)
            refine q_pX7_121 cx hB hcmd kcmd ⟨by decide, by decide⟩ (by decide) (by decide) rfl dX7_readNames_52 (fun H locs f387 ef387 z388 hB => ?_)
            have z389 : q_is (q_z f387 so 1) tn := by rw [ef387, q_setz (Or.inr (by decide))]; exact z375
            have z390 : q_is (q_z f387 cmd 0) kq := by rw [ef387, q_setz (Or.inr (by decide))]; exact z376
            have z391 : q_is (q_z f387 now 3) x265 := by rw [ef387, q_setz (Or.inl (fun q => by rw [q, kcmd] at know; exact absurd know (by decide)))]; exact z377
            have z392 : q_is (q_z f387 cmd 2) y267 := by rw [ef387, q_setz (Or.inr (by decide))]; exact z378
            have z393 : q_is (q_z f387 so 8) x316 := by rw [ef387, q_setz (Or.inr (by decide))]; exact z379
            have z394 : q_is (q_z f387 so 2) x385 := by rw [ef387, q_setz (Or.inr (by decide))]; exact ex385
            have z395 : q_is (q_z f387 so 3) x386 := by rw [ef387, q_setz (Or.inl (fun q => by rw [q, kcmd] at kso; exact absurd kso (by decide)))]; exact ex386
            have z396 : q_ir (q_r f387 so 0) ba := by rw [ef387, q_setr (Or.inr (by decide))]; exact z380
            have z397 : q_ir (q_r f387 now 0) ndn := by rw [ef387, q_setr (Or.inr (by decide))]; exact z381
            have g398 : tk_tb f387 ba B tn := tk_tb_tr g382 (fun i9 => by rw [ef387, q_setz (Or.inl (fun q => by rw [q, kcmd] at kba; exact absurd kba (by decide)))])
            have g399 : tk_vn K L 5 f387 now ndn nl9 := tk_vn_tr g383 (by rw [ef387, q_setz (Or.inl (fun q => by rw [q, kcmd] at know; exact absurd know (by decide)))]) (fun a9 h9 k9 => by rw [ef387, q_setj (Or.inl (fun q => by rw [q, kcmd] at k9; exact absurd k9 (by decide)))]) (fun i9 => by rw [ef387, q_setr (Or.inl (fun q => by rw [q, kcmd] at kndn; exact absurd kndn (by decide)))])
            have g400 : tk_tc f387 so B tn := tk_tc_tr g374 (by rw [ef387, q_setz (Or.inr (by decide))]) (by rw [ef387, q_setz (Or.inr (by decide))]) (by rw [ef387, q_setz (Or.inr (by decide))]) (by rw [ef387, q_setj (Or.inr (by decide))]) (by rw [ef387, q_setz (Or.inr (by decide))])
            refine q_ald_n cx dX7_readNames_55 rfl (lv_at hl 3 rfl) ?_
            refine q_gX7_121 cx hB hcmd kcmd z388 dX7_readNames_56 (fun lb401 ub401 => ?_)
            refine q_iconst cx dX7_readNames_59 ?_
            refine q_icne (tgt := 65) cx ⟨by decide, by decide⟩ ⟨by decide, by decide⟩ dX7_readNames_60 (by decide) (fun c402 => ?_) (fun c402 => ?_)
            · exact absurd c402 (by omega)
            · refine q_iconst cx dX7_readNames_63 ?_
              refine q_zret cx hr hlk hB dX7_readNames_64 (by decide) (by decide) ?_
              exact (Or.inr ⟨rfl, (tk_ns_e2 (by omega) t274 (Eq.trans (Eq.symm ex316) t304) (tk_erp (tk_erx t373 ex385 ex386) z394 z395)), g400⟩)
        · refine q_ald_n cx dX7_readNames_38 rfl (lv_at hl 3 rfl) ?_
          refine q_gX7_78 cx hB hcmd kcmd z307 dX7_readNames_39 (fun lb403 ub403 => ?_)
          refine q_iconst cx dX7_readNames_42 ?_
          refine q_icne (tgt := 69) cx ⟨by omega, by omega⟩ ⟨by decide, by decide⟩ dX7_readNames_43 (by decide) (fun c404 => ?_) (fun c404 => ?_)
          · refine q_iconst cx dX7_readNames_69 ?_
            refine q_zret cx hr hlk hB dX7_readNames_70 (by decide) (by decide) ?_
            exact (Or.inl ⟨rfl, z309, z310, (tk_ns_1 (by omega) (by omega) t274 t304), g305⟩)
          · refine q_ald_n cx dX7_readNames_46 rfl (lv_at hl 3 rfl) ?_
            refine q_ald_n cx dX7_readNames_47 rfl (lv_at hl 1 rfl) ?_
            refine q_ald_n cx dX7_readNames_48 rfl (lv_at hl 2 rfl) ?_
            refine q_cVi (As := [.ref now]) (rest := [.ref cmd]) cx hB (fun _ h => h) hN hso kso (by decide) rfl (f_expectNodeN l g hN hB.2.1 B nl9 so hso kso now hnow know ba hba kba ndn hndn kndn tn (by omega) (by omega) x316 (by omega) (by omega) x265 (by omega) (by omega) z306 ex316 z309 z310 z308 z312 z313 g305 g314 g315) q_cX7_114 q_dX8_expectNode (by decide) rfl rfl hl.1 rfl (Nat.le_of_ble_eq_true rfl) dX7_readNames_49 (fun y406 H locs f405 ry406 h407 hF hB => ?_)
            rcases h407 with h408 | h409
            · obtain ⟨ly406, uy406, z410, z411, z412, t413, t414, g415⟩ := h408
              have z416 : q_is (q_z f405 so 1) tn := Eq.trans (hF.z hso (by rw [kso]; rfl)) z306
              have z417 : q_is (q_z f405 cmd 0) kq := Eq.trans (hF.z hcmd (by rw [kcmd]; rfl)) z307
              have z418 : q_is (q_z f405 now 3) x265 := Eq.trans (hF.z hnow (by rw [know]; rfl)) z308
              have z419 : q_is (q_z f405 cmd 2) y267 := Eq.trans (hF.z hcmd (by rw [kcmd]; rfl)) z311
              have z420 : q_is (q_z f405 so 8) x316 := Eq.trans (hF.z hso (by rw [kso]; rfl)) ex316
              have z421 : q_ir (q_r f405 so 0) ba := Eq.trans (hF.r hso (by rw [kso]; rfl)) z312
              have z422 : q_ir (q_r f405 now 0) ndn := Eq.trans (hF.r hnow (by rw [know]; rfl)) z313
              have g423 : tk_tb f405 ba B tn := tk_tb_tr g314 (fun i9 => hF.z hba (by rw [kba]; rfl))
              have g424 : tk_vn K L 5 f405 now ndn nl9 := tk_vn_tr g315 (hF.z hnow (by rw [know]; rfl)) (fun a9 h9 k9 => hF.j h9 (by rw [k9]; rfl)) (fun i9 => hF.r hndn (by rw [kndn]; rfl))
              have g425 : tk_tc f405 so B tn := tk_tc_tr g305 (hF.z hso (by rw [kso]; rfl)) (hF.z hso (by rw [kso]; rfl)) (hF.z hso (by rw [kso]; rfl)) (hF.j hso (by rw [kso]; rfl)) (hF.z hso (by rw [kso]; rfl))
              refine q_pX7_121 cx hB hcmd kcmd ⟨by omega, by omega⟩ (by omega) (by omega) rfl dX7_readNames_52 (fun H locs f426 ef426 z427 hB => ?_)
              have z428 : q_is (q_z f426 so 1) tn := by rw [ef426, q_setz (Or.inr (by decide))]; exact z416
              have z429 : q_is (q_z f426 cmd 0) kq := by rw [ef426, q_setz (Or.inr (by decide))]; exact z417
              have z430 : q_is (q_z f426 now 3) x265 := by rw [ef426, q_setz (Or.inl (fun q => by rw [q, kcmd] at know; exact absurd know (by decide)))]; exact z418
              have z431 : q_is (q_z f426 cmd 2) y267 := by rw [ef426, q_setz (Or.inr (by decide))]; exact z419
              have z432 : q_is (q_z f426 so 8) x316 := by rw [ef426, q_setz (Or.inr (by decide))]; exact z412
              have z433 : q_is (q_z f426 so 2) 0 := by rw [ef426, q_setz (Or.inr (by decide))]; exact z410
              have z434 : q_is (q_z f426 so 3) (-1) := by rw [ef426, q_setz (Or.inl (fun q => by rw [q, kcmd] at kso; exact absurd kso (by decide)))]; exact z411
              have z435 : q_ir (q_r f426 so 0) ba := by rw [ef426, q_setr (Or.inr (by decide))]; exact z421
              have z436 : q_ir (q_r f426 now 0) ndn := by rw [ef426, q_setr (Or.inr (by decide))]; exact z422
              have g437 : tk_tb f426 ba B tn := tk_tb_tr g423 (fun i9 => by rw [ef426, q_setz (Or.inl (fun q => by rw [q, kcmd] at kba; exact absurd kba (by decide)))])
              have g438 : tk_vn K L 5 f426 now ndn nl9 := tk_vn_tr g424 (by rw [ef426, q_setz (Or.inl (fun q => by rw [q, kcmd] at know; exact absurd know (by decide)))]) (fun a9 h9 k9 => by rw [ef426, q_setj (Or.inl (fun q => by rw [q, kcmd] at k9; exact absurd k9 (by decide)))]) (fun i9 => by rw [ef426, q_setr (Or.inl (fun q => by rw [q, kcmd] at kndn; exact absurd kndn (by decide)))])
              have g439 : tk_tc f426 so B tn := tk_tc_tr g415 (by rw [ef426, q_setz (Or.inr (by decide))]) (by rw [ef426, q_setz (Or.inr (by decide))]) (by rw [ef426, q_setz (Or.inr (by decide))]) (by rw [ef426, q_setj (Or.inr (by decide))]) (by rw [ef426, q_setz (Or.inr (by decide))])
              refine q_ald_n cx dX7_readNames_55 rfl (lv_at hl 3 rfl) ?_
              refine q_gX7_121 cx hB hcmd kcmd z427 dX7_readNames_56 (fun lb440 ub440 => ?_)
              refine q_iconst cx dX7_readNames_59 ?_
              refine q_icne (tgt := 65) cx ⟨by omega, by omega⟩ ⟨by decide, by decide⟩ dX7_readNames_60 (by decide) (fun c441 => ?_) (fun c441 => ?_)
              · refine q_ald_n cx dX7_readNames_65 rfl (lv_at hl 1 rfl) ?_
                refine q_cVv (As := []) (rest := []) cx hB (fun _ h => h) hN hso kso (by decide) rfl (f_adv l g hN hB.2.1 B so hso kso ba hba kba tn (by omega) (by omega) x316 (by omega) (by omega) z428 z432 z435 g439 g437) q_cX7_81 q_dX8_advance (by decide) rfl rfl hl.1 rfl (Nat.le_of_ble_eq_true rfl) dX7_readNames_66 (fun H locs f442 h444 hF hB => ?_)
                obtain ⟨t445, g446⟩ := h444
                have z447 : q_is (q_z f442 so 1) tn := Eq.trans (hF.z hso (by rw [kso]; rfl)) z428
                have z448 : q_is (q_z f442 cmd 0) kq := Eq.trans (hF.z hcmd (by rw [kcmd]; rfl)) z429
                have z449 : q_is (q_z f442 now 3) x265 := Eq.trans (hF.z hnow (by rw [know]; rfl)) z430
                have z450 : q_is (q_z f442 cmd 2) y267 := Eq.trans (hF.z hcmd (by rw [kcmd]; rfl)) z431
                have z451 : q_is (q_z f442 so 2) 0 := Eq.trans (hF.z hso (by rw [kso]; rfl)) z433
                have z452 : q_is (q_z f442 so 3) (-1) := Eq.trans (hF.z hso (by rw [kso]; rfl)) z434
                have z453 : q_is (q_z f442 cmd 3) y406 := Eq.trans (hF.z hcmd (by rw [kcmd]; rfl)) z427
                have z454 : q_ir (q_r f442 so 0) ba := Eq.trans (hF.r hso (by rw [kso]; rfl)) z435
                have z455 : q_ir (q_r f442 now 0) ndn := Eq.trans (hF.r hnow (by rw [know]; rfl)) z436
                have g456 : tk_tb f442 ba B tn := tk_tb_tr g437 (fun i9 => hF.z hba (by rw [kba]; rfl))
                have g457 : tk_vn K L 5 f442 now ndn nl9 := tk_vn_tr g438 (hF.z hnow (by rw [know]; rfl)) (fun a9 h9 k9 => hF.j h9 (by rw [k9]; rfl)) (fun i9 => hF.r hndn (by rw [kndn]; rfl))
                obtain ⟨x458, ex458⟩ : ∃ zz, q_is (q_z f442 so 8) zz := ⟨_, q_isr _⟩
                obtain ⟨lx458, ux458⟩ := q_isb ex458 (q_fib hB.2.1 hso kso (by decide) rfl)
                obtain ⟨-, l0x458, u0x458, -, -⟩ := tk_tc_n g446 ex458
                refine q_iconst cx dX7_readNames_69 ?_
                refine q_zret cx hr hlk hB dX7_readNames_70 (by decide) (by decide) ?_
                exact (Or.inl ⟨rfl, z451, z452, (tk_ns_2 (by omega) t274 (Eq.trans (Eq.symm ex316) t304) t413 t445), g446⟩)
              · exact absurd c441 (by omega)
            · obtain ⟨qy406, t459, g460⟩ := h409
              have z461 : q_is (q_z f405 so 1) tn := Eq.trans (hF.z hso (by rw [kso]; rfl)) z306
              have z462 : q_is (q_z f405 cmd 0) kq := Eq.trans (hF.z hcmd (by rw [kcmd]; rfl)) z307
              have z463 : q_is (q_z f405 now 3) x265 := Eq.trans (hF.z hnow (by rw [know]; rfl)) z308
              have z464 : q_is (q_z f405 cmd 2) y267 := Eq.trans (hF.z hcmd (by rw [kcmd]; rfl)) z311
              have z465 : q_is (q_z f405 so 8) x316 := Eq.trans (hF.z hso (by rw [kso]; rfl)) ex316
              have z466 : q_ir (q_r f405 so 0) ba := Eq.trans (hF.r hso (by rw [kso]; rfl)) z312
              have z467 : q_ir (q_r f405 now 0) ndn := Eq.trans (hF.r hnow (by rw [know]; rfl)) z313
              have g468 : tk_tb f405 ba B tn := tk_tb_tr g314 (fun i9 => hF.z hba (by rw [kba]; rfl))
              have g469 : tk_vn K L 5 f405 now ndn nl9 := tk_vn_tr g315 (hF.z hnow (by rw [know]; rfl)) (fun a9 h9 k9 => hF.j h9 (by rw [k9]; rfl)) (fun i9 => hF.r hndn (by rw [kndn]; rfl))
              have g470 : tk_tc f405 so B tn := tk_tc_tr g305 (hF.z hso (by rw [kso]; rfl)) (hF.z hso (by rw [kso]; rfl)) (hF.z hso (by rw [kso]; rfl)) (hF.j hso (by rw [kso]; rfl)) (hF.z hso (by rw [kso]; rfl))
              subst qy406
              obtain ⟨x471, ex471⟩ : ∃ zz, q_is (q_z f405 so 2) zz := ⟨_, q_isr _⟩
              obtain ⟨lx471, ux471⟩ := q_isb ex471 (q_fib hB.2.1 hso kso (by decide) rfl)
              obtain ⟨x472, ex472⟩ : ∃ zz, q_is (q_z f405 so 3) zz := ⟨_, q_isr _⟩
              obtain ⟨lx472, ux472⟩ := q_isb ex472 (q_fib hB.2.1 hso kso (by decide) rfl)
              refine q_pX7_121 cx hB hcmd kcmd ⟨by decide, by decide⟩ (by decide) (by decide) rfl dX7_readNames_52 (fun H locs f473 ef473 z474 hB => ?_)
              have z475 : q_is (q_z f473 so 1) tn := by rw [ef473, q_setz (Or.inr (by decide))]; exact z461
              have z476 : q_is (q_z f473 cmd 0) kq := by rw [ef473, q_setz (Or.inr (by decide))]; exact z462
              have z477 : q_is (q_z f473 now 3) x265 := by rw [ef473, q_setz (Or.inl (fun q => by rw [q, kcmd] at know; exact absurd know (by decide)))]; exact z463
              have z478 : q_is (q_z f473 cmd 2) y267 := by rw [ef473, q_setz (Or.inr (by decide))]; exact z464
              have z479 : q_is (q_z f473 so 8) x316 := by rw [ef473, q_setz (Or.inr (by decide))]; exact z465
              have z480 : q_is (q_z f473 so 2) x471 := by rw [ef473, q_setz (Or.inr (by decide))]; exact ex471
              have z481 : q_is (q_z f473 so 3) x472 := by rw [ef473, q_setz (Or.inl (fun q => by rw [q, kcmd] at kso; exact absurd kso (by decide)))]; exact ex472
              have z482 : q_ir (q_r f473 so 0) ba := by rw [ef473, q_setr (Or.inr (by decide))]; exact z466
              have z483 : q_ir (q_r f473 now 0) ndn := by rw [ef473, q_setr (Or.inr (by decide))]; exact z467
              have g484 : tk_tb f473 ba B tn := tk_tb_tr g468 (fun i9 => by rw [ef473, q_setz (Or.inl (fun q => by rw [q, kcmd] at kba; exact absurd kba (by decide)))])
              have g485 : tk_vn K L 5 f473 now ndn nl9 := tk_vn_tr g469 (by rw [ef473, q_setz (Or.inl (fun q => by rw [q, kcmd] at know; exact absurd know (by decide)))]) (fun a9 h9 k9 => by rw [ef473, q_setj (Or.inl (fun q => by rw [q, kcmd] at k9; exact absurd k9 (by decide)))]) (fun i9 => by rw [ef473, q_setr (Or.inl (fun q => by rw [q, kcmd] at kndn; exact absurd kndn (by decide)))])
              have g486 : tk_tc f473 so B tn := tk_tc_tr g460 (by rw [ef473, q_setz (Or.inr (by decide))]) (by rw [ef473, q_setz (Or.inr (by decide))]) (by rw [ef473, q_setz (Or.inr (by decide))]) (by rw [ef473, q_setj (Or.inr (by decide))]) (by rw [ef473, q_setz (Or.inr (by decide))])
              refine q_ald_n cx dX7_readNames_55 rfl (lv_at hl 3 rfl) ?_
              refine q_gX7_121 cx hB hcmd kcmd z474 dX7_readNames_56 (fun lb487 ub487 => ?_)
              refine q_iconst cx dX7_readNames_59 ?_
              refine q_icne (tgt := 65) cx ⟨by decide, by decide⟩ ⟨by decide, by decide⟩ dX7_readNames_60 (by decide) (fun c488 => ?_) (fun c488 => ?_)
              · exact absurd c488 (by omega)
              · refine q_iconst cx dX7_readNames_63 ?_
                refine q_zret cx hr hlk hB dX7_readNames_64 (by decide) (by decide) ?_
                exact (Or.inr ⟨rfl, (tk_ns_e2 (by omega) t274 (Eq.trans (Eq.symm ex316) t304) (tk_erp (tk_erx t459 ex471 ex472) z480 z481)), g486⟩)
      · exact absurd c300 (by omega)
    · obtain ⟨qy267, t489, g490⟩ := h270
      have z491 : q_is (q_z f266 so 1) tn := Eq.trans (hF.z hso (by rw [kso]; rfl)) hf0
      have z492 : q_is (q_z f266 so 8) ss := Eq.trans (hF.z hso (by rw [kso]; rfl)) hf1
      have z493 : q_is (q_z f266 cmd 0) kq := Eq.trans (hF.z hcmd (by rw [kcmd]; rfl)) hf4
      have z494 : q_is (q_z f266 now 3) x265 := Eq.trans (hF.z hnow (by rw [know]; rfl)) ex265
      have z495 : q_ir (q_r f266 so 0) ba := Eq.trans (hF.r hso (by rw [kso]; rfl)) hr0
      have z496 : q_ir (q_r f266 now 0) ndn := Eq.trans (hF.r hnow (by rw [know]; rfl)) hr1
      have g497 : tk_tc f266 so B tn := tk_tc_tr htc (hF.z hso (by rw [kso]; rfl)) (hF.z hso (by rw [kso]; rfl)) (hF.z hso (by rw [kso]; rfl)) (hF.j hso (by rw [kso]; rfl)) (hF.z hso (by rw [kso]; rfl))
      have g498 : tk_tb f266 ba B tn := tk_tb_tr htb (fun i9 => hF.z hba (by rw [kba]; rfl))
      have g499 : tk_vn K L 5 f266 now ndn nl9 := tk_vn_tr hvn (hF.z hnow (by rw [know]; rfl)) (fun a9 h9 k9 => hF.j h9 (by rw [k9]; rfl)) (fun i9 => hF.r hndn (by rw [kndn]; rfl))
      subst qy267
      obtain ⟨x500, ex500⟩ : ∃ zz, q_is (q_z f266 so 2) zz := ⟨_, q_isr _⟩
      obtain ⟨lx500, ux500⟩ := q_isb ex500 (q_fib hB.2.1 hso kso (by decide) rfl)
      obtain ⟨x501, ex501⟩ : ∃ zz, q_is (q_z f266 so 3) zz := ⟨_, q_isr _⟩
      obtain ⟨lx501, ux501⟩ := q_isb ex501 (q_fib hB.2.1 hso kso (by decide) rfl)
      refine q_pX7_118 cx hB hcmd kcmd ⟨by decide, by decide⟩ (by decide) (by decide) rfl dX7_readNames_13 (fun H locs f502 ef502 z503 hB => ?_)
      have z504 : q_is (q_z f502 so 1) tn := by rw [ef502, q_setz (Or.inr (by decide))]; exact z491
      have z505 : q_is (q_z f502 so 8) ss := by rw [ef502, q_setz (Or.inr (by decide))]; exact z492
      have z506 : q_is (q_z f502 cmd 0) kq := by rw [ef502, q_setz (Or.inr (by decide))]; exact z493
      have z507 : q_is (q_z f502 now 3) x265 := by rw [ef502, q_setz (Or.inr (by decide))]; exact z494
      have z508 : q_is (q_z f502 so 2) x500 := by rw [ef502, q_setz (Or.inl (fun q => by rw [q, kcmd] at kso; exact absurd kso (by decide)))]; exact ex500
      have z509 : q_is (q_z f502 so 3) x501 := by rw [ef502, q_setz (Or.inr (by decide))]; exact ex501
      have z510 : q_ir (q_r f502 so 0) ba := by rw [ef502, q_setr (Or.inr (by decide))]; exact z495
      have z511 : q_ir (q_r f502 now 0) ndn := by rw [ef502, q_setr (Or.inr (by decide))]; exact z496
      have g512 : tk_tc f502 so B tn := tk_tc_tr g490 (by rw [ef502, q_setz (Or.inr (by decide))]) (by rw [ef502, q_setz (Or.inr (by decide))]) (by rw [ef502, q_setz (Or.inr (by decide))]) (by rw [ef502, q_setj (Or.inr (by decide))]) (by rw [ef502, q_setz (Or.inr (by decide))])
      have g513 : tk_tb f502 ba B tn := tk_tb_tr g498 (fun i9 => by rw [ef502, q_setz (Or.inl (fun q => by rw [q, kcmd] at kba; exact absurd kba (by decide)))])
      have g514 : tk_vn K L 5 f502 now ndn nl9 := tk_vn_tr g499 (by rw [ef502, q_setz (Or.inr (by decide))]) (fun a9 h9 k9 => by rw [ef502, q_setj (Or.inl (fun q => by rw [q, kcmd] at k9; exact absurd k9 (by decide)))]) (fun i9 => by rw [ef502, q_setr (Or.inl (fun q => by rw [q, kcmd] at kndn; exact absurd kndn (by decide)))])
      refine q_ald_n cx dX7_readNames_16 rfl (lv_at hl 3 rfl) ?_
      refine q_gX7_118 cx hB hcmd kcmd z503 dX7_readNames_17 (fun lb515 ub515 => ?_)
      refine q_iconst cx dX7_readNames_20 ?_
      refine q_icne (tgt := 26) cx ⟨by decide, by decide⟩ ⟨by decide, by decide⟩ dX7_readNames_21 (by decide) (fun c516 => ?_) (fun c516 => ?_)
      · exact absurd c516 (by omega)
      · refine q_iconst cx dX7_readNames_24 ?_
        refine q_zret cx hr hlk hB dX7_readNames_25 (by decide) (by decide) ?_
        exact (Or.inr ⟨rfl, (tk_ns_e1 (by omega) (tk_erp (tk_erx t489 ex500 ex501) z508 z509)), g512⟩)
set_option maxHeartbeats 4000000 in
set_option maxRecDepth 100000 in
theorem f_readNumber (l : Launch) (g : q_G) {K : Nat → Nat} {L : List Nat} (hN : L.Nodup) {f : Nat → va_E} (hT : q_Ty g K L f) (B : Nat → Int) (scr : Nat) (hscr : scr ∈ L) (kscr : K scr = 7) (so : Nat) (hso : so ∈ L) (kso : K so = 8) (cmd : Nat) (hcmd : cmd ∈ L) (kcmd : K cmd = 0) (ba : Nat) (hba : ba ∈ L) (kba : K ba = 142) (tn : Int) (ltn : 0 ≤ tn) (utn : tn ≤ 600) (ss : Int) (lss : 0 ≤ ss) (uss : ss ≤ 600) (hf0 : q_is (q_z f so 1) tn) (hf1 : q_is (q_z f so 8) ss) (hf2 : q_is (q_z f so 2) 0) (hf3 : q_is (q_z f so 3) (-1)) (hr0 : q_ir (q_r f so 0) ba) (htc : tk_tc f so B tn) (htb : tk_tb f ba B tn) : q_Ct l g K L yX7_readNumber cX7_readNumber 3 (some .boolean) 4 84 [.ref scr, .ref so, .ref cmd] f [(0, 1, 1), (8, 2, 9)] (q_Pi (fun (z : Int) (f1 : Nat → va_E) => (z = 1 ∧ q_is (q_z f1 so 2) 0 ∧ q_is (q_z f1 so 3) (-1) ∧ (tk_ob B tn 0 999 59 ss = tk_ok (q_z f1 so 8)) ∧ (tk_tc f1 so B tn)) ∨ (z = 0 ∧ (tk_ob B tn 0 999 59 ss = tk_er (q_z f1 so 2) (q_z f1 so 3)) ∧ (tk_tc f1 so B tn)))) := by
  refine q_ofb (by decide +kernel) hN hT (Nat.le_of_ble_eq_true rfl) ?_
  intro p e s m below meth c ls cx hr hlk hB hl
  have hl : lv_has ls 3 [(0, .ref scr), (1, .ref so), (2, .ref cmd)] := hl
  obtain ⟨H, hH⟩ : ∃ H : Heap, H = s.heap := ⟨_, rfl⟩
  obtain ⟨locs, hlocs⟩ : ∃ z : List Loc, z = [] := ⟨_, rfl⟩
  rw [← hH, ← hlocs] at hB
  rw [← hH, ← hlocs]
  refine q_ald_n cx dX7_readNumber_0 rfl (lv_at hl 1 rfl) ?_
  refine q_iconst cx dX7_readNumber_1 ?_
  refine q_sipush cx dX7_readNumber_2 rfl ?_
  refine q_cVi (As := [.int (q_i 0), .int (q_i 999)]) (rest := []) cx hB (fun _ h => h) hN hso kso (by decide) rfl (f_takeNumber l g hN hB.2.1 B so hso kso 0 (by decide) (by decide) 999 (by decide) (by decide) ba hba kba tn (by omega) (by omega) ss (by omega) (by omega) hf0 hf1 hf2 hf3 hr0 htc htb) q_cX7_95 q_dX8_takeNumber (by decide) rfl rfl hl.1 rfl (Nat.le_of_ble_eq_true rfl) dX7_readNumber_5 (fun y60 H locs f59 ry60 h61 hF hB => ?_)
  rcases h61 with h62 | h63
  · obtain ⟨qy60, z64, z65, t66, t67, t68, g69⟩ := h62
    have z70 : q_is (q_z f59 so 1) tn := Eq.trans (hF.z hso (by rw [kso]; rfl)) hf0
    have z71 : q_ir (q_r f59 so 0) ba := Eq.trans (hF.r hso (by rw [kso]; rfl)) hr0
    have g72 : tk_tb f59 ba B tn := tk_tb_tr htb (fun i9 => hF.z hba (by rw [kba]; rfl))
    subst qy60
    obtain ⟨x73, ex73⟩ : ∃ zz, q_is (q_z f59 so 8) zz := ⟨_, q_isr _⟩
    obtain ⟨lx73, ux73⟩ := q_isb ex73 (q_fib hB.2.1 hso kso (by decide) rfl)
    obtain ⟨-, l0x73, u0x73, -, -⟩ := tk_tc_n g69 ex73
    refine q_ifne (tgt := 13) cx ⟨by decide, by decide⟩ dX7_readNumber_8 (by decide) (fun c74 => ?_) (fun c74 => ?_)
    · refine q_ald_n cx dX7_readNumber_13 rfl (lv_at hl 2 rfl) ?_
      refine q_ald_n cx dX7_readNumber_14 rfl (lv_at hl 1 rfl) ?_
      obtain ⟨x75, ex75⟩ : ∃ zz, q_is (q_z f59 so 5) zz := ⟨_, q_isr _⟩
      refine q_gX7_99 cx hB hso kso ex75 dX7_readNumber_15 (fun lb76 ub76 => ?_)
      refine q_pX7_102 cx hB hcmd kcmd ⟨by omega, by omega⟩ (by omega) (by omega) rfl dX7_readNumber_18 (fun H locs f77 ef77 z78 hB => ?_)
      have z79 : q_is (q_z f77 so 1) tn := by rw [ef77, q_setz (Or.inl (fun q => by rw [q, kcmd] at kso; exact absurd kso (by decide)))]; exact z70
      have z80 : q_is (q_z f77 so 2) 0 := by rw [ef77, q_setz (Or.inr (by decide))]; exact z64
      have z81 : q_is (q_z f77 so 3) (-1) := by rw [ef77, q_setz (Or.inr (by decide))]; exact z65
      have z82 : q_is (q_z f77 so 8) x73 := by rw [ef77, q_setz (Or.inr (by decide))]; exact ex73
      have z83 : q_is (q_z f77 so 5) x75 := by rw [ef77, q_setz (Or.inr (by decide))]; exact ex75
      have z84 : q_ir (q_r f77 so 0) ba := by rw [ef77, q_setr (Or.inr (by decide))]; exact z71
      have g85 : tk_tb f77 ba B tn := tk_tb_tr g72 (fun i9 => by rw [ef77, q_setz (Or.inl (fun q => by rw [q, kcmd] at kba; exact absurd kba (by decide)))])
      have g86 : tk_tc f77 so B tn := tk_tc_tr g69 (by rw [ef77, q_setz (Or.inr (by decide))]) (by rw [ef77, q_setz (Or.inr (by decide))]) (by rw [ef77, q_setz (Or.inr (by decide))]) (by rw [ef77, q_setj (Or.inr (by decide))]) (by rw [ef77, q_setz (Or.inr (by decide))])
      refine q_ald_n cx dX7_readNumber_21 rfl (lv_at hl 1 rfl) ?_
      refine q_bipush cx dX7_readNumber_22 rfl ?_
      refine q_cVi (As := [.int (q_i 59)]) (rest := []) cx hB (fun _ h => h) hN hso kso (by decide) rfl (f_takeMark l g hN hB.2.1 B so hso kso 59 (by decide) (by decide) ba hba kba tn (by omega) (by omega) x73 (by omega) (by omega) z79 z82 z80 z81 z84 g86 g85) q_cX7_108 q_dX8_takeMark (by decide) rfl rfl hl.1 rfl (Nat.le_of_ble_eq_true rfl) dX7_readNumber_24 (fun y88 H locs f87 ry88 h89 hF hB => ?_)
      rcases h89 with h90 | h91
      · obtain ⟨qy88, z92, z93, t94, g95⟩ := h90
        have z96 : q_is (q_z f87 so 1) tn := Eq.trans (hF.z hso (by rw [kso]; rfl)) z79
        have z97 : q_is (q_z f87 so 5) x75 := Eq.trans (hF.z hso (by rw [kso]; rfl)) z83
        have z98 : q_is (q_z f87 cmd 1) x75 := Eq.trans (hF.z hcmd (by rw [kcmd]; rfl)) z78
        have z99 : q_ir (q_r f87 so 0) ba := Eq.trans (hF.r hso (by rw [kso]; rfl)) z84
        have g100 : tk_tb f87 ba B tn := tk_tb_tr g85 (fun i9 => hF.z hba (by rw [kba]; rfl))
        subst qy88
        obtain ⟨x101, ex101⟩ : ∃ zz, q_is (q_z f87 so 8) zz := ⟨_, q_isr _⟩
        obtain ⟨lx101, ux101⟩ := q_isb ex101 (q_fib hB.2.1 hso kso (by decide) rfl)
        obtain ⟨-, l0x101, u0x101, -, -⟩ := tk_tc_n g95 ex101
        refine q_zret cx hr hlk hB dX7_readNumber_27 (by decide) (by decide) ?_
        exact (Or.inl ⟨rfl, z92, z93, (tk_ob_ok (tk_okx t66 ex73) t94), g95⟩)
      · obtain ⟨qy88, t102, g103⟩ := h91
        have z104 : q_is (q_z f87 so 1) tn := Eq.trans (hF.z hso (by rw [kso]; rfl)) z79
        have z105 : q_is (q_z f87 so 5) x75 := Eq.trans (hF.z hso (by rw [kso]; rfl)) z83
        have z106 : q_is (q_z f87 cmd 1) x75 := Eq.trans (hF.z hcmd (by rw [kcmd]; rfl)) z78
        have z107 : q_ir (q_r f87 so 0) ba := Eq.trans (hF.r hso (by rw [kso]; rfl)) z84
        have g108 : tk_tb f87 ba B tn := tk_tb_tr g85 (fun i9 => hF.z hba (by rw [kba]; rfl))
        subst qy88
        obtain ⟨x109, ex109⟩ : ∃ zz, q_is (q_z f87 so 8) zz := ⟨_, q_isr _⟩
        obtain ⟨lx109, ux109⟩ := q_isb ex109 (q_fib hB.2.1 hso kso (by decide) rfl)
        obtain ⟨-, l0x109, u0x109, -, -⟩ := tk_tc_n g103 ex109
        refine q_zret cx hr hlk hB dX7_readNumber_27 (by decide) (by decide) ?_
        exact (Or.inr ⟨rfl, (tk_ob_e2 (tk_okx t66 ex73) t102), g103⟩)
    · exact absurd c74 (by omega)
  · obtain ⟨qy60, t110, g111⟩ := h63
    have z112 : q_is (q_z f59 so 1) tn := Eq.trans (hF.z hso (by rw [kso]; rfl)) hf0
    have z113 : q_ir (q_r f59 so 0) ba := Eq.trans (hF.r hso (by rw [kso]; rfl)) hr0
    have g114 : tk_tb f59 ba B tn := tk_tb_tr htb (fun i9 => hF.z hba (by rw [kba]; rfl))
    subst qy60
    obtain ⟨x115, ex115⟩ : ∃ zz, q_is (q_z f59 so 8) zz := ⟨_, q_isr _⟩
    obtain ⟨lx115, ux115⟩ := q_isb ex115 (q_fib hB.2.1 hso kso (by decide) rfl)
    obtain ⟨-, l0x115, u0x115, -, -⟩ := tk_tc_n g111 ex115
    refine q_ifne (tgt := 13) cx ⟨by decide, by decide⟩ dX7_readNumber_8 (by decide) (fun c116 => ?_) (fun c116 => ?_)
    · exact absurd c116 (by omega)
    · refine q_iconst cx dX7_readNumber_11 ?_
      refine q_zret cx hr hlk hB dX7_readNumber_12 (by decide) (by decide) ?_
      exact (Or.inr ⟨rfl, (tk_ob_e1 t110), g111⟩)
set_option maxHeartbeats 4000000 in
set_option maxRecDepth 100000 in
theorem f_openRepeat (l : Launch) (g : q_G) {K : Nat → Nat} {L : List Nat} (hN : L.Nodup) {f : Nat → va_E} (hT : q_Ty g K L f) (B : Nat → Int) (scr : Nat) (hscr : scr ∈ L) (kscr : K scr = 7) (so : Nat) (hso : so ∈ L) (kso : K so = 8) (cmd : Nat) (hcmd : cmd ∈ L) (kcmd : K cmd = 0) (ba : Nat) (hba : ba ∈ L) (kba : K ba = 142) (tn : Int) (ltn : 0 ≤ tn) (utn : tn ≤ 600) (ss : Int) (lss : 0 ≤ ss) (uss : ss ≤ 600) (kc : Int) (lkc : 1 ≤ kc) (ukc : kc ≤ 30) (ki : Int) (lki : (-1) ≤ ki) (uki : ki ≤ 29) (kd : Int) (lkd : 0 ≤ kd) (ukd : kd ≤ 1) (hf0 : q_is (q_z f so 1) tn) (hf1 : q_is (q_z f so 8) ss) (hf2 : q_is (q_z f so 2) 0) (hf3 : q_is (q_z f so 3) (-1)) (hf4 : q_is (q_z f scr 1) kc) (hf5 : q_is (q_z f scr 3) ki) (hf6 : q_is (q_z f scr 4) kd) (hr0 : q_ir (q_r f so 0) ba) (htc : tk_tc f so B tn) (htb : tk_tb f ba B tn) : q_Ct l g K L yX7_openRepeat cX7_openRepeat 3 (some .boolean) 4 84 [.ref scr, .ref so, .ref cmd] f [(0, 1, 1), (0, 5, 5), (7, 3, 4), (8, 2, 9)] (q_Pi (fun (z : Int) (f1 : Nat → va_E) => (z = 1 ∧ q_is (q_z f1 so 2) 0 ∧ q_is (q_z f1 so 3) (-1) ∧ q_is (q_z f1 scr 1) kc ∧ q_is (q_z f1 scr 3) (kc - 1) ∧ q_is (q_z f1 scr 4) (kd + 1) ∧ q_is (q_z f1 cmd 5) ki ∧ (tk_ob B tn 1 20 40 ss = tk_ok (q_z f1 so 8)) ∧ (∀ a9 : Nat, a9 ∈ L → K a9 = 0 → a9 ≠ cmd → q_z f1 a9 5 = q_z f a9 5) ∧ (tk_tc f1 so B tn)) ∨ (z = 0 ∧ (tk_ob B tn 1 20 40 ss = tk_er (q_z f1 so 2) (q_z f1 so 3)) ∧ (tk_tc f1 so B tn)))) := by
  refine q_ofb (by decide +kernel) hN hT (Nat.le_of_ble_eq_true rfl) ?_
  intro p e s m below meth c ls cx hr hlk hB hl
  have hl : lv_has ls 3 [(0, .ref scr), (1, .ref so), (2, .ref cmd)] := hl
  obtain ⟨H, hH⟩ : ∃ H : Heap, H = s.heap := ⟨_, rfl⟩
  obtain ⟨locs, hlocs⟩ : ∃ z : List Loc, z = [] := ⟨_, rfl⟩
  rw [← hH, ← hlocs] at hB
  rw [← hH, ← hlocs]
  have g130 : ∀ a9 : Nat, a9 ∈ L → K a9 = 0 → a9 ≠ cmd → q_z f a9 5 = q_z f a9 5 := fun _ _ _ _ => rfl
  refine q_ald_n cx dX7_openRepeat_0 rfl (lv_at hl 1 rfl) ?_
  refine q_iconst cx dX7_openRepeat_1 ?_
  refine q_bipush cx dX7_openRepeat_2 rfl ?_
  refine q_cVi (As := [.int (q_i 1), .int (q_i 20)]) (rest := []) cx hB (fun _ h => h) hN hso kso (by decide) rfl (f_takeNumber l g hN hB.2.1 B so hso kso 1 (by decide) (by decide) 20 (by decide) (by decide) ba hba kba tn (by omega) (by omega) ss (by omega) (by omega) hf0 hf1 hf2 hf3 hr0 htc htb) q_cX7_95 q_dX8_takeNumber (by decide) rfl rfl hl.1 rfl (Nat.le_of_ble_eq_true rfl) dX7_openRepeat_4 (fun y132 H locs f131 ry132 h133 hF hB => ?_)
  rcases h133 with h134 | h135
  · obtain ⟨qy132, z136, z137, t138, t139, t140, g141⟩ := h134
    have z142 : q_is (q_z f131 so 1) tn := Eq.trans (hF.z hso (by rw [kso]; rfl)) hf0
    have z143 : q_is (q_z f131 scr 1) kc := Eq.trans (hF.z hscr (by rw [kscr]; rfl)) hf4
    have z144 : q_is (q_z f131 scr 3) ki := Eq.trans (hF.z hscr (by rw [kscr]; rfl)) hf5
    have z145 : q_is (q_z f131 scr 4) kd := Eq.trans (hF.z hscr (by rw [kscr]; rfl)) hf6
    have z146 : q_ir (q_r f131 so 0) ba := Eq.trans (hF.r hso (by rw [kso]; rfl)) hr0
    have g147 : tk_tb f131 ba B tn := tk_tb_tr htb (fun i9 => hF.z hba (by rw [kba]; rfl))
    have g148 : ∀ a9 : Nat, a9 ∈ L → K a9 = 0 → a9 ≠ cmd → q_z f131 a9 5 = q_z f a9 5 := tk_o5_tr g130 (fun a9 h9 k9 n9 => hF.z h9 (by rw [k9]; rfl))
    subst qy132
    obtain ⟨x149, ex149⟩ : ∃ zz, q_is (q_z f131 so 8) zz := ⟨_, q_isr _⟩
    obtain ⟨lx149, ux149⟩ := q_isb ex149 (q_fib hB.2.1 hso kso (by decide) rfl)
    obtain ⟨-, l0x149, u0x149, -, -⟩ := tk_tc_n g141 ex149
    refine q_ifne (tgt := 12) cx ⟨by decide, by decide⟩ dX7_openRepeat_7 (by decide) (fun c150 => ?_) (fun c150 => ?_)
    · refine q_ald_n cx dX7_openRepeat_12 rfl (lv_at hl 2 rfl) ?_
      refine q_ald_n cx dX7_openRepeat_13 rfl (lv_at hl 1 rfl) ?_
      obtain ⟨x151, ex151⟩ : ∃ zz, q_is (q_z f131 so 5) zz := ⟨_, q_isr _⟩
      refine q_gX7_99 cx hB hso kso ex151 dX7_openRepeat_14 (fun lb152 ub152 => ?_)
      refine q_pX7_102 cx hB hcmd kcmd ⟨by omega, by omega⟩ (by omega) (by omega) rfl dX7_openRepeat_17 (fun H locs f153 ef153 z154 hB => ?_)
      have z155 : q_is (q_z f153 so 1) tn := by rw [ef153, q_setz (Or.inl (fun q => by rw [q, kcmd] at kso; exact absurd kso (by decide)))]; exact z142
      have z156 : q_is (q_z f153 scr 1) kc := by rw [ef153, q_setz (Or.inl (fun q => by rw [q, kcmd] at kscr; exact absurd kscr (by decide)))]; exact z143
      have z157 : q_is (q_z f153 scr 3) ki := by rw [ef153, q_setz (Or.inr (by decide))]; exact z144
      have z158 : q_is (q_z f153 scr 4) kd := by rw [ef153, q_setz (Or.inr (by decide))]; exact z145
      have z159 : q_is (q_z f153 so 2) 0 := by rw [ef153, q_setz (Or.inr (by decide))]; exact z136
      have z160 : q_is (q_z f153 so 3) (-1) := by rw [ef153, q_setz (Or.inr (by decide))]; exact z137
      have z161 : q_is (q_z f153 so 8) x149 := by rw [ef153, q_setz (Or.inr (by decide))]; exact ex149
      have z162 : q_is (q_z f153 so 5) x151 := by rw [ef153, q_setz (Or.inr (by decide))]; exact ex151
      have z163 : q_ir (q_r f153 so 0) ba := by rw [ef153, q_setr (Or.inr (by decide))]; exact z146
      have g164 : tk_tb f153 ba B tn := tk_tb_tr g147 (fun i9 => by rw [ef153, q_setz (Or.inl (fun q => by rw [q, kcmd] at kba; exact absurd kba (by decide)))])
      have g165 : ∀ a9 : Nat, a9 ∈ L → K a9 = 0 → a9 ≠ cmd → q_z f153 a9 5 = q_z f a9 5 := tk_o5_tr g148 (fun a9 h9 k9 n9 => by rw [ef153, q_setz (Or.inr (by decide))])
      have g166 : tk_tc f153 so B tn := tk_tc_tr g141 (by rw [ef153, q_setz (Or.inr (by decide))]) (by rw [ef153, q_setz (Or.inr (by decide))]) (by rw [ef153, q_setz (Or.inr (by decide))]) (by rw [ef153, q_setj (Or.inr (by decide))]) (by rw [ef153, q_setz (Or.inr (by decide))])
      refine q_ald_n cx dX7_openRepeat_20 rfl (lv_at hl 2 rfl) ?_
      refine q_ald_n cx dX7_openRepeat_21 rfl (lv_at hl 0 rfl) ?_
      refine q_gX7_22 cx hB hscr kscr z157 dX7_openRepeat_22 (fun lb167 ub167 => ?_)
      refine q_pX7_105 cx hB hcmd kcmd ⟨by omega, by omega⟩ (by omega) (by omega) rfl dX7_openRepeat_25 (fun H locs f168 ef168 z169 hB => ?_)
      have z170 : q_is (q_z f168 so 1) tn := by rw [ef168, q_setz (Or.inr (by decide))]; exact z155
      have z171 : q_is (q_z f168 scr 1) kc := by rw [ef168, q_setz (Or.inr (by decide))]; exact z156
      have z172 : q_is (q_z f168 scr 3) ki := by rw [ef168, q_setz (Or.inr (by decide))]; exact z157
      have z173 : q_is (q_z f168 scr 4) kd := by rw [ef168, q_setz (Or.inr (by decide))]; exact z158
      have z174 : q_is (q_z f168 so 2) 0 := by rw [ef168, q_setz (Or.inr (by decide))]; exact z159
      have z175 : q_is (q_z f168 so 3) (-1) := by rw [ef168, q_setz (Or.inr (by decide))]; exact z160
      have z176 : q_is (q_z f168 so 8) x149 := by rw [ef168, q_setz (Or.inr (by decide))]; exact z161
      have z177 : q_is (q_z f168 so 5) x151 := by rw [ef168, q_setz (Or.inl (fun q => by rw [q, kcmd] at kso; exact absurd kso (by decide)))]; exact z162
      have z178 : q_is (q_z f168 cmd 1) x151 := by rw [ef168, q_setz (Or.inr (by decide))]; exact z154
      have z179 : q_ir (q_r f168 so 0) ba := by rw [ef168, q_setr (Or.inr (by decide))]; exact z163
      have g180 : tk_tb f168 ba B tn := tk_tb_tr g164 (fun i9 => by rw [ef168, q_setz (Or.inl (fun q => by rw [q, kcmd] at kba; exact absurd kba (by decide)))])
      have g181 : ∀ a9 : Nat, a9 ∈ L → K a9 = 0 → a9 ≠ cmd → q_z f168 a9 5 = q_z f a9 5 := tk_o5_tr g165 (fun a9 h9 k9 n9 => by rw [ef168, q_setz (Or.inl n9)])
      have g182 : tk_tc f168 so B tn := tk_tc_tr g166 (by rw [ef168, q_setz (Or.inr (by decide))]) (by rw [ef168, q_setz (Or.inr (by decide))]) (by rw [ef168, q_setz (Or.inr (by decide))]) (by rw [ef168, q_setj (Or.inr (by decide))]) (by rw [ef168, q_setz (Or.inr (by decide))])
      refine q_ald_n cx dX7_openRepeat_28 rfl (lv_at hl 0 rfl) ?_
      refine q_ald_n cx dX7_openRepeat_29 rfl (lv_at hl 0 rfl) ?_
      refine q_gX7_18 cx hB hscr kscr z171 dX7_openRepeat_30 (fun lb183 ub183 => ?_)
      refine q_iconst cx dX7_openRepeat_33 ?_
      refine q_isub cx dX7_openRepeat_34 ?_
      refine q_pX7_22 cx hB hscr kscr ⟨by omega, by omega⟩ (by omega) (by omega) rfl dX7_openRepeat_35 (fun H locs f184 ef184 z185 hB => ?_)
      have z186 : q_is (q_z f184 so 1) tn := by rw [ef184, q_setz (Or.inr (by decide))]; exact z170
      have z187 : q_is (q_z f184 scr 1) kc := by rw [ef184, q_setz (Or.inr (by decide))]; exact z171
      have z188 : q_is (q_z f184 scr 4) kd := by rw [ef184, q_setz (Or.inr (by decide))]; exact z173
      have z189 : q_is (q_z f184 so 2) 0 := by rw [ef184, q_setz (Or.inr (by decide))]; exact z174
      have z190 : q_is (q_z f184 so 3) (-1) := by rw [ef184, q_setz (Or.inl (fun q => by rw [q, kscr] at kso; exact absurd kso (by decide)))]; exact z175
      have z191 : q_is (q_z f184 so 8) x149 := by rw [ef184, q_setz (Or.inr (by decide))]; exact z176
      have z192 : q_is (q_z f184 so 5) x151 := by rw [ef184, q_setz (Or.inr (by decide))]; exact z177
      have z193 : q_is (q_z f184 cmd 1) x151 := by rw [ef184, q_setz (Or.inr (by decide))]; exact z178
      have z194 : q_is (q_z f184 cmd 5) ki := by rw [ef184, q_setz (Or.inr (by decide))]; exact z169
      have z195 : q_ir (q_r f184 so 0) ba := by rw [ef184, q_setr (Or.inr (by decide))]; exact z179
      have g196 : tk_tb f184 ba B tn := tk_tb_tr g180 (fun i9 => by rw [ef184, q_setz (Or.inl (fun q => by rw [q, kscr] at kba; exact absurd kba (by decide)))])
      have g197 : ∀ a9 : Nat, a9 ∈ L → K a9 = 0 → a9 ≠ cmd → q_z f184 a9 5 = q_z f a9 5 := tk_o5_tr g181 (fun a9 h9 k9 n9 => by rw [ef184, q_setz (Or.inl (fun q => by rw [q, kscr] at k9; exact absurd k9 (by decide)))])
      have g198 : tk_tc f184 so B tn := tk_tc_tr g182 (by rw [ef184, q_setz (Or.inr (by decide))]) (by rw [ef184, q_setz (Or.inr (by decide))]) (by rw [ef184, q_setz (Or.inr (by decide))]) (by rw [ef184, q_setj (Or.inr (by decide))]) (by rw [ef184, q_setz (Or.inr (by decide))])
      refine q_ald_n cx dX7_openRepeat_38 rfl (lv_at hl 0 rfl) ?_
      refine lv_dup cx.1 cx.2.1 dX7_openRepeat_39 rfl ?_
      refine q_gX7_25 cx hB hscr kscr z188 dX7_openRepeat_40 (fun lb199 ub199 => ?_)
      refine q_iconst cx dX7_openRepeat_43 ?_
      refine q_iadd cx dX7_openRepeat_44 ?_
      refine q_pX7_25 cx hB hscr kscr ⟨by omega, by omega⟩ (by omega) (by omega) rfl dX7_openRepeat_45 (fun H locs f200 ef200 z201 hB => ?_)
      have z202 : q_is (q_z f200 so 1) tn := by rw [ef200, q_setz (Or.inr (by decide))]; exact z186
      have z203 : q_is (q_z f200 scr 1) kc := by rw [ef200, q_setz (Or.inr (by decide))]; exact z187
      have z204 : q_is (q_z f200 so 2) 0 := by rw [ef200, q_setz (Or.inr (by decide))]; exact z189
      have z205 : q_is (q_z f200 so 3) (-1) := by rw [ef200, q_setz (Or.inr (by decide))]; exact z190
      have z206 : q_is (q_z f200 so 8) x149 := by rw [ef200, q_setz (Or.inr (by decide))]; exact z191
      have z207 : q_is (q_z f200 so 5) x151 := by rw [ef200, q_setz (Or.inr (by decide))]; exact z192
      have z208 : q_is (q_z f200 cmd 1) x151 := by rw [ef200, q_setz (Or.inr (by decide))]; exact z193
      have z209 : q_is (q_z f200 cmd 5) ki := by rw [ef200, q_setz (Or.inr (by decide))]; exact z194
      have z210 : q_is (q_z f200 scr 3) (kc - 1) := by rw [ef200, q_setz (Or.inr (by decide))]; exact z185
      have z211 : q_ir (q_r f200 so 0) ba := by rw [ef200, q_setr (Or.inr (by decide))]; exact z195
      have g212 : tk_tb f200 ba B tn := tk_tb_tr g196 (fun i9 => by rw [ef200, q_setz (Or.inl (fun q => by rw [q, kscr] at kba; exact absurd kba (by decide)))])
      have g213 : ∀ a9 : Nat, a9 ∈ L → K a9 = 0 → a9 ≠ cmd → q_z f200 a9 5 = q_z f a9 5 := tk_o5_tr g197 (fun a9 h9 k9 n9 => by rw [ef200, q_setz (Or.inl (fun q => by rw [q, kscr] at k9; exact absurd k9 (by decide)))])
      have g214 : tk_tc f200 so B tn := tk_tc_tr g198 (by rw [ef200, q_setz (Or.inr (by decide))]) (by rw [ef200, q_setz (Or.inr (by decide))]) (by rw [ef200, q_setz (Or.inr (by decide))]) (by rw [ef200, q_setj (Or.inl (fun q => by rw [q, kscr] at kso; exact absurd kso (by decide)))]) (by rw [ef200, q_setz (Or.inr (by decide))])
      refine q_ald_n cx dX7_openRepeat_48 rfl (lv_at hl 1 rfl) ?_
      refine q_bipush cx dX7_openRepeat_49 rfl ?_
      refine q_cVi (As := [.int (q_i 40)]) (rest := []) cx hB (fun _ h => h) hN hso kso (by decide) rfl (f_takeMark l g hN hB.2.1 B so hso kso 40 (by decide) (by decide) ba hba kba tn (by omega) (by omega) x149 (by omega) (by omega) z202 z206 z204 z205 z211 g214 g212) q_cX7_108 q_dX8_takeMark (by decide) rfl rfl hl.1 rfl (Nat.le_of_ble_eq_true rfl) dX7_openRepeat_51 (fun y216 H locs f215 ry216 h217 hF hB => ?_)
      rcases h217 with h218 | h219
      · obtain ⟨qy216, z220, z221, t222, g223⟩ := h218
        have z224 : q_is (q_z f215 so 1) tn := Eq.trans (hF.z hso (by rw [kso]; rfl)) z202
        have z225 : q_is (q_z f215 scr 1) kc := Eq.trans (hF.z hscr (by rw [kscr]; rfl)) z203
        have z226 : q_is (q_z f215 so 5) x151 := Eq.trans (hF.z hso (by rw [kso]; rfl)) z207
        have z227 : q_is (q_z f215 cmd 1) x151 := Eq.trans (hF.z hcmd (by rw [kcmd]; rfl)) z208
        have z228 : q_is (q_z f215 cmd 5) ki := Eq.trans (hF.z hcmd (by rw [kcmd]; rfl)) z209
        have z229 : q_is (q_z f215 scr 3) (kc - 1) := Eq.trans (hF.z hscr (by rw [kscr]; rfl)) z210
        have z230 : q_is (q_z f215 scr 4) (kd + 1) := Eq.trans (hF.z hscr (by rw [kscr]; rfl)) z201
        have z231 : q_ir (q_r f215 so 0) ba := Eq.trans (hF.r hso (by rw [kso]; rfl)) z211
        have g232 : tk_tb f215 ba B tn := tk_tb_tr g212 (fun i9 => hF.z hba (by rw [kba]; rfl))
        have g233 : ∀ a9 : Nat, a9 ∈ L → K a9 = 0 → a9 ≠ cmd → q_z f215 a9 5 = q_z f a9 5 := tk_o5_tr g213 (fun a9 h9 k9 n9 => hF.z h9 (by rw [k9]; rfl))
        subst qy216
        obtain ⟨x234, ex234⟩ : ∃ zz, q_is (q_z f215 so 8) zz := ⟨_, q_isr _⟩
        obtain ⟨lx234, ux234⟩ := q_isb ex234 (q_fib hB.2.1 hso kso (by decide) rfl)
        obtain ⟨-, l0x234, u0x234, -, -⟩ := tk_tc_n g223 ex234
        refine q_zret cx hr hlk hB dX7_openRepeat_54 (by decide) (by decide) ?_
        exact (Or.inl ⟨rfl, z220, z221, z225, z229, z230, z228, (tk_ob_ok (tk_okx t138 ex149) t222), g233, g223⟩)
      · obtain ⟨qy216, t235, g236⟩ := h219
        have z237 : q_is (q_z f215 so 1) tn := Eq.trans (hF.z hso (by rw [kso]; rfl)) z202
        have z238 : q_is (q_z f215 scr 1) kc := Eq.trans (hF.z hscr (by rw [kscr]; rfl)) z203
        have z239 : q_is (q_z f215 so 5) x151 := Eq.trans (hF.z hso (by rw [kso]; rfl)) z207
        have z240 : q_is (q_z f215 cmd 1) x151 := Eq.trans (hF.z hcmd (by rw [kcmd]; rfl)) z208
        have z241 : q_is (q_z f215 cmd 5) ki := Eq.trans (hF.z hcmd (by rw [kcmd]; rfl)) z209
        have z242 : q_is (q_z f215 scr 3) (kc - 1) := Eq.trans (hF.z hscr (by rw [kscr]; rfl)) z210
        have z243 : q_is (q_z f215 scr 4) (kd + 1) := Eq.trans (hF.z hscr (by rw [kscr]; rfl)) z201
        have z244 : q_ir (q_r f215 so 0) ba := Eq.trans (hF.r hso (by rw [kso]; rfl)) z211
        have g245 : tk_tb f215 ba B tn := tk_tb_tr g212 (fun i9 => hF.z hba (by rw [kba]; rfl))
        have g246 : ∀ a9 : Nat, a9 ∈ L → K a9 = 0 → a9 ≠ cmd → q_z f215 a9 5 = q_z f a9 5 := tk_o5_tr g213 (fun a9 h9 k9 n9 => hF.z h9 (by rw [k9]; rfl))
        subst qy216
        obtain ⟨x247, ex247⟩ : ∃ zz, q_is (q_z f215 so 8) zz := ⟨_, q_isr _⟩
        obtain ⟨lx247, ux247⟩ := q_isb ex247 (q_fib hB.2.1 hso kso (by decide) rfl)
        obtain ⟨-, l0x247, u0x247, -, -⟩ := tk_tc_n g236 ex247
        refine q_zret cx hr hlk hB dX7_openRepeat_54 (by decide) (by decide) ?_
        exact (Or.inr ⟨rfl, (tk_ob_e2 (tk_okx t138 ex149) t235), g236⟩)
    · exact absurd c150 (by omega)
  · obtain ⟨qy132, t248, g249⟩ := h135
    have z250 : q_is (q_z f131 so 1) tn := Eq.trans (hF.z hso (by rw [kso]; rfl)) hf0
    have z251 : q_is (q_z f131 scr 1) kc := Eq.trans (hF.z hscr (by rw [kscr]; rfl)) hf4
    have z252 : q_is (q_z f131 scr 3) ki := Eq.trans (hF.z hscr (by rw [kscr]; rfl)) hf5
    have z253 : q_is (q_z f131 scr 4) kd := Eq.trans (hF.z hscr (by rw [kscr]; rfl)) hf6
    have z254 : q_ir (q_r f131 so 0) ba := Eq.trans (hF.r hso (by rw [kso]; rfl)) hr0
    have g255 : tk_tb f131 ba B tn := tk_tb_tr htb (fun i9 => hF.z hba (by rw [kba]; rfl))
    have g256 : ∀ a9 : Nat, a9 ∈ L → K a9 = 0 → a9 ≠ cmd → q_z f131 a9 5 = q_z f a9 5 := tk_o5_tr g130 (fun a9 h9 k9 n9 => hF.z h9 (by rw [k9]; rfl))
    subst qy132
    obtain ⟨x257, ex257⟩ : ∃ zz, q_is (q_z f131 so 8) zz := ⟨_, q_isr _⟩
    obtain ⟨lx257, ux257⟩ := q_isb ex257 (q_fib hB.2.1 hso kso (by decide) rfl)
    obtain ⟨-, l0x257, u0x257, -, -⟩ := tk_tc_n g249 ex257
    refine q_ifne (tgt := 12) cx ⟨by decide, by decide⟩ dX7_openRepeat_7 (by decide) (fun c258 => ?_) (fun c258 => ?_)
    · exact absurd c258 (by omega)
    · refine q_iconst cx dX7_openRepeat_10 ?_
      refine q_zret cx hr hlk hB dX7_openRepeat_11 (by decide) (by decide) ?_
      exact (Or.inr ⟨rfl, (tk_ob_e1 t248), g249⟩)
set_option maxHeartbeats 4000000 in
set_option maxRecDepth 100000 in
theorem f_closeRepeat (l : Launch) (g : q_G) {K : Nat → Nat} {L : List Nat} (hN : L.Nodup) {f : Nat → va_E} (hT : q_Ty g K L f) (B : Nat → Int) (scr : Nat) (hscr : scr ∈ L) (kscr : K scr = 7) (so : Nat) (hso : so ∈ L) (kso : K so = 8) (ba : Nat) (hba : ba ∈ L) (kba : K ba = 142) (cmds : Nat) (hcmds : cmds ∈ L) (kcmds : K cmds = 141) (tn : Int) (ltn : 0 ≤ tn) (utn : tn ≤ 600) (ss : Int) (lss : 0 ≤ ss) (uss : ss ≤ 600) (kc : Int) (lkc : 0 ≤ kc) (ukc : kc ≤ 30) (ki : Int) (lki : 0 ≤ ki) (uki : ki ≤ 29) (kd : Int) (lkd : 1 ≤ kd) (ukd : kd ≤ 2) (hf0 : q_is (q_z f so 1) tn) (hf1 : q_is (q_z f so 8) ss) (hf2 : q_is (q_z f so 2) 0) (hf3 : q_is (q_z f so 3) (-1)) (hf4 : q_is (q_z f scr 1) kc) (hf5 : q_is (q_z f scr 3) ki) (hf6 : q_is (q_z f scr 4) kd) (hr0 : q_ir (q_r f so 0) ba) (hr1 : q_ir (q_r f scr 0) cmds) (htc : tk_tc f so B tn) (htb : tk_tb f ba B tn) (hch : tk_ch K L f cmds kc ki kd) : q_Ct l g K L yX7_closeRepeat cX7_closeRepeat 3 (some .boolean) 4 83 [.ref scr, .ref so] f [(0, 4, 4), (7, 3, 4), (8, 2, 4), (8, 6, 9)] (q_Pi (fun (z : Int) (f1 : Nat → va_E) => (z = 1 ∧ q_is (q_z f1 so 2) 0 ∧ q_is (q_z f1 so 3) (-1) ∧ q_is (q_z f1 scr 1) kc ∧ (-1) ≤ q_z f1 scr 3 ∧ q_z f1 scr 3 ≤ 29 ∧ q_is (q_z f1 scr 4) (kd - 1) ∧ (tk_cl B tn ss = tk_ok (q_z f1 so 8)) ∧ (tk_ch K L f1 cmds (q_z f1 scr 1) (q_z f1 scr 3) (q_z f1 scr 4)) ∧ (tk_tc f1 so B tn)) ∨ (z = 0 ∧ (tk_cl B tn ss = tk_er (q_z f1 so 2) (q_z f1 so 3)) ∧ (tk_tc f1 so B tn)))) := by
  refine q_ofb (by decide +kernel) hN hT (Nat.le_of_ble_eq_true rfl) ?_
  intro p e s m below meth c ls cx hr hlk hB hl
  have hl : lv_has ls 3 [(0, .ref scr), (1, .ref so)] := hl
  obtain ⟨H, hH⟩ : ∃ H : Heap, H = s.heap := ⟨_, rfl⟩
  obtain ⟨locs, hlocs⟩ : ∃ z : List Loc, z = [] := ⟨_, rfl⟩
  rw [← hH, ← hlocs] at hB
  rw [← hH, ← hlocs]
  refine q_ald_n cx dX7_closeRepeat_0 rfl (lv_at hl 0 rfl) ?_
  refine q_ald_n cx dX7_closeRepeat_1 rfl (lv_at hl 0 rfl) ?_
  refine q_gX7_22 cx hB hscr kscr hf5 dX7_closeRepeat_2 (fun lb133 ub133 => ?_)
  refine q_cVr (As := [.int (q_i ki)]) (rest := []) cx hB (fun _ h => h) hN hscr kscr (by decide) rfl (f_commandAt l g hN hB.2.1 scr hscr kscr ki (by omega) (by omega) cmds hcmds kcmds hr1) q_cX7_74 q_dX7_commandAt (by decide) rfl rfl hl.1 rfl (Nat.le_of_ble_eq_true rfl) dX7_closeRepeat_5 (fun y135 H locs f134 h136 hF hB => ?_)
  obtain ⟨rfl, hy135, ky135, t137⟩ := h136
  refine lv_astore_n (lv' := [(2, .ref y135), (0, .ref scr), (1, .ref so)]) cx.1 cx.2.1 dX7_closeRepeat_8 rfl hl (by decide) rfl (fun ls hl => ?_)
  refine q_ald_n cx dX7_closeRepeat_9 rfl (lv_at hl 0 rfl) ?_
  refine q_ald_n cx dX7_closeRepeat_10 rfl (lv_at hl 1 rfl) ?_
  refine q_gX7_18 cx hB hscr kscr hf4 dX7_closeRepeat_11 (fun lb138 ub138 => ?_)
  refine q_pX7_111 cx hB hy135 ky135 ⟨by omega, by omega⟩ (by omega) (by omega) rfl dX7_closeRepeat_14 (fun H locs f139 ef139 z140 hB => ?_)
  have z141 : q_is (q_z f139 so 1) tn := by rw [ef139, q_setz (Or.inr (by decide))]; exact hf0
  have z142 : q_is (q_z f139 so 8) ss := by rw [ef139, q_setz (Or.inr (by decide))]; exact hf1
  have z143 : q_is (q_z f139 so 2) 0 := by rw [ef139, q_setz (Or.inr (by decide))]; exact hf2
  have z144 : q_is (q_z f139 so 3) (-1) := by rw [ef139, q_setz (Or.inr (by decide))]; exact hf3
  have z145 : q_is (q_z f139 scr 1) kc := by rw [ef139, q_setz (Or.inr (by decide))]; exact hf4
  have z146 : q_is (q_z f139 scr 3) ki := by rw [ef139, q_setz (Or.inr (by decide))]; exact hf5
  have z147 : q_is (q_z f139 scr 4) kd := by rw [ef139, q_setz (Or.inl (fun q => by rw [q, ky135] at kscr; exact absurd kscr (by decide)))]; exact hf6
  have z148 : q_ir (q_r f139 so 0) ba := by rw [ef139, q_setr (Or.inr (by decide))]; exact hr0
  have z149 : q_ir (q_r f139 scr 0) cmds := by rw [ef139, q_setr (Or.inr (by decide))]; exact hr1
  have g150 : tk_tc f139 so B tn := tk_tc_tr htc (by rw [ef139, q_setz (Or.inr (by decide))]) (by rw [ef139, q_setz (Or.inr (by decide))]) (by rw [ef139, q_setz (Or.inr (by decide))]) (by rw [ef139, q_setj (Or.inl (fun q => by rw [q, ky135] at kso; exact absurd kso (by decide)))]) (by rw [ef139, q_setz (Or.inr (by decide))])
  have g151 : tk_tb f139 ba B tn := tk_tb_tr htb (fun i9 => by rw [ef139, q_setz (Or.inl (fun q => by rw [q, ky135] at kba; exact absurd kba (by decide)))])
  have g152 : tk_ch K L f139 cmds kc ki kd := tk_ch_tr hch (fun a9 h9 k9 => by rw [ef139, q_setz (Or.inr (by decide))]) (fun i9 => by rw [ef139, q_setr (Or.inl (fun q => by rw [q, ky135] at kcmds; exact absurd kcmds (by decide)))])
  have g153 : y135 = q_r f139 cmds (Int.toNat ki) := tk_nz_tr t137 (fun i9 => by rw [ef139, q_setr (Or.inl (fun q => by rw [q, ky135] at kcmds; exact absurd kcmds (by decide)))])
  refine q_ald_n cx dX7_closeRepeat_17 rfl (lv_at hl 1 rfl) ?_
  refine q_ald_n cx dX7_closeRepeat_18 rfl (lv_at hl 0 rfl) ?_
  obtain ⟨x154, ex154⟩ : ∃ zz, q_is (q_z f139 y135 5) zz := ⟨_, q_isr _⟩
  refine q_gX7_105 cx hB hy135 ky135 ex154 dX7_closeRepeat_19 (fun lb155 ub155 => ?_)
  have g156 := tk_ch_o g152 lkd g153 ex154
  have g157 : tk_ch K L f139 cmds kc x154 (kd - 1) := tk_ch_close g152 lkd g153 ex154 rfl
  refine q_pX7_22 cx hB hscr kscr ⟨by omega, by omega⟩ (by omega) (by omega) rfl dX7_closeRepeat_22 (fun H locs f158 ef158 z159 hB => ?_)
  have z160 : q_is (q_z f158 so 1) tn := by rw [ef158, q_setz (Or.inr (by decide))]; exact z141
  have z161 : q_is (q_z f158 so 8) ss := by rw [ef158, q_setz (Or.inr (by decide))]; exact z142
  have z162 : q_is (q_z f158 so 2) 0 := by rw [ef158, q_setz (Or.inr (by decide))]; exact z143
  have z163 : q_is (q_z f158 so 3) (-1) := by rw [ef158, q_setz (Or.inl (fun q => by rw [q, kscr] at kso; exact absurd kso (by decide)))]; exact z144
  have z164 : q_is (q_z f158 scr 1) kc := by rw [ef158, q_setz (Or.inr (by decide))]; exact z145
  have z165 : q_is (q_z f158 scr 4) kd := by rw [ef158, q_setz (Or.inr (by decide))]; exact z147
  have z166 : q_is (q_z f158 y135 4) kc := by rw [ef158, q_setz (Or.inr (by decide))]; exact z140
  have z167 : q_is (q_z f158 y135 5) x154 := by rw [ef158, q_setz (Or.inr (by decide))]; exact ex154
  have z168 : q_ir (q_r f158 so 0) ba := by rw [ef158, q_setr (Or.inr (by decide))]; exact z148
  have z169 : q_ir (q_r f158 scr 0) cmds := by rw [ef158, q_setr (Or.inr (by decide))]; exact z149
  have g170 : tk_tc f158 so B tn := tk_tc_tr g150 (by rw [ef158, q_setz (Or.inr (by decide))]) (by rw [ef158, q_setz (Or.inr (by decide))]) (by rw [ef158, q_setz (Or.inr (by decide))]) (by rw [ef158, q_setj (Or.inr (by decide))]) (by rw [ef158, q_setz (Or.inr (by decide))])
  have g171 : tk_tb f158 ba B tn := tk_tb_tr g151 (fun i9 => by rw [ef158, q_setz (Or.inl (fun q => by rw [q, kscr] at kba; exact absurd kba (by decide)))])
  have g172 : tk_ch K L f158 cmds kc x154 (kd - 1) := tk_ch_tr g157 (fun a9 h9 k9 => by rw [ef158, q_setz (Or.inl (fun q => by rw [q, kscr] at k9; exact absurd k9 (by decide)))]) (fun i9 => by rw [ef158, q_setr (Or.inl (fun q => by rw [q, kscr] at kcmds; exact absurd kcmds (by decide)))])
  have g173 : y135 = q_r f158 cmds (Int.toNat ki) := tk_nz_tr g153 (fun i9 => by rw [ef158, q_setr (Or.inl (fun q => by rw [q, kscr] at kcmds; exact absurd kcmds (by decide)))])
  refine q_ald_n cx dX7_closeRepeat_25 rfl (lv_at hl 1 rfl) ?_
  refine lv_dup cx.1 cx.2.1 dX7_closeRepeat_26 rfl ?_
  refine q_gX7_25 cx hB hscr kscr z165 dX7_closeRepeat_27 (fun lb174 ub174 => ?_)
  refine q_iconst cx dX7_closeRepeat_30 ?_
  refine q_isub cx dX7_closeRepeat_31 ?_
  refine q_pX7_25 cx hB hscr kscr ⟨by omega, by omega⟩ (by omega) (by omega) rfl dX7_closeRepeat_32 (fun H locs f175 ef175 z176 hB => ?_)
  have z177 : q_is (q_z f175 so 1) tn := by rw [ef175, q_setz (Or.inr (by decide))]; exact z160
  have z178 : q_is (q_z f175 so 8) ss := by rw [ef175, q_setz (Or.inr (by decide))]; exact z161
  have z179 : q_is (q_z f175 so 2) 0 := by rw [ef175, q_setz (Or.inr (by decide))]; exact z162
  have z180 : q_is (q_z f175 so 3) (-1) := by rw [ef175, q_setz (Or.inr (by decide))]; exact z163
  have z181 : q_is (q_z f175 scr 1) kc := by rw [ef175, q_setz (Or.inr (by decide))]; exact z164
  have z182 : q_is (q_z f175 y135 4) kc := by rw [ef175, q_setz (Or.inl (fun q => by rw [q, kscr] at ky135; exact absurd ky135 (by decide)))]; exact z166
  have z183 : q_is (q_z f175 y135 5) x154 := by rw [ef175, q_setz (Or.inr (by decide))]; exact z167
  have z184 : q_is (q_z f175 scr 3) x154 := by rw [ef175, q_setz (Or.inr (by decide))]; exact z159
  have z185 : q_ir (q_r f175 so 0) ba := by rw [ef175, q_setr (Or.inr (by decide))]; exact z168
  have z186 : q_ir (q_r f175 scr 0) cmds := by rw [ef175, q_setr (Or.inr (by decide))]; exact z169
  have g187 : tk_tc f175 so B tn := tk_tc_tr g170 (by rw [ef175, q_setz (Or.inr (by decide))]) (by rw [ef175, q_setz (Or.inr (by decide))]) (by rw [ef175, q_setz (Or.inr (by decide))]) (by rw [ef175, q_setj (Or.inl (fun q => by rw [q, kscr] at kso; exact absurd kso (by decide)))]) (by rw [ef175, q_setz (Or.inr (by decide))])
  have g188 : tk_tb f175 ba B tn := tk_tb_tr g171 (fun i9 => by rw [ef175, q_setz (Or.inl (fun q => by rw [q, kscr] at kba; exact absurd kba (by decide)))])
  have g189 : tk_ch K L f175 cmds kc x154 (kd - 1) := tk_ch_tr g172 (fun a9 h9 k9 => by rw [ef175, q_setz (Or.inl (fun q => by rw [q, kscr] at k9; exact absurd k9 (by decide)))]) (fun i9 => by rw [ef175, q_setr (Or.inl (fun q => by rw [q, kscr] at kcmds; exact absurd kcmds (by decide)))])
  have g190 : y135 = q_r f175 cmds (Int.toNat ki) := tk_nz_tr g173 (fun i9 => by rw [ef175, q_setr (Or.inl (fun q => by rw [q, kscr] at kcmds; exact absurd kcmds (by decide)))])
  refine q_ald_n cx dX7_closeRepeat_35 rfl (lv_at hl 2 rfl) ?_
  refine q_bipush cx dX7_closeRepeat_36 rfl ?_
  refine q_cVi (As := [.int (q_i 41)]) (rest := []) cx hB (fun _ h => h) hN hso kso (by decide) rfl (f_takeMark l g hN hB.2.1 B so hso kso 41 (by decide) (by decide) ba hba kba tn (by omega) (by omega) ss (by omega) (by omega) z177 z178 z179 z180 z185 g187 g188) q_cX7_108 q_dX8_takeMark (by decide) rfl rfl hl.1 rfl (Nat.le_of_ble_eq_true rfl) dX7_closeRepeat_38 (fun y192 H locs f191 ry192 h193 hF hB => ?_)
  rcases h193 with h194 | h195
  · obtain ⟨qy192, z196, z197, t198, g199⟩ := h194
    have z200 : q_is (q_z f191 so 1) tn := Eq.trans (hF.z hso (by rw [kso]; rfl)) z177
    have z201 : q_is (q_z f191 scr 1) kc := Eq.trans (hF.z hscr (by rw [kscr]; rfl)) z181
    have z202 : q_is (q_z f191 y135 4) kc := Eq.trans (hF.z hy135 (by rw [ky135]; rfl)) z182
    have z203 : q_is (q_z f191 y135 5) x154 := Eq.trans (hF.z hy135 (by rw [ky135]; rfl)) z183
    have z204 : q_is (q_z f191 scr 3) x154 := Eq.trans (hF.z hscr (by rw [kscr]; rfl)) z184
    have z205 : q_is (q_z f191 scr 4) (kd - 1) := Eq.trans (hF.z hscr (by rw [kscr]; rfl)) z176
    have z206 : q_ir (q_r f191 so 0) ba := Eq.trans (hF.r hso (by rw [kso]; rfl)) z185
    have z207 : q_ir (q_r f191 scr 0) cmds := Eq.trans (hF.r hscr (by rw [kscr]; rfl)) z186
    have g208 : tk_tb f191 ba B tn := tk_tb_tr g188 (fun i9 => hF.z hba (by rw [kba]; rfl))
    have g209 : tk_ch K L f191 cmds kc x154 (kd - 1) := tk_ch_tr g189 (fun a9 h9 k9 => hF.z h9 (by rw [k9]; rfl)) (fun i9 => hF.r hcmds (by rw [kcmds]; rfl))
    have g210 : y135 = q_r f191 cmds (Int.toNat ki) := tk_nz_tr g190 (fun i9 => hF.r hcmds (by rw [kcmds]; rfl))
    subst qy192
    obtain ⟨x211, ex211⟩ : ∃ zz, q_is (q_z f191 so 8) zz := ⟨_, q_isr _⟩
    obtain ⟨lx211, ux211⟩ := q_isb ex211 (q_fib hB.2.1 hso kso (by decide) rfl)
    obtain ⟨-, l0x211, u0x211, -, -⟩ := tk_tc_n g199 ex211
    refine q_ifeq (tgt := 57) cx ⟨by decide, by decide⟩ dX7_closeRepeat_41 (by decide) (fun c212 => ?_) (fun c212 => ?_)
    · exact absurd c212 (by omega)
    · refine q_ald_n cx dX7_closeRepeat_44 rfl (lv_at hl 2 rfl) ?_
      refine q_bipush cx dX7_closeRepeat_45 rfl ?_
      refine q_cVi (As := [.int (q_i 59)]) (rest := []) cx hB (fun _ h => h) hN hso kso (by decide) rfl (f_takeMark l g hN hB.2.1 B so hso kso 59 (by decide) (by decide) ba hba kba tn (by omega) (by omega) x211 (by omega) (by omega) z200 ex211 z196 z197 z206 g199 g208) q_cX7_108 q_dX8_takeMark (by decide) rfl rfl hl.1 rfl (Nat.le_of_ble_eq_true rfl) dX7_closeRepeat_47 (fun y214 H locs f213 ry214 h215 hF hB => ?_)
      rcases h215 with h216 | h217
      · obtain ⟨qy214, z218, z219, t220, g221⟩ := h216
        have z222 : q_is (q_z f213 so 1) tn := Eq.trans (hF.z hso (by rw [kso]; rfl)) z200
        have z223 : q_is (q_z f213 scr 1) kc := Eq.trans (hF.z hscr (by rw [kscr]; rfl)) z201
        have z224 : q_is (q_z f213 y135 4) kc := Eq.trans (hF.z hy135 (by rw [ky135]; rfl)) z202
        have z225 : q_is (q_z f213 y135 5) x154 := Eq.trans (hF.z hy135 (by rw [ky135]; rfl)) z203
        have z226 : q_is (q_z f213 scr 3) x154 := Eq.trans (hF.z hscr (by rw [kscr]; rfl)) z204
        have z227 : q_is (q_z f213 scr 4) (kd - 1) := Eq.trans (hF.z hscr (by rw [kscr]; rfl)) z205
        have z228 : q_ir (q_r f213 so 0) ba := Eq.trans (hF.r hso (by rw [kso]; rfl)) z206
        have z229 : q_ir (q_r f213 scr 0) cmds := Eq.trans (hF.r hscr (by rw [kscr]; rfl)) z207
        have g230 : tk_tb f213 ba B tn := tk_tb_tr g208 (fun i9 => hF.z hba (by rw [kba]; rfl))
        have g231 : tk_ch K L f213 cmds kc x154 (kd - 1) := tk_ch_tr g209 (fun a9 h9 k9 => hF.z h9 (by rw [k9]; rfl)) (fun i9 => hF.r hcmds (by rw [kcmds]; rfl))
        have g232 : y135 = q_r f213 cmds (Int.toNat ki) := tk_nz_tr g210 (fun i9 => hF.r hcmds (by rw [kcmds]; rfl))
        subst qy214
        obtain ⟨x233, ex233⟩ : ∃ zz, q_is (q_z f213 so 8) zz := ⟨_, q_isr _⟩
        obtain ⟨lx233, ux233⟩ := q_isb ex233 (q_fib hB.2.1 hso kso (by decide) rfl)
        obtain ⟨-, l0x233, u0x233, -, -⟩ := tk_tc_n g221 ex233
        refine q_ifeq (tgt := 57) cx ⟨by decide, by decide⟩ dX7_closeRepeat_50 (by decide) (fun c234 => ?_) (fun c234 => ?_)
        · exact absurd c234 (by omega)
        · refine q_iconst cx dX7_closeRepeat_53 ?_
          refine lv_goto (tgt := 58) cx.1 cx.2.1 dX7_closeRepeat_54 (by decide) ?_
          refine q_zret cx hr hlk hB dX7_closeRepeat_58 (by decide) (by decide) ?_
          exact (Or.inl ⟨rfl, z218, z219, z223, (q_isl z226 (by omega)), (q_isu z226 (by omega)), z227, (tk_cl_ok (tk_okx t198 ex211) t220), (tk_ch_w g231 (Eq.trans z223 (by omega)) (Eq.trans z226 (by omega)) (Eq.trans z227 (by omega))), g221⟩)
      · obtain ⟨qy214, t235, g236⟩ := h217
        have z237 : q_is (q_z f213 so 1) tn := Eq.trans (hF.z hso (by rw [kso]; rfl)) z200
        have z238 : q_is (q_z f213 scr 1) kc := Eq.trans (hF.z hscr (by rw [kscr]; rfl)) z201
        have z239 : q_is (q_z f213 y135 4) kc := Eq.trans (hF.z hy135 (by rw [ky135]; rfl)) z202
        have z240 : q_is (q_z f213 y135 5) x154 := Eq.trans (hF.z hy135 (by rw [ky135]; rfl)) z203
        have z241 : q_is (q_z f213 scr 3) x154 := Eq.trans (hF.z hscr (by rw [kscr]; rfl)) z204
        have z242 : q_is (q_z f213 scr 4) (kd - 1) := Eq.trans (hF.z hscr (by rw [kscr]; rfl)) z205
        have z243 : q_ir (q_r f213 so 0) ba := Eq.trans (hF.r hso (by rw [kso]; rfl)) z206
        have z244 : q_ir (q_r f213 scr 0) cmds := Eq.trans (hF.r hscr (by rw [kscr]; rfl)) z207
        have g245 : tk_tb f213 ba B tn := tk_tb_tr g208 (fun i9 => hF.z hba (by rw [kba]; rfl))
        have g246 : tk_ch K L f213 cmds kc x154 (kd - 1) := tk_ch_tr g209 (fun a9 h9 k9 => hF.z h9 (by rw [k9]; rfl)) (fun i9 => hF.r hcmds (by rw [kcmds]; rfl))
        have g247 : y135 = q_r f213 cmds (Int.toNat ki) := tk_nz_tr g210 (fun i9 => hF.r hcmds (by rw [kcmds]; rfl))
        subst qy214
        obtain ⟨x248, ex248⟩ : ∃ zz, q_is (q_z f213 so 8) zz := ⟨_, q_isr _⟩
        obtain ⟨lx248, ux248⟩ := q_isb ex248 (q_fib hB.2.1 hso kso (by decide) rfl)
        obtain ⟨-, l0x248, u0x248, -, -⟩ := tk_tc_n g236 ex248
        refine q_ifeq (tgt := 57) cx ⟨by decide, by decide⟩ dX7_closeRepeat_50 (by decide) (fun c249 => ?_) (fun c249 => ?_)
        · refine q_iconst cx dX7_closeRepeat_57 ?_
          refine q_zret cx hr hlk hB dX7_closeRepeat_58 (by decide) (by decide) ?_
          exact (Or.inr ⟨rfl, (tk_cl_e2 (tk_okx t198 ex211) t235), g236⟩)
        · exact absurd c249 (by omega)
  · obtain ⟨qy192, t250, g251⟩ := h195
    have z252 : q_is (q_z f191 so 1) tn := Eq.trans (hF.z hso (by rw [kso]; rfl)) z177
    have z253 : q_is (q_z f191 scr 1) kc := Eq.trans (hF.z hscr (by rw [kscr]; rfl)) z181
    have z254 : q_is (q_z f191 y135 4) kc := Eq.trans (hF.z hy135 (by rw [ky135]; rfl)) z182
    have z255 : q_is (q_z f191 y135 5) x154 := Eq.trans (hF.z hy135 (by rw [ky135]; rfl)) z183
    have z256 : q_is (q_z f191 scr 3) x154 := Eq.trans (hF.z hscr (by rw [kscr]; rfl)) z184
    have z257 : q_is (q_z f191 scr 4) (kd - 1) := Eq.trans (hF.z hscr (by rw [kscr]; rfl)) z176
    have z258 : q_ir (q_r f191 so 0) ba := Eq.trans (hF.r hso (by rw [kso]; rfl)) z185
    have z259 : q_ir (q_r f191 scr 0) cmds := Eq.trans (hF.r hscr (by rw [kscr]; rfl)) z186
    have g260 : tk_tb f191 ba B tn := tk_tb_tr g188 (fun i9 => hF.z hba (by rw [kba]; rfl))
    have g261 : tk_ch K L f191 cmds kc x154 (kd - 1) := tk_ch_tr g189 (fun a9 h9 k9 => hF.z h9 (by rw [k9]; rfl)) (fun i9 => hF.r hcmds (by rw [kcmds]; rfl))
    have g262 : y135 = q_r f191 cmds (Int.toNat ki) := tk_nz_tr g190 (fun i9 => hF.r hcmds (by rw [kcmds]; rfl))
    subst qy192
    obtain ⟨x263, ex263⟩ : ∃ zz, q_is (q_z f191 so 8) zz := ⟨_, q_isr _⟩
    obtain ⟨lx263, ux263⟩ := q_isb ex263 (q_fib hB.2.1 hso kso (by decide) rfl)
    obtain ⟨-, l0x263, u0x263, -, -⟩ := tk_tc_n g251 ex263
    refine q_ifeq (tgt := 57) cx ⟨by decide, by decide⟩ dX7_closeRepeat_41 (by decide) (fun c264 => ?_) (fun c264 => ?_)
    · refine q_iconst cx dX7_closeRepeat_57 ?_
      refine q_zret cx hr hlk hB dX7_closeRepeat_58 (by decide) (by decide) ?_
      exact (Or.inr ⟨rfl, (tk_cl_e1 t250), g251⟩)
    · exact absurd c264 (by omega)
