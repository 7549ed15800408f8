set_option maxHeartbeats 4000000 in
set_option maxRecDepth 100000 in
theorem r_readsNumbers2 (l : Launch) (g : q_G) {K : Nat → Nat} {L : List Nat} (hN : L.Nodup) {f : Nat → va_E} (hT : q_Ty g K L f) (mo : Nat) (hmo : mo ∈ L) (kmo : K mo = 12) (a0 : Int) (la0 : 0 ≤ a0) (ua0 : a0 ≤ 58) (b0 : Int) (lb0 : 2 ≤ b0) (ub0 : b0 ≤ 2) (sr : Nat) (hsr : sr ∈ L) (ksr : K sr = 151) (nm : Nat) (hnm : nm ∈ L) (knm : K nm = 156) (bu : Nat) (hbu : bu ∈ L) (kbu : K bu = 150) (c1 : Nat) (hc1 : c1 ∈ L) (kc1 : K c1 = 162) (c2 : Nat) (hc2 : c2 ∈ L) (kc2 : K c2 = 163) (c3 : Nat) (hc3 : c3 ∈ L) (kc3 : K c3 = 164) (xp : Int) (lxp : 0 ≤ xp) (uxp : xp ≤ 600) (hf0 : q_is (q_z f mo 8) 0) (hf1 : q_is (q_z f mo 4) xp) (hr0 : q_ir (q_r f mo 13) sr) (hr1 : q_ir (q_r f mo 18) nm) (hr2 : q_ir (q_r f mo 1) bu) (hr3 : q_ir (q_r f mo 30) c1) (hr4 : q_ir (q_r f mo 31) c2) (hr5 : q_ir (q_r f mo 32) c3) : q_Ct l g K L yX12_readsNumbers cX12_readsNumbers 3 none 4 90 [.ref mo, .int (q_i a0), .int (q_i b0)] f [(12, 4, 9), (12, 12, 12), (162, 0, 58), (163, 0, 58), (164, 0, 58)] (q_Pv (fun (f1 : Nat → va_E) => (q_is (q_z f1 mo 8) 0 ∧ (xp ≤ q_z f1 mo 4) ∧ (k_po (q_z f1 mo 6) (q_z f1 mo 4) xp) ∧ (k_cc b0 f1 c1 c2 (Int.toNat a0)) ∧ (k_bl f f1 c1 c2 a0)) ∨ (1 ≤ q_z f1 mo 8 ∧ q_z f1 mo 8 ≤ 5))) := by
  obtain rfl : b0 = 2 := by omega
  refine q_ofb (by decide +kernel) hN hT (Nat.le_of_ble_eq_true rfl) ?_
  intro p e s m below meth c ls cx hr hlk hB hl
  have hl : lv_has ls 3 [(0, .ref mo), (1, .int (q_i a0)), (2, .int (q_i 2))] := hl
  obtain ⟨H, hH⟩ : ∃ H : Heap, H = s.heap := ⟨_, rfl⟩
  obtain ⟨locs, hlocs⟩ : ∃ z : List Loc, z = [] := ⟨_, rfl⟩
  rw [← hH, ← hlocs] at hB
  rw [← hH, ← hlocs]
  have hbl : k_bl f f c1 c2 a0 := k_bl_rf _ _ _ _
  refine q_ild_n cx dX12_readsNumbers_0 rfl (lv_at hl 2 rfl) ?_
  refine q_ifne (tgt := 14) cx ⟨by decide, by decide⟩ dX12_readsNumbers_1 (by decide) (fun c249 => ?_) (fun c249 => ?_)
  · refine q_ild_n cx dX12_readsNumbers_14 rfl (lv_at hl 2 rfl) ?_
    refine q_iconst cx dX12_readsNumbers_15 ?_
    refine q_iclt (tgt := 34) cx ⟨by decide, by decide⟩ ⟨by decide, by decide⟩ dX12_readsNumbers_16 (by decide) (fun c250 => ?_) (fun c250 => ?_)
    · exact absurd c250 (by omega)
    · refine q_ild_n cx dX12_readsNumbers_19 rfl (lv_at hl 2 rfl) ?_
      refine q_iconst cx dX12_readsNumbers_20 ?_
      refine q_icgt (tgt := 34) cx ⟨by decide, by decide⟩ ⟨by decide, by decide⟩ dX12_readsNumbers_21 (by decide) (fun c251 => ?_) (fun c251 => ?_)
      · exact absurd c251 (by omega)
      · refine q_ald_n cx dX12_readsNumbers_24 rfl (lv_at hl 0 rfl) ?_
        refine q_gX12_54 cx hB hmo kmo hr3 dX12_readsNumbers_25 (fun hb252 kb252 => ?_)
        refine q_ild_n cx dX12_readsNumbers_28 rfl (lv_at hl 1 rfl) ?_
        refine q_ald_n cx dX12_readsNumbers_29 rfl (lv_at hl 0 rfl) ?_
        refine q_cVi (As := []) (rest := [.int (q_i a0), .ref c1]) cx hB (fun _ h => h) hN hmo kmo (by decide) rfl (r_told0 l g hN hB.2.1 mo hmo kmo sr hsr ksr nm hnm knm bu hbu kbu xp (by omega) (by omega) hf0 hf1 hr0 hr1 hr2) q_cX12_213 q_dX12_told (by decide) rfl rfl hl.1 rfl (Nat.le_of_ble_eq_true rfl) dX12_readsNumbers_30 (fun y254 H locs f253 ry254 h255 hF hB => ?_)
        rcases h255 with h256 | h257
        · obtain ⟨ly254, uy254, z258, t259, t260⟩ := h256
          have z261 : q_ir (q_r f253 mo 13) sr := Eq.trans (hF.r hmo (by rw [kmo]; rfl)) hr0
          have z262 : q_ir (q_r f253 mo 18) nm := Eq.trans (hF.r hmo (by rw [kmo]; rfl)) hr1
          have z263 : q_ir (q_r f253 mo 1) bu := Eq.trans (hF.r hmo (by rw [kmo]; rfl)) hr2
          have z264 : q_ir (q_r f253 mo 30) c1 := Eq.trans (hF.r hmo (by rw [kmo]; rfl)) hr3
          have z265 : q_ir (q_r f253 mo 31) c2 := Eq.trans (hF.r hmo (by rw [kmo]; rfl)) hr4
          have z266 : q_ir (q_r f253 mo 32) c3 := Eq.trans (hF.r hmo (by rw [kmo]; rfl)) hr5
          have g267 : k_bl f f253 c1 c2 a0 := k_bl_tr hbl (fun i9 => hF.z hc1 (by rw [kc1]; rfl)) (fun i9 => hF.z hc2 (by rw [kc2]; rfl))
          obtain ⟨x268, ex268⟩ : ∃ zz, q_is (q_z f253 mo 4) zz := ⟨_, q_isr _⟩
          obtain ⟨lx268, ux268⟩ := q_isb ex268 (q_fib hB.2.1 hmo kmo (by decide) rfl)
          obtain ⟨x269, ex269⟩ : ∃ zz, q_is (q_z f253 mo 6) zz := ⟨_, q_isr _⟩
          obtain ⟨lx269, ux269⟩ := q_isb ex269 (q_fib hB.2.1 hmo kmo (by decide) rfl)
          replace t259 := q_isl9 ex268 t259
          replace t260 := k_po_si ex269 ex268 t260
          refine q_iast (lo := (-2147483648)) (hi := 2147483647) (n := 60) cx hB hc1 kc1 (by decide) rfl rfl (by omega) (by omega) (by decide) rfl ⟨by omega, by omega⟩ (by omega) (by omega) (q_inWi (lo := 0) (hi := 58) (by decide) (by omega) (by omega)) dX12_readsNumbers_33 (fun H locs f270 ef270 z271 hB => ?_)
          have z272 : q_is (q_z f270 mo 8) 0 := by rw [ef270, q_setz (Or.inl (fun q => by rw [q, kc1] at kmo; exact absurd kmo (by decide)))]; exact z258
          have z273 : q_is (q_z f270 mo 4) x268 := by rw [ef270, q_setz (Or.inl (fun q => by rw [q, kc1] at kmo; exact absurd kmo (by decide)))]; exact ex268
          have z274 : q_is (q_z f270 mo 6) x269 := by rw [ef270, q_setz (Or.inl (fun q => by rw [q, kc1] at kmo; exact absurd kmo (by decide)))]; exact ex269
          have z275 : q_ir (q_r f270 mo 13) sr := by rw [ef270, q_setr (Or.inl (fun q => by rw [q, kc1] at kmo; exact absurd kmo (by decide)))]; exact z261
          have z276 : q_ir (q_r f270 mo 18) nm := by rw [ef270, q_setr (Or.inl (fun q => by rw [q, kc1] at kmo; exact absurd kmo (by decide)))]; exact z262
          have z277 : q_ir (q_r f270 mo 1) bu := by rw [ef270, q_setr (Or.inl (fun q => by rw [q, kc1] at kmo; exact absurd kmo (by decide)))]; exact z263
          have z278 : q_ir (q_r f270 mo 30) c1 := by rw [ef270, q_setr (Or.inl (fun q => by rw [q, kc1] at kmo; exact absurd kmo (by decide)))]; exact z264
          have z279 : q_ir (q_r f270 mo 31) c2 := by rw [ef270, q_setr (Or.inl (fun q => by rw [q, kc1] at kmo; exact absurd kmo (by decide)))]; exact z265
          have z280 : q_ir (q_r f270 mo 32) c3 := by rw [ef270, q_setr (Or.inl (fun q => by rw [q, kc1] at kmo; exact absurd kmo (by decide)))]; exact z266
          have g281 : k_bl f f270 c1 c2 a0 := k_bl_s1 g267 ef270 (by omega) (fun q => q_kne (k := 163) (k2 := 162) (by decide) kc2 kc1 q)
          refine q_ild_n cx dX12_readsNumbers_34 rfl (lv_at hl 2 rfl) ?_
          refine q_iconst cx dX12_readsNumbers_35 ?_
          refine q_iceq (tgt := 44) cx ⟨by decide, by decide⟩ ⟨by decide, by decide⟩ dX12_readsNumbers_36 (by decide) (fun c282 => ?_) (fun c282 => ?_)
          · exact absurd c282 (by omega)
          · refine q_ild_n cx dX12_readsNumbers_39 rfl (lv_at hl 2 rfl) ?_
            refine q_iconst cx dX12_readsNumbers_40 ?_
            refine q_icne (tgt := 54) cx ⟨by decide, by decide⟩ ⟨by decide, by decide⟩ dX12_readsNumbers_41 (by decide) (fun c283 => ?_) (fun c283 => ?_)
            · exact absurd c283 (by omega)
            · refine q_ald_n cx dX12_readsNumbers_44 rfl (lv_at hl 0 rfl) ?_
              refine q_gX12_57 cx hB hmo kmo z279 dX12_readsNumbers_45 (fun hb284 kb284 => ?_)
              refine q_ild_n cx dX12_readsNumbers_48 rfl (lv_at hl 1 rfl) ?_
              refine q_ald_n cx dX12_readsNumbers_49 rfl (lv_at hl 0 rfl) ?_
              refine q_cVi (As := []) (rest := [.int (q_i a0), .ref c2]) cx hB (fun _ h => h) hN hmo kmo (by decide) rfl (r_told0 l g hN hB.2.1 mo hmo kmo sr hsr ksr nm hnm knm bu hbu kbu x268 (by omega) (by omega) z272 z273 z275 z276 z277) q_cX12_213 q_dX12_told (by decide) rfl rfl hl.1 rfl (Nat.le_of_ble_eq_true rfl) dX12_readsNumbers_50 (fun y286 H locs f285 ry286 h287 hF hB => ?_)
              rcases h287 with h288 | h289
              · obtain ⟨ly286, uy286, z290, t291, t292⟩ := h288
                have z293 : q_is (q_z f285 c1 (Int.toNat a0)) y254 := Eq.trans (hF.z hc1 (by rw [kc1]; rfl)) z271
                have z294 : q_ir (q_r f285 mo 13) sr := Eq.trans (hF.r hmo (by rw [kmo]; rfl)) z275
                have z295 : q_ir (q_r f285 mo 18) nm := Eq.trans (hF.r hmo (by rw [kmo]; rfl)) z276
                have z296 : q_ir (q_r f285 mo 1) bu := Eq.trans (hF.r hmo (by rw [kmo]; rfl)) z277
                have z297 : q_ir (q_r f285 mo 30) c1 := Eq.trans (hF.r hmo (by rw [kmo]; rfl)) z278
                have z298 : q_ir (q_r f285 mo 31) c2 := Eq.trans (hF.r hmo (by rw [kmo]; rfl)) z279
                have z299 : q_ir (q_r f285 mo 32) c3 := Eq.trans (hF.r hmo (by rw [kmo]; rfl)) z280
                have g300 : k_bl f f285 c1 c2 a0 := k_bl_tr g281 (fun i9 => hF.z hc1 (by rw [kc1]; rfl)) (fun i9 => hF.z hc2 (by rw [kc2]; rfl))
                obtain ⟨x301, ex301⟩ : ∃ zz, q_is (q_z f285 mo 4) zz := ⟨_, q_isr _⟩
                obtain ⟨lx301, ux301⟩ := q_isb ex301 (q_fib hB.2.1 hmo kmo (by decide) rfl)
                obtain ⟨x302, ex302⟩ : ∃ zz, q_is (q_z f285 mo 6) zz := ⟨_, q_isr _⟩
                obtain ⟨lx302, ux302⟩ := q_isb ex302 (q_fib hB.2.1 hmo kmo (by decide) rfl)
                replace t291 := q_isl9 ex301 t291
                replace t292 := k_po_si ex302 ex301 t292
                refine q_iast (lo := (-2147483648)) (hi := 2147483647) (n := 60) cx hB hc2 kc2 (by decide) rfl rfl (by omega) (by omega) (by decide) rfl ⟨by omega, by omega⟩ (by omega) (by omega) (q_inWi (lo := 0) (hi := 58) (by decide) (by omega) (by omega)) dX12_readsNumbers_53 (fun H locs f303 ef303 z304 hB => ?_)
                have z305 : q_is (q_z f303 c1 (Int.toNat a0)) y254 := by rw [ef303, q_setz (Or.inl (fun q => by rw [q, kc2] at kc1; exact absurd kc1 (by decide)))]; exact z293
                have z306 : q_is (q_z f303 mo 8) 0 := by rw [ef303, q_setz (Or.inl (fun q => by rw [q, kc2] at kmo; exact absurd kmo (by decide)))]; exact z290
                have z307 : q_is (q_z f303 mo 4) x301 := by rw [ef303, q_setz (Or.inl (fun q => by rw [q, kc2] at kmo; exact absurd kmo (by decide)))]; exact ex301
                have z308 : q_is (q_z f303 mo 6) x302 := by rw [ef303, q_setz (Or.inl (fun q => by rw [q, kc2] at kmo; exact absurd kmo (by decide)))]; exact ex302
                have z309 : q_ir (q_r f303 mo 13) sr := by rw [ef303, q_setr (Or.inl (fun q => by rw [q, kc2] at kmo; exact absurd kmo (by decide)))]; exact z294
                have z310 : q_ir (q_r f303 mo 18) nm := by rw [ef303, q_setr (Or.inl (fun q => by rw [q, kc2] at kmo; exact absurd kmo (by decide)))]; exact z295
                have z311 : q_ir (q_r f303 mo 1) bu := by rw [ef303, q_setr (Or.inl (fun q => by rw [q, kc2] at kmo; exact absurd kmo (by decide)))]; exact z296
                have z312 : q_ir (q_r f303 mo 30) c1 := by rw [ef303, q_setr (Or.inl (fun q => by rw [q, kc2] at kmo; exact absurd kmo (by decide)))]; exact z297
                have z313 : q_ir (q_r f303 mo 31) c2 := by rw [ef303, q_setr (Or.inl (fun q => by rw [q, kc2] at kmo; exact absurd kmo (by decide)))]; exact z298
                have z314 : q_ir (q_r f303 mo 32) c3 := by rw [ef303, q_setr (Or.inl (fun q => by rw [q, kc2] at kmo; exact absurd kmo (by decide)))]; exact z299
                have g315 : k_bl f f303 c1 c2 a0 := k_bl_s2 g300 ef303 (by omega) (fun q => q_kne (k := 162) (k2 := 163) (by decide) kc1 kc2 q)
                refine q_ild_n cx dX12_readsNumbers_54 rfl (lv_at hl 2 rfl) ?_
                refine q_iconst cx dX12_readsNumbers_55 ?_
                refine q_iclt (tgt := 74) cx ⟨by decide, by decide⟩ ⟨by decide, by decide⟩ dX12_readsNumbers_56 (by decide) (fun c316 => ?_) (fun c316 => ?_)
                · refine q_ild_n cx dX12_readsNumbers_74 rfl (lv_at hl 2 rfl) ?_
                  refine q_iconst cx dX12_readsNumbers_75 ?_
                  refine q_iceq (tgt := 84) cx ⟨by decide, by decide⟩ ⟨by decide, by decide⟩ dX12_readsNumbers_76 (by decide) (fun c317 => ?_) (fun c317 => ?_)
                  · exact absurd c317 (by omega)
                  · refine q_ild_n cx dX12_readsNumbers_79 rfl (lv_at hl 2 rfl) ?_
                    refine q_iconst cx dX12_readsNumbers_80 ?_
                    refine q_icne (tgt := 94) cx ⟨by decide, by decide⟩ ⟨by decide, by decide⟩ dX12_readsNumbers_81 (by decide) (fun c318 => ?_) (fun c318 => ?_)
                    · exact absurd c318 (by omega)
                    · refine q_ald_n cx dX12_readsNumbers_84 rfl (lv_at hl 0 rfl) ?_
                      refine q_gX12_60 cx hB hmo kmo z314 dX12_readsNumbers_85 (fun hb319 kb319 => ?_)
                      refine q_ild_n cx dX12_readsNumbers_88 rfl (lv_at hl 1 rfl) ?_
                      refine q_ald_n cx dX12_readsNumbers_89 rfl (lv_at hl 0 rfl) ?_
                      refine q_cVi (As := []) (rest := [.int (q_i a0), .ref c3]) cx hB (fun _ h => h) hN hmo kmo (by decide) rfl (r_any0 l g hN hB.2.1 mo hmo kmo bu hbu kbu x301 (by omega) (by omega) z306 z307 z311) q_cX12_482 q_dX12_any (by decide) rfl rfl hl.1 rfl (Nat.le_of_ble_eq_true rfl) dX12_readsNumbers_90 (fun y321 H locs f320 ry321 h322 hF hB => ?_)
                      rcases h322 with h323 | h324
                      · obtain ⟨ly321, uy321, z325, t326, t327⟩ := h323
                        have z328 : q_is (q_z f320 c1 (Int.toNat a0)) y254 := Eq.trans (hF.z hc1 (by rw [kc1]; rfl)) z305
                        have z329 : q_is (q_z f320 c2 (Int.toNat a0)) y286 := Eq.trans (hF.z hc2 (by rw [kc2]; rfl)) z304
                        have z330 : q_ir (q_r f320 mo 13) sr := Eq.trans (hF.r hmo (by rw [kmo]; rfl)) z309
                        have z331 : q_ir (q_r f320 mo 18) nm := Eq.trans (hF.r hmo (by rw [kmo]; rfl)) z310
                        have z332 : q_ir (q_r f320 mo 1) bu := Eq.trans (hF.r hmo (by rw [kmo]; rfl)) z311
                        have z333 : q_ir (q_r f320 mo 30) c1 := Eq.trans (hF.r hmo (by rw [kmo]; rfl)) z312
                        have z334 : q_ir (q_r f320 mo 31) c2 := Eq.trans (hF.r hmo (by rw [kmo]; rfl)) z313
                        have z335 : q_ir (q_r f320 mo 32) c3 := Eq.trans (hF.r hmo (by rw [kmo]; rfl)) z314
                        have g336 : k_bl f f320 c1 c2 a0 := k_bl_tr g315 (fun i9 => hF.z hc1 (by rw [kc1]; rfl)) (fun i9 => hF.z hc2 (by rw [kc2]; rfl))
                        obtain ⟨x337, ex337⟩ : ∃ zz, q_is (q_z f320 mo 4) zz := ⟨_, q_isr _⟩
                        obtain ⟨lx337, ux337⟩ := q_isb ex337 (q_fib hB.2.1 hmo kmo (by decide) rfl)
                        obtain ⟨x338, ex338⟩ : ∃ zz, q_is (q_z f320 mo 6) zz := ⟨_, q_isr _⟩
                        obtain ⟨lx338, ux338⟩ := q_isb ex338 (q_fib hB.2.1 hmo kmo (by decide) rfl)
                        replace t326 := q_isl9 ex337 t326
                        replace t327 := k_po_si ex338 ex337 t327
                        refine q_iast (lo := (-2147483648)) (hi := 2147483647) (n := 60) cx hB hc3 kc3 (by decide) rfl rfl (by omega) (by omega) (by decide) rfl ⟨by omega, by omega⟩ (by omega) (by omega) (q_inWi (lo := 0) (hi := 58) (by decide) (by omega) (by omega)) dX12_readsNumbers_93 (fun H locs f339 ef339 z340 hB => ?_)
                        have z341 : q_is (q_z f339 c1 (Int.toNat a0)) y254 := by rw [ef339, q_setz (Or.inl (fun q => by rw [q, kc3] at kc1; exact absurd kc1 (by decide)))]; exact z328
                        have z342 : q_is (q_z f339 c2 (Int.toNat a0)) y286 := by rw [ef339, q_setz (Or.inl (fun q => by rw [q, kc3] at kc2; exact absurd kc2 (by decide)))]; exact z329
                        have z343 : q_is (q_z f339 mo 8) 0 := by rw [ef339, q_setz (Or.inl (fun q => by rw [q, kc3] at kmo; exact absurd kmo (by decide)))]; exact z325
                        have z344 : q_is (q_z f339 mo 4) x337 := by rw [ef339, q_setz (Or.inl (fun q => by rw [q, kc3] at kmo; exact absurd kmo (by decide)))]; exact ex337
                        have z345 : q_is (q_z f339 mo 6) x338 := by rw [ef339, q_setz (Or.inl (fun q => by rw [q, kc3] at kmo; exact absurd kmo (by decide)))]; exact ex338
                        have z346 : q_ir (q_r f339 mo 13) sr := by rw [ef339, q_setr (Or.inl (fun q => by rw [q, kc3] at kmo; exact absurd kmo (by decide)))]; exact z330
                        have z347 : q_ir (q_r f339 mo 18) nm := by rw [ef339, q_setr (Or.inl (fun q => by rw [q, kc3] at kmo; exact absurd kmo (by decide)))]; exact z331
                        have z348 : q_ir (q_r f339 mo 1) bu := by rw [ef339, q_setr (Or.inl (fun q => by rw [q, kc3] at kmo; exact absurd kmo (by decide)))]; exact z332
                        have z349 : q_ir (q_r f339 mo 30) c1 := by rw [ef339, q_setr (Or.inl (fun q => by rw [q, kc3] at kmo; exact absurd kmo (by decide)))]; exact z333
                        have z350 : q_ir (q_r f339 mo 31) c2 := by rw [ef339, q_setr (Or.inl (fun q => by rw [q, kc3] at kmo; exact absurd kmo (by decide)))]; exact z334
                        have z351 : q_ir (q_r f339 mo 32) c3 := by rw [ef339, q_setr (Or.inl (fun q => by rw [q, kc3] at kmo; exact absurd kmo (by decide)))]; exact z335
                        have g352 : k_bl f f339 c1 c2 a0 := k_bl_tr g336 (fun i9 => by rw [ef339, q_setz (Or.inl (fun q => by rw [q, kc3] at kc1; exact absurd kc1 (by decide)))]) (fun i9 => by rw [ef339, q_setz (Or.inl (fun q => by rw [q, kc3] at kc2; exact absurd kc2 (by decide)))])
                        refine q_ild_n cx dX12_readsNumbers_94 rfl (lv_at hl 2 rfl) ?_
                        refine q_bipush cx dX12_readsNumbers_95 rfl ?_
                        refine q_icne (tgt := 113) cx ⟨by decide, by decide⟩ ⟨by decide, by decide⟩ dX12_readsNumbers_97 (by decide) (fun c353 => ?_) (fun c353 => ?_)
                        · refine q_ild_n cx dX12_readsNumbers_113 rfl (lv_at hl 2 rfl) ?_
                          refine q_bipush cx dX12_readsNumbers_114 rfl ?_
                          refine q_icne (tgt := 125) cx ⟨by decide, by decide⟩ ⟨by decide, by decide⟩ dX12_readsNumbers_116 (by decide) (fun c354 => ?_) (fun c354 => ?_)
                          · refine q_vret cx hr hlk hB dX12_readsNumbers_125 ?_
                            exact (Or.inl ⟨z343, (q_isl z344 (by omega)), (k_po_is z345 z344 (k_po_mono t327 (by omega))), (by have h70 : _ = _ := z341; have h71 : _ = _ := z342; unfold k_cc; omega), g352⟩)
                          · exact absurd c354 (by omega)
                        · exact absurd c353 (by omega)
                      · obtain ⟨lz355, uz355⟩ := h324
                        have z356 : q_is (q_z f320 c1 (Int.toNat a0)) y254 := Eq.trans (hF.z hc1 (by rw [kc1]; rfl)) z305
                        have z357 : q_is (q_z f320 c2 (Int.toNat a0)) y286 := Eq.trans (hF.z hc2 (by rw [kc2]; rfl)) z304
                        have z358 : q_ir (q_r f320 mo 13) sr := Eq.trans (hF.r hmo (by rw [kmo]; rfl)) z309
                        have z359 : q_ir (q_r f320 mo 18) nm := Eq.trans (hF.r hmo (by rw [kmo]; rfl)) z310
                        have z360 : q_ir (q_r f320 mo 1) bu := Eq.trans (hF.r hmo (by rw [kmo]; rfl)) z311
                        have z361 : q_ir (q_r f320 mo 30) c1 := Eq.trans (hF.r hmo (by rw [kmo]; rfl)) z312
                        have z362 : q_ir (q_r f320 mo 31) c2 := Eq.trans (hF.r hmo (by rw [kmo]; rfl)) z313
                        have z363 : q_ir (q_r f320 mo 32) c3 := Eq.trans (hF.r hmo (by rw [kmo]; rfl)) z314
                        have g364 : k_bl f f320 c1 c2 a0 := k_bl_tr g315 (fun i9 => hF.z hc1 (by rw [kc1]; rfl)) (fun i9 => hF.z hc2 (by rw [kc2]; rfl))
                        obtain ⟨x365, ex365⟩ : ∃ zz, q_is (q_z f320 mo 8) zz := ⟨_, q_isr _⟩
                        obtain ⟨lx365, ux365⟩ := q_isb ex365 ⟨lz355, uz355⟩
                        obtain ⟨x366, ex366⟩ : ∃ zz, q_is (q_z f320 mo 4) zz := ⟨_, q_isr _⟩
                        obtain ⟨lx366, ux366⟩ := q_isb ex366 (q_fib hB.2.1 hmo kmo (by decide) rfl)
                        obtain ⟨x367, ex367⟩ : ∃ zz, q_is (q_z f320 mo 6) zz := ⟨_, q_isr _⟩
                        obtain ⟨lx367, ux367⟩ := q_isb ex367 (q_fib hB.2.1 hmo kmo (by decide) rfl)
                        refine q_iast (lo := (-2147483648)) (hi := 2147483647) (n := 60) cx hB hc3 kc3 (by decide) rfl rfl (by omega) (by omega) (by decide) rfl ⟨by omega, by omega⟩ (by omega) (by omega) (q_inWi (lo := 0) (hi := 58) (by decide) (by omega) (by omega)) dX12_readsNumbers_93 (fun H locs f368 ef368 z369 hB => ?_)
                        have z370 : q_is (q_z f368 c1 (Int.toNat a0)) y254 := by rw [ef368, q_setz (Or.inl (fun q => by rw [q, kc3] at kc1; exact absurd kc1 (by decide)))]; exact z356
                        have z371 : q_is (q_z f368 c2 (Int.toNat a0)) y286 := by rw [ef368, q_setz (Or.inl (fun q => by rw [q, kc3] at kc2; exact absurd kc2 (by decide)))]; exact z357
                        have z372 : q_is (q_z f368 mo 8) x365 := by rw [ef368, q_setz (Or.inl (fun q => by rw [q, kc3] at kmo; exact absurd kmo (by decide)))]; exact ex365
                        have z373 : q_is (q_z f368 mo 4) x366 := by rw [ef368, q_setz (Or.inl (fun q => by rw [q, kc3] at kmo; exact absurd kmo (by decide)))]; exact ex366
                        have z374 : q_is (q_z f368 mo 6) x367 := by rw [ef368, q_setz (Or.inl (fun q => by rw [q, kc3] at kmo; exact absurd kmo (by decide)))]; exact ex367
                        have z375 : q_ir (q_r f368 mo 13) sr := by rw [ef368, q_setr (Or.inl (fun q => by rw [q, kc3] at kmo; exact absurd kmo (by decide)))]; exact z358
                        have z376 : q_ir (q_r f368 mo 18) nm := by rw [ef368, q_setr (Or.inl (fun q => by rw [q, kc3] at kmo; exact absurd kmo (by decide)))]; exact z359
                        have z377 : q_ir (q_r f368 mo 1) bu := by rw [ef368, q_setr (Or.inl (fun q => by rw [q, kc3] at kmo; exact absurd kmo (by decide)))]; exact z360
                        have z378 : q_ir (q_r f368 mo 30) c1 := by rw [ef368, q_setr (Or.inl (fun q => by rw [q, kc3] at kmo; exact absurd kmo (by decide)))]; exact z361
                        have z379 : q_ir (q_r f368 mo 31) c2 := by rw [ef368, q_setr (Or.inl (fun q => by rw [q, kc3] at kmo; exact absurd kmo (by decide)))]; exact z362
                        have z380 : q_ir (q_r f368 mo 32) c3 := by rw [ef368, q_setr (Or.inl (fun q => by rw [q, kc3] at kmo; exact absurd kmo (by decide)))]; exact z363
                        have g381 : k_bl f f368 c1 c2 a0 := k_bl_tr g364 (fun i9 => by rw [ef368, q_setz (Or.inl (fun q => by rw [q, kc3] at kc1; exact absurd kc1 (by decide)))]) (fun i9 => by rw [ef368, q_setz (Or.inl (fun q => by rw [q, kc3] at kc2; exact absurd kc2 (by decide)))])
                        refine q_ild_n cx dX12_readsNumbers_94 rfl (lv_at hl 2 rfl) ?_
                        refine q_bipush cx dX12_readsNumbers_95 rfl ?_
                        refine q_icne (tgt := 113) cx ⟨by decide, by decide⟩ ⟨by decide, by decide⟩ dX12_readsNumbers_97 (by decide) (fun c382 => ?_) (fun c382 => ?_)
                        · refine q_ild_n cx dX12_readsNumbers_113 rfl (lv_at hl 2 rfl) ?_
                          refine q_bipush cx dX12_readsNumbers_114 rfl ?_
                          refine q_icne (tgt := 125) cx ⟨by decide, by decide⟩ ⟨by decide, by decide⟩ dX12_readsNumbers_116 (by decide) (fun c383 => ?_) (fun c383 => ?_)
                          · refine q_vret cx hr hlk hB dX12_readsNumbers_125 ?_
                            exact (Or.inr ⟨(q_isl z372 (by omega)), (q_isu z372 (by omega))⟩)
                          · exact absurd c383 (by omega)
                        · exact absurd c382 (by omega)
                · exact absurd c316 (by omega)
              · obtain ⟨ly286, uy286, lz384, uz384⟩ := h289
                have z385 : q_is (q_z f285 c1 (Int.toNat a0)) y254 := Eq.trans (hF.z hc1 (by rw [kc1]; rfl)) z271
                have z386 : q_ir (q_r f285 mo 13) sr := Eq.trans (hF.r hmo (by rw [kmo]; rfl)) z275
                have z387 : q_ir (q_r f285 mo 18) nm := Eq.trans (hF.r hmo (by rw [kmo]; rfl)) z276
                have z388 : q_ir (q_r f285 mo 1) bu := Eq.trans (hF.r hmo (by rw [kmo]; rfl)) z277
                have z389 : q_ir (q_r f285 mo 30) c1 := Eq.trans (hF.r hmo (by rw [kmo]; rfl)) z278
                have z390 : q_ir (q_r f285 mo 31) c2 := Eq.trans (hF.r hmo (by rw [kmo]; rfl)) z279
                have z391 : q_ir (q_r f285 mo 32) c3 := Eq.trans (hF.r hmo (by rw [kmo]; rfl)) z280
                have g392 : k_bl f f285 c1 c2 a0 := k_bl_tr g281 (fun i9 => hF.z hc1 (by rw [kc1]; rfl)) (fun i9 => hF.z hc2 (by rw [kc2]; rfl))
                obtain ⟨x393, ex393⟩ : ∃ zz, q_is (q_z f285 mo 8) zz := ⟨_, q_isr _⟩
                obtain ⟨lx393, ux393⟩ := q_isb ex393 ⟨lz384, uz384⟩
                obtain ⟨x394, ex394⟩ : ∃ zz, q_is (q_z f285 mo 4) zz := ⟨_, q_isr _⟩
                obtain ⟨lx394, ux394⟩ := q_isb ex394 (q_fib hB.2.1 hmo kmo (by decide) rfl)
                obtain ⟨x395, ex395⟩ : ∃ zz, q_is (q_z f285 mo 6) zz := ⟨_, q_isr _⟩
                obtain ⟨lx395, ux395⟩ := q_isb ex395 (q_fib hB.2.1 hmo kmo (by decide) rfl)
                refine q_iast (lo := (-2147483648)) (hi := 2147483647) (n := 60) cx hB hc2 kc2 (by decide) rfl rfl (by omega) (by omega) (by decide) rfl ⟨by omega, by omega⟩ (by omega) (by omega) (q_inWi (lo := 0) (hi := 58) (by decide) (by omega) (by omega)) dX12_readsNumbers_53 (fun H locs f396 ef396 z397 hB => ?_)
                have z398 : q_is (q_z f396 c1 (Int.toNat a0)) y254 := by rw [ef396, q_setz (Or.inl (fun q => by rw [q, kc2] at kc1; exact absurd kc1 (by decide)))]; exact z385
                have z399 : q_is (q_z f396 mo 8) x393 := by rw [ef396, q_setz (Or.inl (fun q => by rw [q, kc2] at kmo; exact absurd kmo (by decide)))]; exact ex393
                have z400 : q_is (q_z f396 mo 4) x394 := by rw [ef396, q_setz (Or.inl (fun q => by rw [q, kc2] at kmo; exact absurd kmo (by decide)))]; exact ex394
                have z401 : q_is (q_z f396 mo 6) x395 := by rw [ef396, q_setz (Or.inl (fun q => by rw [q, kc2] at kmo; exact absurd kmo (by decide)))]; exact ex395
                have z402 : q_ir (q_r f396 mo 13) sr := by rw [ef396, q_setr (Or.inl (fun q => by rw [q, kc2] at kmo; exact absurd kmo (by decide)))]; exact z386
                have z403 : q_ir (q_r f396 mo 18) nm := by rw [ef396, q_setr (Or.inl (fun q => by rw [q, kc2] at kmo; exact absurd kmo (by decide)))]; exact z387
                have z404 : q_ir (q_r f396 mo 1) bu := by rw [ef396, q_setr (Or.inl (fun q => by rw [q, kc2] at kmo; exact absurd kmo (by decide)))]; exact z388
                have z405 : q_ir (q_r f396 mo 30) c1 := by rw [ef396, q_setr (Or.inl (fun q => by rw [q, kc2] at kmo; exact absurd kmo (by decide)))]; exact z389
                have z406 : q_ir (q_r f396 mo 31) c2 := by rw [ef396, q_setr (Or.inl (fun q => by rw [q, kc2] at kmo; exact absurd kmo (by decide)))]; exact z390
                have z407 : q_ir (q_r f396 mo 32) c3 := by rw [ef396, q_setr (Or.inl (fun q => by rw [q, kc2] at kmo; exact absurd kmo (by decide)))]; exact z391
                have g408 : k_bl f f396 c1 c2 a0 := k_bl_s2 g392 ef396 (by omega) (fun q => q_kne (k := 162) (k2 := 163) (by decide) kc1 kc2 q)
                refine q_ild_n cx dX12_readsNumbers_54 rfl (lv_at hl 2 rfl) ?_
                refine q_iconst cx dX12_readsNumbers_55 ?_
                refine q_iclt (tgt := 74) cx ⟨by decide, by decide⟩ ⟨by decide, by decide⟩ dX12_readsNumbers_56 (by decide) (fun c409 => ?_) (fun c409 => ?_)
                · refine q_ild_n cx dX12_readsNumbers_74 rfl (lv_at hl 2 rfl) ?_
                  refine q_iconst cx dX12_readsNumbers_75 ?_
                  refine q_iceq (tgt := 84) cx ⟨by decide, by decide⟩ ⟨by decide, by decide⟩ dX12_readsNumbers_76 (by decide) (fun c410 => ?_) (fun c410 => ?_)
                  · exact absurd c410 (by omega)
                  · refine q_ild_n cx dX12_readsNumbers_79 rfl (lv_at hl 2 rfl) ?_
                    refine q_iconst cx dX12_readsNumbers_80 ?_
                    refine q_icne (tgt := 94) cx ⟨by decide, by decide⟩ ⟨by decide, by decide⟩ dX12_readsNumbers_81 (by decide) (fun c411 => ?_) (fun c411 => ?_)
                    · exact absurd c411 (by omega)
                    · refine q_ald_n cx dX12_readsNumbers_84 rfl (lv_at hl 0 rfl) ?_
                      refine q_gX12_60 cx hB hmo kmo z407 dX12_readsNumbers_85 (fun hb412 kb412 => ?_)
                      refine q_ild_n cx dX12_readsNumbers_88 rfl (lv_at hl 1 rfl) ?_
                      refine q_ald_n cx dX12_readsNumbers_89 rfl (lv_at hl 0 rfl) ?_
                      refine q_cVi (As := []) (rest := [.int (q_i a0), .ref c3]) cx hB (fun _ h => h) hN hmo kmo (by decide) rfl (r_any1 l g hN hB.2.1 mo hmo kmo x393 (by omega) (by omega) z399) q_cX12_482 q_dX12_any (by decide) rfl rfl hl.1 rfl (Nat.le_of_ble_eq_true rfl) dX12_readsNumbers_90 (fun y414 H locs f413 ry414 h415 hF hB => ?_)
                      obtain rfl := h415
                      refine q_iast (lo := (-2147483648)) (hi := 2147483647) (n := 60) cx hB hc3 kc3 (by decide) rfl rfl (by omega) (by omega) (by decide) rfl ⟨by omega, by omega⟩ (by omega) (by omega) (q_inWi (lo := 0) (hi := 58) (by decide) (by omega) (by omega)) dX12_readsNumbers_93 (fun H locs f416 ef416 z417 hB => ?_)
                      have z418 : q_is (q_z f416 c1 (Int.toNat a0)) y254 := by rw [ef416, q_setz (Or.inl (fun q => by rw [q, kc3] at kc1; exact absurd kc1 (by decide)))]; exact z398
                      have z419 : q_is (q_z f416 mo 8) x393 := by rw [ef416, q_setz (Or.inl (fun q => by rw [q, kc3] at kmo; exact absurd kmo (by decide)))]; exact z399
                      have z420 : q_is (q_z f416 mo 4) x394 := by rw [ef416, q_setz (Or.inl (fun q => by rw [q, kc3] at kmo; exact absurd kmo (by decide)))]; exact z400
                      have z421 : q_is (q_z f416 mo 6) x395 := by rw [ef416, q_setz (Or.inl (fun q => by rw [q, kc3] at kmo; exact absurd kmo (by decide)))]; exact z401
                      have z422 : q_is (q_z f416 c2 (Int.toNat a0)) y286 := by rw [ef416, q_setz (Or.inl (fun q => by rw [q, kc3] at kc2; exact absurd kc2 (by decide)))]; exact z397
                      have z423 : q_ir (q_r f416 mo 13) sr := by rw [ef416, q_setr (Or.inl (fun q => by rw [q, kc3] at kmo; exact absurd kmo (by decide)))]; exact z402
                      have z424 : q_ir (q_r f416 mo 18) nm := by rw [ef416, q_setr (Or.inl (fun q => by rw [q, kc3] at kmo; exact absurd kmo (by decide)))]; exact z403
                      have z425 : q_ir (q_r f416 mo 1) bu := by rw [ef416, q_setr (Or.inl (fun q => by rw [q, kc3] at kmo; exact absurd kmo (by decide)))]; exact z404
                      have z426 : q_ir (q_r f416 mo 30) c1 := by rw [ef416, q_setr (Or.inl (fun q => by rw [q, kc3] at kmo; exact absurd kmo (by decide)))]; exact z405
                      have z427 : q_ir (q_r f416 mo 31) c2 := by rw [ef416, q_setr (Or.inl (fun q => by rw [q, kc3] at kmo; exact absurd kmo (by decide)))]; exact z406
                      have z428 : q_ir (q_r f416 mo 32) c3 := by rw [ef416, q_setr (Or.inl (fun q => by rw [q, kc3] at kmo; exact absurd kmo (by decide)))]; exact z407
                      have g429 : k_bl f f416 c1 c2 a0 := k_bl_tr g408 (fun i9 => by rw [ef416, q_setz (Or.inl (fun q => by rw [q, kc3] at kc1; exact absurd kc1 (by decide)))]) (fun i9 => by rw [ef416, q_setz (Or.inl (fun q => by rw [q, kc3] at kc2; exact absurd kc2 (by decide)))])
                      refine q_ild_n cx dX12_readsNumbers_94 rfl (lv_at hl 2 rfl) ?_
                      refine q_bipush cx dX12_readsNumbers_95 rfl ?_
                      refine q_icne (tgt := 113) cx ⟨by decide, by decide⟩ ⟨by decide, by decide⟩ dX12_readsNumbers_97 (by decide) (fun c430 => ?_) (fun c430 => ?_)
                      · refine q_ild_n cx dX12_readsNumbers_113 rfl (lv_at hl 2 rfl) ?_
                        refine q_bipush cx dX12_readsNumbers_114 rfl ?_
                        refine q_icne (tgt := 125) cx ⟨by decide, by decide⟩ ⟨by decide, by decide⟩ dX12_readsNumbers_116 (by decide) (fun c431 => ?_) (fun c431 => ?_)
                        · refine q_vret cx hr hlk hB dX12_readsNumbers_125 ?_
                          exact (Or.inr ⟨(q_isl z419 (by omega)), (q_isu z419 (by omega))⟩)
                        · exact absurd c431 (by omega)
                      · exact absurd c430 (by omega)
                · exact absurd c409 (by omega)
        · obtain ⟨ly254, uy254, lz432, uz432⟩ := h257
          have z433 : q_ir (q_r f253 mo 13) sr := Eq.trans (hF.r hmo (by rw [kmo]; rfl)) hr0
          have z434 : q_ir (q_r f253 mo 18) nm := Eq.trans (hF.r hmo (by rw [kmo]; rfl)) hr1
          have z435 : q_ir (q_r f253 mo 1) bu := Eq.trans (hF.r hmo (by rw [kmo]; rfl)) hr2
          have z436 : q_ir (q_r f253 mo 30) c1 := Eq.trans (hF.r hmo (by rw [kmo]; rfl)) hr3
          have z437 : q_ir (q_r f253 mo 31) c2 := Eq.trans (hF.r hmo (by rw [kmo]; rfl)) hr4
          have z438 : q_ir (q_r f253 mo 32) c3 := Eq.trans (hF.r hmo (by rw [kmo]; rfl)) hr5
          have g439 : k_bl f f253 c1 c2 a0 := k_bl_tr hbl (fun i9 => hF.z hc1 (by rw [kc1]; rfl)) (fun i9 => hF.z hc2 (by rw [kc2]; rfl))
          obtain ⟨x440, ex440⟩ : ∃ zz, q_is (q_z f253 mo 8) zz := ⟨_, q_isr _⟩
          obtain ⟨lx440, ux440⟩ := q_isb ex440 ⟨lz432, uz432⟩
          obtain ⟨x441, ex441⟩ : ∃ zz, q_is (q_z f253 mo 4) zz := ⟨_, q_isr _⟩
          obtain ⟨lx441, ux441⟩ := q_isb ex441 (q_fib hB.2.1 hmo kmo (by decide) rfl)
          obtain ⟨x442, ex442⟩ : ∃ zz, q_is (q_z f253 mo 6) zz := ⟨_, q_isr _⟩
          obtain ⟨lx442, ux442⟩ := q_isb ex442 (q_fib hB.2.1 hmo kmo (by decide) rfl)
          refine q_iast (lo := (-2147483648)) (hi := 2147483647) (n := 60) cx hB hc1 kc1 (by decide) rfl rfl (by omega) (by omega) (by decide) rfl ⟨by omega, by omega⟩ (by omega) (by omega) (q_inWi (lo := 0) (hi := 58) (by decide) (by omega) (by omega)) dX12_readsNumbers_33 (fun H locs f443 ef443 z444 hB => ?_)
          have z445 : q_is (q_z f443 mo 8) x440 := by rw [ef443, q_setz (Or.inl (fun q => by rw [q, kc1] at kmo; exact absurd kmo (by decide)))]; exact ex440
          have z446 : q_is (q_z f443 mo 4) x441 := by rw [ef443, q_setz (Or.inl (fun q => by rw [q, kc1] at kmo; exact absurd kmo (by decide)))]; exact ex441
          have z447 : q_is (q_z f443 mo 6) x442 := by rw [ef443, q_setz (Or.inl (fun q => by rw [q, kc1] at kmo; exact absurd kmo (by decide)))]; exact ex442
          have z448 : q_ir (q_r f443 mo 13) sr := by rw [ef443, q_setr (Or.inl (fun q => by rw [q, kc1] at kmo; exact absurd kmo (by decide)))]; exact z433
          have z449 : q_ir (q_r f443 mo 18) nm := by rw [ef443, q_setr (Or.inl (fun q => by rw [q, kc1] at kmo; exact absurd kmo (by decide)))]; exact z434
          have z450 : q_ir (q_r f443 mo 1) bu := by rw [ef443, q_setr (Or.inl (fun q => by rw [q, kc1] at kmo; exact absurd kmo (by decide)))]; exact z435
          have z451 : q_ir (q_r f443 mo 30) c1 := by rw [ef443, q_setr (Or.inl (fun q => by rw [q, kc1] at kmo; exact absurd kmo (by decide)))]; exact z436
          have z452 : q_ir (q_r f443 mo 31) c2 := by rw [ef443, q_setr (Or.inl (fun q => by rw [q, kc1] at kmo; exact absurd kmo (by decide)))]; exact z437
          have z453 : q_ir (q_r f443 mo 32) c3 := by rw [ef443, q_setr (Or.inl (fun q => by rw [q, kc1] at kmo; exact absurd kmo (by decide)))]; exact z438
          have g454 : k_bl f f443 c1 c2 a0 := k_bl_s1 g439 ef443 (by omega) (fun q => q_kne (k := 163) (k2 := 162) (by decide) kc2 kc1 q)
          refine q_ild_n cx dX12_readsNumbers_34 rfl (lv_at hl 2 rfl) ?_
          refine q_iconst cx dX12_readsNumbers_35 ?_
          refine q_iceq (tgt := 44) cx ⟨by decide, by decide⟩ ⟨by decide, by decide⟩ dX12_readsNumbers_36 (by decide) (fun c455 => ?_) (fun c455 => ?_)
          · exact absurd c455 (by omega)
          · refine q_ild_n cx dX12_readsNumbers_39 rfl (lv_at hl 2 rfl) ?_
            refine q_iconst cx dX12_readsNumbers_40 ?_
            refine q_icne (tgt := 54) cx ⟨by decide, by decide⟩ ⟨by decide, by decide⟩ dX12_readsNumbers_41 (by decide) (fun c456 => ?_) (fun c456 => ?_)
            · exact absurd c456 (by omega)
            · refine q_ald_n cx dX12_readsNumbers_44 rfl (lv_at hl 0 rfl) ?_
              refine q_gX12_57 cx hB hmo kmo z452 dX12_readsNumbers_45 (fun hb457 kb457 => ?_)
              refine q_ild_n cx dX12_readsNumbers_48 rfl (lv_at hl 1 rfl) ?_
              refine q_ald_n cx dX12_readsNumbers_49 rfl (lv_at hl 0 rfl) ?_
              refine q_cVi (As := []) (rest := [.int (q_i a0), .ref c2]) cx hB (fun _ h => h) hN hmo kmo (by decide) rfl (r_told1 l g hN hB.2.1 mo hmo kmo x440 (by omega) (by omega) z445) q_cX12_213 q_dX12_told (by decide) rfl rfl hl.1 rfl (Nat.le_of_ble_eq_true rfl) dX12_readsNumbers_50 (fun y459 H locs f458 ry459 h460 hF hB => ?_)
              obtain ⟨rfl, qy459⟩ := h460
              subst qy459
              refine q_iast (lo := (-2147483648)) (hi := 2147483647) (n := 60) cx hB hc2 kc2 (by decide) rfl rfl (by omega) (by omega) (by decide) rfl ⟨by decide, by decide⟩ (by decide) (by decide) (q_inWi (lo := 0) (hi := 58) (by decide) (by omega) (by omega)) dX12_readsNumbers_53 (fun H locs f461 ef461 z462 hB => ?_)
              have z463 : q_is (q_z f461 mo 8) x440 := by rw [ef461, q_setz (Or.inl (fun q => by rw [q, kc2] at kmo; exact absurd kmo (by decide)))]; exact z445
              have z464 : q_is (q_z f461 mo 4) x441 := by rw [ef461, q_setz (Or.inl (fun q => by rw [q, kc2] at kmo; exact absurd kmo (by decide)))]; exact z446
              have z465 : q_is (q_z f461 mo 6) x442 := by rw [ef461, q_setz (Or.inl (fun q => by rw [q, kc2] at kmo; exact absurd kmo (by decide)))]; exact z447
              have z466 : q_is (q_z f461 c1 (Int.toNat a0)) y254 := by rw [ef461, q_setz (Or.inl (fun q => by rw [q, kc2] at kc1; exact absurd kc1 (by decide)))]; exact z444
              have z467 : q_ir (q_r f461 mo 13) sr := by rw [ef461, q_setr (Or.inl (fun q => by rw [q, kc2] at kmo; exact absurd kmo (by decide)))]; exact z448
              have z468 : q_ir (q_r f461 mo 18) nm := by rw [ef461, q_setr (Or.inl (fun q => by rw [q, kc2] at kmo; exact absurd kmo (by decide)))]; exact z449
              have z469 : q_ir (q_r f461 mo 1) bu := by rw [ef461, q_setr (Or.inl (fun q => by rw [q, kc2] at kmo; exact absurd kmo (by decide)))]; exact z450
              have z470 : q_ir (q_r f461 mo 30) c1 := by rw [ef461, q_setr (Or.inl (fun q => by rw [q, kc2] at kmo; exact absurd kmo (by decide)))]; exact z451
              have z471 : q_ir (q_r f461 mo 31) c2 := by rw [ef461, q_setr (Or.inl (fun q => by rw [q, kc2] at kmo; exact absurd kmo (by decide)))]; exact z452
              have z472 : q_ir (q_r f461 mo 32) c3 := by rw [ef461, q_setr (Or.inl (fun q => by rw [q, kc2] at kmo; exact absurd kmo (by decide)))]; exact z453
              have g473 : k_bl f f461 c1 c2 a0 := k_bl_s2 g454 ef461 (by omega) (fun q => q_kne (k := 162) (k2 := 163) (by decide) kc1 kc2 q)
              refine q_ild_n cx dX12_readsNumbers_54 rfl (lv_at hl 2 rfl) ?_
              refine q_iconst cx dX12_readsNumbers_55 ?_
              refine q_iclt (tgt := 74) cx ⟨by decide, by decide⟩ ⟨by decide, by decide⟩ dX12_readsNumbers_56 (by decide) (fun c474 => ?_) (fun c474 => ?_)
              · refine q_ild_n cx dX12_readsNumbers_74 rfl (lv_at hl 2 rfl) ?_
                refine q_iconst cx dX12_readsNumbers_75 ?_
                refine q_iceq (tgt := 84) cx ⟨by decide, by decide⟩ ⟨by decide, by decide⟩ dX12_readsNumbers_76 (by decide) (fun c475 => ?_) (fun c475 => ?_)
                · exact absurd c475 (by omega)
                · refine q_ild_n cx dX12_readsNumbers_79 rfl (lv_at hl 2 rfl) ?_
                  refine q_iconst cx dX12_readsNumbers_80 ?_
                  refine q_icne (tgt := 94) cx ⟨by decide, by decide⟩ ⟨by decide, by decide⟩ dX12_readsNumbers_81 (by decide) (fun c476 => ?_) (fun c476 => ?_)
                  · exact absurd c476 (by omega)
                  · refine q_ald_n cx dX12_readsNumbers_84 rfl (lv_at hl 0 rfl) ?_
                    refine q_gX12_60 cx hB hmo kmo z472 dX12_readsNumbers_85 (fun hb477 kb477 => ?_)
                    refine q_ild_n cx dX12_readsNumbers_88 rfl (lv_at hl 1 rfl) ?_
                    refine q_ald_n cx dX12_readsNumbers_89 rfl (lv_at hl 0 rfl) ?_
                    refine q_cVi (As := []) (rest := [.int (q_i a0), .ref c3]) cx hB (fun _ h => h) hN hmo kmo (by decide) rfl (r_any1 l g hN hB.2.1 mo hmo kmo x440 (by omega) (by omega) z463) q_cX12_482 q_dX12_any (by decide) rfl rfl hl.1 rfl (Nat.le_of_ble_eq_true rfl) dX12_readsNumbers_90 (fun y479 H locs f478 ry479 h480 hF hB => ?_)
                    obtain rfl := h480
                    refine q_iast (lo := (-2147483648)) (hi := 2147483647) (n := 60) cx hB hc3 kc3 (by decide) rfl rfl (by omega) (by omega) (by decide) rfl ⟨by omega, by omega⟩ (by omega) (by omega) (q_inWi (lo := 0) (hi := 58) (by decide) (by omega) (by omega)) dX12_readsNumbers_93 (fun H locs f481 ef481 z482 hB => ?_)
                    have z483 : q_is (q_z f481 mo 8) x440 := by rw [ef481, q_setz (Or.inl (fun q => by rw [q, kc3] at kmo; exact absurd kmo (by decide)))]; exact z463
                    have z484 : q_is (q_z f481 mo 4) x441 := by rw [ef481, q_setz (Or.inl (fun q => by rw [q, kc3] at kmo; exact absurd kmo (by decide)))]; exact z464
                    have z485 : q_is (q_z f481 mo 6) x442 := by rw [ef481, q_setz (Or.inl (fun q => by rw [q, kc3] at kmo; exact absurd kmo (by decide)))]; exact z465
                    have z486 : q_is (q_z f481 c1 (Int.toNat a0)) y254 := by rw [ef481, q_setz (Or.inl (fun q => by rw [q, kc3] at kc1; exact absurd kc1 (by decide)))]; exact z466
                    have z487 : q_is (q_z f481 c2 (Int.toNat a0)) (-1) := by rw [ef481, q_setz (Or.inl (fun q => by rw [q, kc3] at kc2; exact absurd kc2 (by decide)))]; exact z462
                    have z488 : q_ir (q_r f481 mo 13) sr := by rw [ef481, q_setr (Or.inl (fun q => by rw [q, kc3] at kmo; exact absurd kmo (by decide)))]; exact z467
                    have z489 : q_ir (q_r f481 mo 18) nm := by rw [ef481, q_setr (Or.inl (fun q => by rw [q, kc3] at kmo; exact absurd kmo (by decide)))]; exact z468
                    have z490 : q_ir (q_r f481 mo 1) bu := by rw [ef481, q_setr (Or.inl (fun q => by rw [q, kc3] at kmo; exact absurd kmo (by decide)))]; exact z469
                    have z491 : q_ir (q_r f481 mo 30) c1 := by rw [ef481, q_setr (Or.inl (fun q => by rw [q, kc3] at kmo; exact absurd kmo (by decide)))]; exact z470
                    have z492 : q_ir (q_r f481 mo 31) c2 := by rw [ef481, q_setr (Or.inl (fun q => by rw [q, kc3] at kmo; exact absurd kmo (by decide)))]; exact z471
                    have z493 : q_ir (q_r f481 mo 32) c3 := by rw [ef481, q_setr (Or.inl (fun q => by rw [q, kc3] at kmo; exact absurd kmo (by decide)))]; exact z472
                    have g494 : k_bl f f481 c1 c2 a0 := k_bl_tr g473 (fun i9 => by rw [ef481, q_setz (Or.inl (fun q => by rw [q, kc3] at kc1; exact absurd kc1 (by decide)))]) (fun i9 => by rw [ef481, q_setz (Or.inl (fun q => by rw [q, kc3] at kc2; exact absurd kc2 (by decide)))])
                    refine q_ild_n cx dX12_readsNumbers_94 rfl (lv_at hl 2 rfl) ?_
                    refine q_bipush cx dX12_readsNumbers_95 rfl ?_
                    refine q_icne (tgt := 113) cx ⟨by decide, by decide⟩ ⟨by decide, by decide⟩ dX12_readsNumbers_97 (by decide) (fun c495 => ?_) (fun c495 => ?_)
                    · refine q_ild_n cx dX12_readsNumbers_113 rfl (lv_at hl 2 rfl) ?_
                      refine q_bipush cx dX12_readsNumbers_114 rfl ?_
                      refine q_icne (tgt := 125) cx ⟨by decide, by decide⟩ ⟨by decide, by decide⟩ dX12_readsNumbers_116 (by decide) (fun c496 => ?_) (fun c496 => ?_)
                      · refine q_vret cx hr hlk hB dX12_readsNumbers_125 ?_
                        exact (Or.inr ⟨(q_isl z483 (by omega)), (q_isu z483 (by omega))⟩)
                      · exact absurd c496 (by omega)
                    · exact absurd c495 (by omega)
              · exact absurd c474 (by omega)
  · exact absurd c249 (by omega)
set_option maxHeartbeats 4000000 in
set_option maxRecDepth 100000 in
theorem r_readsNumbers3 (l : Launch) (g : q_G) {K : Nat → Nat} {L : List Nat} (hN : L.Nodup) {f : Nat → va_E} (hT : q_Ty g K L f) (mo : Nat) (hmo : mo ∈ L) (kmo : K mo = 12) (a0 : Int) (la0 : 0 ≤ a0) (ua0 : a0 ≤ 58) (b0 : Int) (lb0 : 3 ≤ b0) (ub0 : b0 ≤ 3) (sr : Nat) (hsr : sr ∈ L) (ksr : K sr = 151) (nm : Nat) (hnm : nm ∈ L) (knm : K nm = 156) (bu : Nat) (hbu : bu ∈ L) (kbu : K bu = 150) (c1 : Nat) (hc1 : c1 ∈ L) (kc1 : K c1 = 162) (c2 : Nat) (hc2 : c2 ∈ L) (kc2 : K c2 = 163) (c3 : Nat) (hc3 : c3 ∈ L) (kc3 : K c3 = 164) (xp : Int) (lxp : 0 ≤ xp) (uxp : xp ≤ 600) (hf0 : q_is (q_z f mo 8) 0) (hf1 : q_is (q_z f mo 4) xp) (hr0 : q_ir (q_r f mo 13) sr) (hr1 : q_ir (q_r f mo 18) nm) (hr2 : q_ir (q_r f mo 1) bu) (hr3 : q_ir (q_r f mo 30) c1) (hr4 : q_ir (q_r f mo 31) c2) (hr5 : q_ir (q_r f mo 32) c3) : q_Ct l g K L yX12_readsNumbers cX12_readsNumbers 3 none 4 90 [.ref mo, .int (q_i a0), .int (q_i b0)] f [(12, 4, 9), (12, 12, 12), (162, 0, 58), (163, 0, 58)] (q_Pv (fun (f1 : Nat → va_E) => (q_is (q_z f1 mo 8) 0 ∧ (xp ≤ q_z f1 mo 4) ∧ (k_po (q_z f1 mo 6) (q_z f1 mo 4) xp) ∧ (k_cc b0 f1 c1 c2 (Int.toNat a0)) ∧ (k_bl f f1 c1 c2 a0)) ∨ (1 ≤ q_z f1 mo 8 ∧ q_z f1 mo 8 ≤ 5))) := by
  obtain rfl : b0 = 3 := by omega
  refine q_ofb (by decide +kernel) hN hT (Nat.le_of_ble_eq_true rfl) ?_
  intro p e s m below meth c ls cx hr hlk hB hl
  have hl : lv_has ls 3 [(0, .ref mo), (1, .int (q_i a0)), (2, .int (q_i 3))] := hl
  obtain ⟨H, hH⟩ : ∃ H : Heap, H = s.heap := ⟨_, rfl⟩
  obtain ⟨locs, hlocs⟩ : ∃ z : List Loc, z = [] := ⟨_, rfl⟩
  rw [← hH, ← hlocs] at hB
  rw [← hH, ← hlocs]
  have hbl : k_bl f f c1 c2 a0 := k_bl_rf _ _ _ _
  refine q_ild_n cx dX12_readsNumbers_0 rfl (lv_at hl 2 rfl) ?_
  refine q_ifne (tgt := 14) cx ⟨by decide, by decide⟩ dX12_readsNumbers_1 (by decide) (fun c151 => ?_) (fun c151 => ?_)
  · refine q_ild_n cx dX12_readsNumbers_14 rfl (lv_at hl 2 rfl) ?_
    refine q_iconst cx dX12_readsNumbers_15 ?_
    refine q_iclt (tgt := 34) cx ⟨by decide, by decide⟩ ⟨by decide, by decide⟩ dX12_readsNumbers_16 (by decide) (fun c152 => ?_) (fun c152 => ?_)
    · exact absurd c152 (by omega)
    · refine q_ild_n cx dX12_readsNumbers_19 rfl (lv_at hl 2 rfl) ?_
      refine q_iconst cx dX12_readsNumbers_20 ?_
      refine q_icgt (tgt := 34) cx ⟨by decide, by decide⟩ ⟨by decide, by decide⟩ dX12_readsNumbers_21 (by decide) (fun c153 => ?_) (fun c153 => ?_)
      · exact absurd c153 (by omega)
      · refine q_ald_n cx dX12_readsNumbers_24 rfl (lv_at hl 0 rfl) ?_
        refine q_gX12_54 cx hB hmo kmo hr3 dX12_readsNumbers_25 (fun hb154 kb154 => ?_)
        refine q_ild_n cx dX12_readsNumbers_28 rfl (lv_at hl 1 rfl) ?_
        refine q_ald_n cx dX12_readsNumbers_29 rfl (lv_at hl 0 rfl) ?_
        refine q_cVi (As := []) (rest := [.int (q_i a0), .ref c1]) cx hB (fun _ h => h) hN hmo kmo (by decide) rfl (r_told0 l g hN hB.2.1 mo hmo kmo sr hsr ksr nm hnm knm bu hbu kbu xp (by omega) (by omega) hf0 hf1 hr0 hr1 hr2) q_cX12_213 q_dX12_told (by decide) rfl rfl hl.1 rfl (Nat.le_of_ble_eq_true rfl) dX12_readsNumbers_30 (fun y156 H locs f155 ry156 h157 hF hB => ?_)
        rcases h157 with h158 | h159
        · obtain ⟨ly156, uy156, z160, t161, t162⟩ := h158
          have z163 : q_ir (q_r f155 mo 13) sr := Eq.trans (hF.r hmo (by rw [kmo]; rfl)) hr0
          have z164 : q_ir (q_r f155 mo 18) nm := Eq.trans (hF.r hmo (by rw [kmo]; rfl)) hr1
          have z165 : q_ir (q_r f155 mo 1) bu := Eq.trans (hF.r hmo (by rw [kmo]; rfl)) hr2
          have z166 : q_ir (q_r f155 mo 30) c1 := Eq.trans (hF.r hmo (by rw [kmo]; rfl)) hr3
          have z167 : q_ir (q_r f155 mo 31) c2 := Eq.trans (hF.r hmo (by rw [kmo]; rfl)) hr4
          have z168 : q_ir (q_r f155 mo 32) c3 := Eq.trans (hF.r hmo (by rw [kmo]; rfl)) hr5
          have g169 : k_bl f f155 c1 c2 a0 := k_bl_tr hbl (fun i9 => hF.z hc1 (by rw [kc1]; rfl)) (fun i9 => hF.z hc2 (by rw [kc2]; rfl))
          obtain ⟨x170, ex170⟩ : ∃ zz, q_is (q_z f155 mo 4) zz := ⟨_, q_isr _⟩
          obtain ⟨lx170, ux170⟩ := q_isb ex170 (q_fib hB.2.1 hmo kmo (by decide) rfl)
          obtain ⟨x171, ex171⟩ : ∃ zz, q_is (q_z f155 mo 6) zz := ⟨_, q_isr _⟩
          obtain ⟨lx171, ux171⟩ := q_isb ex171 (q_fib hB.2.1 hmo kmo (by decide) rfl)
          replace t161 := q_isl9 ex170 t161
          replace t162 := k_po_si ex171 ex170 t162
          refine q_iast (lo := (-2147483648)) (hi := 2147483647) (n := 60) cx hB hc1 kc1 (by decide) rfl rfl (by omega) (by omega) (by decide) rfl ⟨by omega, by omega⟩ (by omega) (by omega) (q_inWi (lo := 0) (hi := 58) (by decide) (by omega) (by omega)) dX12_readsNumbers_33 (fun H locs f172 ef172 z173 hB => ?_)
          have z174 : q_is (q_z f172 mo 8) 0 := by rw [ef172, q_setz (Or.inl (fun q => by rw [q, kc1] at kmo; exact absurd kmo (by decide)))]; exact z160
          have z175 : q_is (q_z f172 mo 4) x170 := by rw [ef172, q_setz (Or.inl (fun q => by rw [q, kc1] at kmo; exact absurd kmo (by decide)))]; exact ex170
          have z176 : q_is (q_z f172 mo 6) x171 := by rw [ef172, q_setz (Or.inl (fun q => by rw [q, kc1] at kmo; exact absurd kmo (by decide)))]; exact ex171
          have z177 : q_ir (q_r f172 mo 13) sr := by rw [ef172, q_setr (Or.inl (fun q => by rw [q, kc1] at kmo; exact absurd kmo (by decide)))]; exact z163
          have z178 : q_ir (q_r f172 mo 18) nm := by rw [ef172, q_setr (Or.inl (fun q => by rw [q, kc1] at kmo; exact absurd kmo (by decide)))]; exact z164
          have z179 : q_ir (q_r f172 mo 1) bu := by rw [ef172, q_setr (Or.inl (fun q => by rw [q, kc1] at kmo; exact absurd kmo (by decide)))]; exact z165
          have z180 : q_ir (q_r f172 mo 30) c1 := by rw [ef172, q_setr (Or.inl (fun q => by rw [q, kc1] at kmo; exact absurd kmo (by decide)))]; exact z166
          have z181 : q_ir (q_r f172 mo 31) c2 := by rw [ef172, q_setr (Or.inl (fun q => by rw [q, kc1] at kmo; exact absurd kmo (by decide)))]; exact z167
          have z182 : q_ir (q_r f172 mo 32) c3 := by rw [ef172, q_setr (Or.inl (fun q => by rw [q, kc1] at kmo; exact absurd kmo (by decide)))]; exact z168
          have g183 : k_bl f f172 c1 c2 a0 := k_bl_s1 g169 ef172 (by omega) (fun q => q_kne (k := 163) (k2 := 162) (by decide) kc2 kc1 q)
          refine q_ild_n cx dX12_readsNumbers_34 rfl (lv_at hl 2 rfl) ?_
          refine q_iconst cx dX12_readsNumbers_35 ?_
          refine q_iceq (tgt := 44) cx ⟨by decide, by decide⟩ ⟨by decide, by decide⟩ dX12_readsNumbers_36 (by decide) (fun c184 => ?_) (fun c184 => ?_)
          · exact absurd c184 (by omega)
          · refine q_ild_n cx dX12_readsNumbers_39 rfl (lv_at hl 2 rfl) ?_
            refine q_iconst cx dX12_readsNumbers_40 ?_
            refine q_icne (tgt := 54) cx ⟨by decide, by decide⟩ ⟨by decide, by decide⟩ dX12_readsNumbers_41 (by decide) (fun c185 => ?_) (fun c185 => ?_)
            · refine q_ild_n cx dX12_readsNumbers_54 rfl (lv_at hl 2 rfl) ?_
              refine q_iconst cx dX12_readsNumbers_55 ?_
              refine q_iclt (tgt := 74) cx ⟨by decide, by decide⟩ ⟨by decide, by decide⟩ dX12_readsNumbers_56 (by decide) (fun c186 => ?_) (fun c186 => ?_)
              · exact absurd c186 (by omega)
              · refine q_ild_n cx dX12_readsNumbers_59 rfl (lv_at hl 2 rfl) ?_
                refine q_iconst cx dX12_readsNumbers_60 ?_
                refine q_icgt (tgt := 74) cx ⟨by decide, by decide⟩ ⟨by decide, by decide⟩ dX12_readsNumbers_61 (by decide) (fun c187 => ?_) (fun c187 => ?_)
                · exact absurd c187 (by omega)
                · refine q_ald_n cx dX12_readsNumbers_64 rfl (lv_at hl 0 rfl) ?_
                  refine q_gX12_57 cx hB hmo kmo z181 dX12_readsNumbers_65 (fun hb188 kb188 => ?_)
                  refine q_ild_n cx dX12_readsNumbers_68 rfl (lv_at hl 1 rfl) ?_
                  refine q_ald_n cx dX12_readsNumbers_69 rfl (lv_at hl 0 rfl) ?_
                  refine q_cVi (As := []) (rest := [.int (q_i a0), .ref c2]) cx hB (fun _ h => h) hN hmo kmo (by decide) rfl (r_any0 l g hN hB.2.1 mo hmo kmo bu hbu kbu x170 (by omega) (by omega) z174 z175 z179) q_cX12_482 q_dX12_any (by decide) rfl rfl hl.1 rfl (Nat.le_of_ble_eq_true rfl) dX12_readsNumbers_70 (fun y190 H locs f189 ry190 h191 hF hB => ?_)
                  rcases h191 with h192 | h193
                  · obtain ⟨ly190, uy190, z194, t195, t196⟩ := h192
                    have z197 : q_is (q_z f189 c1 (Int.toNat a0)) y156 := Eq.trans (hF.z hc1 (by rw [kc1]; rfl)) z173
                    have z198 : q_ir (q_r f189 mo 13) sr := Eq.trans (hF.r hmo (by rw [kmo]; rfl)) z177
                    have z199 : q_ir (q_r f189 mo 18) nm := Eq.trans (hF.r hmo (by rw [kmo]; rfl)) z178
                    have z200 : q_ir (q_r f189 mo 1) bu := Eq.trans (hF.r hmo (by rw [kmo]; rfl)) z179
                    have z201 : q_ir (q_r f189 mo 30) c1 := Eq.trans (hF.r hmo (by rw [kmo]; rfl)) z180
                    have z202 : q_ir (q_r f189 mo 31) c2 := Eq.trans (hF.r hmo (by rw [kmo]; rfl)) z181
                    have z203 : q_ir (q_r f189 mo 32) c3 := Eq.trans (hF.r hmo (by rw [kmo]; rfl)) z182
                    have g204 : k_bl f f189 c1 c2 a0 := k_bl_tr g183 (fun i9 => hF.z hc1 (by rw [kc1]; rfl)) (fun i9 => hF.z hc2 (by rw [kc2]; rfl))
                    obtain ⟨x205, ex205⟩ : ∃ zz, q_is (q_z f189 mo 4) zz := ⟨_, q_isr _⟩
                    obtain ⟨lx205, ux205⟩ := q_isb ex205 (q_fib hB.2.1 hmo kmo (by decide) rfl)
                    obtain ⟨x206, ex206⟩ : ∃ zz, q_is (q_z f189 mo 6) zz := ⟨_, q_isr _⟩
                    obtain ⟨lx206, ux206⟩ := q_isb ex206 (q_fib hB.2.1 hmo kmo (by decide) rfl)
                    replace t195 := q_isl9 ex205 t195
                    replace t196 := k_po_si ex206 ex205 t196
                    refine q_iast (lo := (-2147483648)) (hi := 2147483647) (n := 60) cx hB hc2 kc2 (by decide) rfl rfl (by omega) (by omega) (by decide) rfl ⟨by omega, by omega⟩ (by omega) (by omega) (q_inWi (lo := 0) (hi := 58) (by decide) (by omega) (by omega)) dX12_readsNumbers_73 (fun H locs f207 ef207 z208 hB => ?_)
                    have z209 : q_is (q_z f207 c1 (Int.toNat a0)) y156 := by rw [ef207, q_setz (Or.inl (fun q => by rw [q, kc2] at kc1; exact absurd kc1 (by decide)))]; exact z197
                    have z210 : q_is (q_z f207 mo 8) 0 := by rw [ef207, q_setz (Or.inl (fun q => by rw [q, kc2] at kmo; exact absurd kmo (by decide)))]; exact z194
                    have z211 : q_is (q_z f207 mo 4) x205 := by rw [ef207, q_setz (Or.inl (fun q => by rw [q, kc2] at kmo; exact absurd kmo (by decide)))]; exact ex205
                    have z212 : q_is (q_z f207 mo 6) x206 := by rw [ef207, q_setz (Or.inl (fun q => by rw [q, kc2] at kmo; exact absurd kmo (by decide)))]; exact ex206
                    have z213 : q_ir (q_r f207 mo 13) sr := by rw [ef207, q_setr (Or.inl (fun q => by rw [q, kc2] at kmo; exact absurd kmo (by decide)))]; exact z198
                    have z214 : q_ir (q_r f207 mo 18) nm := by rw [ef207, q_setr (Or.inl (fun q => by rw [q, kc2] at kmo; exact absurd kmo (by decide)))]; exact z199
                    have z215 : q_ir (q_r f207 mo 1) bu := by rw [ef207, q_setr (Or.inl (fun q => by rw [q, kc2] at kmo; exact absurd kmo (by decide)))]; exact z200
                    have z216 : q_ir (q_r f207 mo 30) c1 := by rw [ef207, q_setr (Or.inl (fun q => by rw [q, kc2] at kmo; exact absurd kmo (by decide)))]; exact z201
                    have z217 : q_ir (q_r f207 mo 31) c2 := by rw [ef207, q_setr (Or.inl (fun q => by rw [q, kc2] at kmo; exact absurd kmo (by decide)))]; exact z202
                    have z218 : q_ir (q_r f207 mo 32) c3 := by rw [ef207, q_setr (Or.inl (fun q => by rw [q, kc2] at kmo; exact absurd kmo (by decide)))]; exact z203
                    have g219 : k_bl f f207 c1 c2 a0 := k_bl_s2 g204 ef207 (by omega) (fun q => q_kne (k := 162) (k2 := 163) (by decide) kc1 kc2 q)
                    refine q_ild_n cx dX12_readsNumbers_74 rfl (lv_at hl 2 rfl) ?_
                    refine q_iconst cx dX12_readsNumbers_75 ?_
                    refine q_iceq (tgt := 84) cx ⟨by decide, by decide⟩ ⟨by decide, by decide⟩ dX12_readsNumbers_76 (by decide) (fun c220 => ?_) (fun c220 => ?_)
                    · exact absurd c220 (by omega)
                    · refine q_ild_n cx dX12_readsNumbers_79 rfl (lv_at hl 2 rfl) ?_
                      refine q_iconst cx dX12_readsNumbers_80 ?_
                      refine q_icne (tgt := 94) cx ⟨by decide, by decide⟩ ⟨by decide, by decide⟩ dX12_readsNumbers_81 (by decide) (fun c221 => ?_) (fun c221 => ?_)
                      · refine q_ild_n cx dX12_readsNumbers_94 rfl (lv_at hl 2 rfl) ?_
                        refine q_bipush cx dX12_readsNumbers_95 rfl ?_
                        refine q_icne (tgt := 113) cx ⟨by decide, by decide⟩ ⟨by decide, by decide⟩ dX12_readsNumbers_97 (by decide) (fun c222 => ?_) (fun c222 => ?_)
                        · refine q_ild_n cx dX12_readsNumbers_113 rfl (lv_at hl 2 rfl) ?_
                          refine q_bipush cx dX12_readsNumbers_114 rfl ?_
                          refine q_icne (tgt := 125) cx ⟨by decide, by decide⟩ ⟨by decide, by decide⟩ dX12_readsNumbers_116 (by decide) (fun c223 => ?_) (fun c223 => ?_)
                          · refine q_vret cx hr hlk hB dX12_readsNumbers_125 ?_
                            exact (Or.inl ⟨z210, (q_isl z211 (by omega)), (k_po_is z212 z211 (k_po_mono t196 (by omega))), (by have h70 : _ = _ := z209; have h71 : _ = _ := z208; unfold k_cc; omega), g219⟩)
                          · exact absurd c223 (by omega)
                        · exact absurd c222 (by omega)
                      · exact absurd c221 (by omega)
                  · obtain ⟨lz224, uz224⟩ := h193
                    have z225 : q_is (q_z f189 c1 (Int.toNat a0)) y156 := Eq.trans (hF.z hc1 (by rw [kc1]; rfl)) z173
                    have z226 : q_ir (q_r f189 mo 13) sr := Eq.trans (hF.r hmo (by rw [kmo]; rfl)) z177
                    have z227 : q_ir (q_r f189 mo 18) nm := Eq.trans (hF.r hmo (by rw [kmo]; rfl)) z178
                    have z228 : q_ir (q_r f189 mo 1) bu := Eq.trans (hF.r hmo (by rw [kmo]; rfl)) z179
                    have z229 : q_ir (q_r f189 mo 30) c1 := Eq.trans (hF.r hmo (by rw [kmo]; rfl)) z180
                    have z230 : q_ir (q_r f189 mo 31) c2 := Eq.trans (hF.r hmo (by rw [kmo]; rfl)) z181
                    have z231 : q_ir (q_r f189 mo 32) c3 := Eq.trans (hF.r hmo (by rw [kmo]; rfl)) z182
                    have g232 : k_bl f f189 c1 c2 a0 := k_bl_tr g183 (fun i9 => hF.z hc1 (by rw [kc1]; rfl)) (fun i9 => hF.z hc2 (by rw [kc2]; rfl))
                    obtain ⟨x233, ex233⟩ : ∃ zz, q_is (q_z f189 mo 8) zz := ⟨_, q_isr _⟩
                    obtain ⟨lx233, ux233⟩ := q_isb ex233 ⟨lz224, uz224⟩
                    obtain ⟨x234, ex234⟩ : ∃ zz, q_is (q_z f189 mo 4) zz := ⟨_, q_isr _⟩
                    obtain ⟨lx234, ux234⟩ := q_isb ex234 (q_fib hB.2.1 hmo kmo (by decide) rfl)
                    obtain ⟨x235, ex235⟩ : ∃ zz, q_is (q_z f189 mo 6) zz := ⟨_, q_isr _⟩
                    obtain ⟨lx235, ux235⟩ := q_isb ex235 (q_fib hB.2.1 hmo kmo (by decide) rfl)
                    refine q_iast (lo := (-2147483648)) (hi := 2147483647) (n := 60) cx hB hc2 kc2 (by decide) rfl rfl (by omega) (by omega) (by decide) rfl ⟨by omega, by omega⟩ (by omega) (by omega) (q_inWi (lo := 0) (hi := 58) (by decide) (by omega) (by omega)) dX12_readsNumbers_73 (fun H locs f236 ef236 z237 hB => ?_)
                    have z238 : q_is (q_z f236 c1 (Int.toNat a0)) y156 := by rw [ef236, q_setz (Or.inl (fun q => by rw [q, kc2] at kc1; exact absurd kc1 (by decide)))]; exact z225
                    have z239 : q_is (q_z f236 mo 8) x233 := by rw [ef236, q_setz (Or.inl (fun q => by rw [q, kc2] at kmo; exact absurd kmo (by decide)))]; exact ex233
                    have z240 : q_is (q_z f236 mo 4) x234 := by rw [ef236, q_setz (Or.inl (fun q => by rw [q, kc2] at kmo; exact absurd kmo (by decide)))]; exact ex234
                    have z241 : q_is (q_z f236 mo 6) x235 := by rw [ef236, q_setz (Or.inl (fun q => by rw [q, kc2] at kmo; exact absurd kmo (by decide)))]; exact ex235
                    have z242 : q_ir (q_r f236 mo 13) sr := by rw [ef236, q_setr (Or.inl (fun q => by rw [q, kc2] at kmo; exact absurd kmo (by decide)))]; exact z226
                    have z243 : q_ir (q_r f236 mo 18) nm := by rw [ef236, q_setr (Or.inl (fun q => by rw [q, kc2] at kmo; exact absurd kmo (by decide)))]; exact z227
                    have z244 : q_ir (q_r f236 mo 1) bu := by rw [ef236, q_setr (Or.inl (fun q => by rw [q, kc2] at kmo; exact absurd kmo (by decide)))]; exact z228
                    have z245 : q_ir (q_r f236 mo 30) c1 := by rw [ef236, q_setr (Or.inl (fun q => by rw [q, kc2] at kmo; exact absurd kmo (by decide)))]; exact z229
                    have z246 : q_ir (q_r f236 mo 31) c2 := by rw [ef236, q_setr (Or.inl (fun q => by rw [q, kc2] at kmo; exact absurd kmo (by decide)))]; exact z230
                    have z247 : q_ir (q_r f236 mo 32) c3 := by rw [ef236, q_setr (Or.inl (fun q => by rw [q, kc2] at kmo; exact absurd kmo (by decide)))]; exact z231
                    have g248 : k_bl f f236 c1 c2 a0 := k_bl_s2 g232 ef236 (by omega) (fun q => q_kne (k := 162) (k2 := 163) (by decide) kc1 kc2 q)
                    refine q_ild_n cx dX12_readsNumbers_74 rfl (lv_at hl 2 rfl) ?_
                    refine q_iconst cx dX12_readsNumbers_75 ?_
                    refine q_iceq (tgt := 84) cx ⟨by decide, by decide⟩ ⟨by decide, by decide⟩ dX12_readsNumbers_76 (by decide) (fun c249 => ?_) (fun c249 => ?_)
                    · exact absurd c249 (by omega)
                    · refine q_ild_n cx dX12_readsNumbers_79 rfl (lv_at hl 2 rfl) ?_
                      refine q_iconst cx dX12_readsNumbers_80 ?_
                      refine q_icne (tgt := 94) cx ⟨by decide, by decide⟩ ⟨by decide, by decide⟩ dX12_readsNumbers_81 (by decide) (fun c250 => ?_) (fun c250 => ?_)
                      · refine q_ild_n cx dX12_readsNumbers_94 rfl (lv_at hl 2 rfl) ?_
                        refine q_bipush cx dX12_readsNumbers_95 rfl ?_
                        refine q_icne (tgt := 113) cx ⟨by decide, by decide⟩ ⟨by decide, by decide⟩ dX12_readsNumbers_97 (by decide) (fun c251 => ?_) (fun c251 => ?_)
                        · refine q_ild_n cx dX12_readsNumbers_113 rfl (lv_at hl 2 rfl) ?_
                          refine q_bipush cx dX12_readsNumbers_114 rfl ?_
                          refine q_icne (tgt := 125) cx ⟨by decide, by decide⟩ ⟨by decide, by decide⟩ dX12_readsNumbers_116 (by decide) (fun c252 => ?_) (fun c252 => ?_)
                          · refine q_vret cx hr hlk hB dX12_readsNumbers_125 ?_
                            exact (Or.inr ⟨(q_isl z239 (by omega)), (q_isu z239 (by omega))⟩)
                          · exact absurd c252 (by omega)
                        · exact absurd c251 (by omega)
                      · exact absurd c250 (by omega)
            · exact absurd c185 (by omega)
        · obtain ⟨ly156, uy156, lz253, uz253⟩ := h159
          have z254 : q_ir (q_r f155 mo 13) sr := Eq.trans (hF.r hmo (by rw [kmo]; rfl)) hr0
          have z255 : q_ir (q_r f155 mo 18) nm := Eq.trans (hF.r hmo (by rw [kmo]; rfl)) hr1
          have z256 : q_ir (q_r f155 mo 1) bu := Eq.trans (hF.r hmo (by rw [kmo]; rfl)) hr2
          have z257 : q_ir (q_r f155 mo 30) c1 := Eq.trans (hF.r hmo (by rw [kmo]; rfl)) hr3
          have z258 : q_ir (q_r f155 mo 31) c2 := Eq.trans (hF.r hmo (by rw [kmo]; rfl)) hr4
          have z259 : q_ir (q_r f155 mo 32) c3 := Eq.trans (hF.r hmo (by rw [kmo]; rfl)) hr5
          have g260 : k_bl f f155 c1 c2 a0 := k_bl_tr hbl (fun i9 => hF.z hc1 (by rw [kc1]; rfl)) (fun i9 => hF.z hc2 (by rw [kc2]; rfl))
          obtain ⟨x261, ex261⟩ : ∃ zz, q_is (q_z f155 mo 8) zz := ⟨_, q_isr _⟩
          obtain ⟨lx261, ux261⟩ := q_isb ex261 ⟨lz253, uz253⟩
          obtain ⟨x262, ex262⟩ : ∃ zz, q_is (q_z f155 mo 4) zz := ⟨_, q_isr _⟩
          obtain ⟨lx262, ux262⟩ := q_isb ex262 (q_fib hB.2.1 hmo kmo (by decide) rfl)
          obtain ⟨x263, ex263⟩ : ∃ zz, q_is (q_z f155 mo 6) zz := ⟨_, q_isr _⟩
          obtain ⟨lx263, ux263⟩ := q_isb ex263 (q_fib hB.2.1 hmo kmo (by decide) rfl)
          refine q_iast (lo := (-2147483648)) (hi := 2147483647) (n := 60) cx hB hc1 kc1 (by decide) rfl rfl (by omega) (by omega) (by decide) rfl ⟨by omega, by omega⟩ (by omega) (by omega) (q_inWi (lo := 0) (hi := 58) (by decide) (by omega) (by omega)) dX12_readsNumbers_33 (fun H locs f264 ef264 z265 hB => ?_)
          have z266 : q_is (q_z f264 mo 8) x261 := by rw [ef264, q_setz (Or.inl (fun q => by rw [q, kc1] at kmo; exact absurd kmo (by decide)))]; exact ex261
          have z267 : q_is (q_z f264 mo 4) x262 := by rw [ef264, q_setz (Or.inl (fun q => by rw [q, kc1] at kmo; exact absurd kmo (by decide)))]; exact ex262
          have z268 : q_is (q_z f264 mo 6) x263 := by rw [ef264, q_setz (Or.inl (fun q => by rw [q, kc1] at kmo; exact absurd kmo (by decide)))]; exact ex263
          have z269 : q_ir (q_r f264 mo 13) sr := by rw [ef264, q_setr (Or.inl (fun q => by rw [q, kc1] at kmo; exact absurd kmo (by decide)))]; exact z254
          have z270 : q_ir (q_r f264 mo 18) nm := by rw [ef264, q_setr (Or.inl (fun q => by rw [q, kc1] at kmo; exact absurd kmo (by decide)))]; exact z255
          have z271 : q_ir (q_r f264 mo 1) bu := by rw [ef264, q_setr (Or.inl (fun q => by rw [q, kc1] at kmo; exact absurd kmo (by decide)))]; exact z256
          have z272 : q_ir (q_r f264 mo 30) c1 := by rw [ef264, q_setr (Or.inl (fun q => by rw [q, kc1] at kmo; exact absurd kmo (by decide)))]; exact z257
          have z273 : q_ir (q_r f264 mo 31) c2 := by rw [ef264, q_setr (Or.inl (fun q => by rw [q, kc1] at kmo; exact absurd kmo (by decide)))]; exact z258
          have z274 : q_ir (q_r f264 mo 32) c3 := by rw [ef264, q_setr (Or.inl (fun q => by rw [q, kc1] at kmo; exact absurd kmo (by decide)))]; exact z259
          have g275 : k_bl f f264 c1 c2 a0 := k_bl_s1 g260 ef264 (by omega) (fun q => q_kne (k := 163) (k2 := 162) (by decide) kc2 kc1 q)
          refine q_ild_n cx dX12_readsNumbers_34 rfl (lv_at hl 2 rfl) ?_
          refine q_iconst cx dX12_readsNumbers_35 ?_
          refine q_iceq (tgt := 44) cx ⟨by decide, by decide⟩ ⟨by decide, by decide⟩ dX12_readsNumbers_36 (by decide) (fun c276 => ?_) (fun c276 => ?_)
          · exact absurd c276 (by omega)
          · refine q_ild_n cx dX12_readsNumbers_39 rfl (lv_at hl 2 rfl) ?_
            refine q_iconst cx dX12_readsNumbers_40 ?_
            refine q_icne (tgt := 54) cx ⟨by decide, by decide⟩ ⟨by decide, by decide⟩ dX12_readsNumbers_41 (by decide) (fun c277 => ?_) (fun c277 => ?_)
            · refine q_ild_n cx dX12_readsNumbers_54 rfl (lv_at hl 2 rfl) ?_
              refine q_iconst cx dX12_readsNumbers_55 ?_
              refine q_iclt (tgt := 74) cx ⟨by decide, by decide⟩ ⟨by decide, by decide⟩ dX12_readsNumbers_56 (by decide) (fun c278 => ?_) (fun c278 => ?_)
              · exact absurd c278 (by omega)
              · refine q_ild_n cx dX12_readsNumbers_59 rfl (lv_at hl 2 rfl) ?_
                refine q_iconst cx dX12_readsNumbers_60 ?_
                refine q_icgt (tgt := 74) cx ⟨by decide, by decide⟩ ⟨by decide, by decide⟩ dX12_readsNumbers_61 (by decide) (fun c279 => ?_) (fun c279 => ?_)
                · exact absurd c279 (by omega)
                · refine q_ald_n cx dX12_readsNumbers_64 rfl (lv_at hl 0 rfl) ?_
                  refine q_gX12_57 cx hB hmo kmo z273 dX12_readsNumbers_65 (fun hb280 kb280 => ?_)
                  refine q_ild_n cx dX12_readsNumbers_68 rfl (lv_at hl 1 rfl) ?_
                  refine q_ald_n cx dX12_readsNumbers_69 rfl (lv_at hl 0 rfl) ?_
                  refine q_cVi (As := []) (rest := [.int (q_i a0), .ref c2]) cx hB (fun _ h => h) hN hmo kmo (by decide) rfl (r_any1 l g hN hB.2.1 mo hmo kmo x261 (by omega) (by omega) z266) q_cX12_482 q_dX12_any (by decide) rfl rfl hl.1 rfl (Nat.le_of_ble_eq_true rfl) dX12_readsNumbers_70 (fun y282 H locs f281 ry282 h283 hF hB => ?_)
                  obtain rfl := h283
                  refine q_iast (lo := (-2147483648)) (hi := 2147483647) (n := 60) cx hB hc2 kc2 (by decide) rfl rfl (by omega) (by omega) (by decide) rfl ⟨by omega, by omega⟩ (by omega) (by omega) (q_inWi (lo := 0) (hi := 58) (by decide) (by omega) (by omega)) dX12_readsNumbers_73 (fun H locs f284 ef284 z285 hB => ?_)
                  have z286 : q_is (q_z f284 mo 8) x261 := by rw [ef284, q_setz (Or.inl (fun q => by rw [q, kc2] at kmo; exact absurd kmo (by decide)))]; exact z266
                  have z287 : q_is (q_z f284 mo 4) x262 := by rw [ef284, q_setz (Or.inl (fun q => by rw [q, kc2] at kmo; exact absurd kmo (by decide)))]; exact z267
                  have z288 : q_is (q_z f284 mo 6) x263 := by rw [ef284, q_setz (Or.inl (fun q => by rw [q, kc2] at kmo; exact absurd kmo (by decide)))]; exact z268
                  have z289 : q_is (q_z f284 c1 (Int.toNat a0)) y156 := by rw [ef284, q_setz (Or.inl (fun q => by rw [q, kc2] at kc1; exact absurd kc1 (by decide)))]; exact z265
                  have z290 : q_ir (q_r f284 mo 13) sr := by rw [ef284, q_setr (Or.inl (fun q => by rw [q, kc2] at kmo; exact absurd kmo (by decide)))]; exact z269
                  have z291 : q_ir (q_r f284 mo 18) nm := by rw [ef284, q_setr (Or.inl (fun q => by rw [q, kc2] at kmo; exact absurd kmo (by decide)))]; exact z270
                  have z292 : q_ir (q_r f284 mo 1) bu := by rw [ef284, q_setr (Or.inl (fun q => by rw [q, kc2] at kmo; exact absurd kmo (by decide)))]; exact z271
                  have z293 : q_ir (q_r f284 mo 30) c1 := by rw [ef284, q_setr (Or.inl (fun q => by rw [q, kc2] at kmo; exact absurd kmo (by decide)))]; exact z272
                  have z294 : q_ir (q_r f284 mo 31) c2 := by rw [ef284, q_setr (Or.inl (fun q => by rw [q, kc2] at kmo; exact absurd kmo (by decide)))]; exact z273
                  have z295 : q_ir (q_r f284 mo 32) c3 := by rw [ef284, q_setr (Or.inl (fun q => by rw [q, kc2] at kmo; exact absurd kmo (by decide)))]; exact z274
                  have g296 : k_bl f f284 c1 c2 a0 := k_bl_s2 g275 ef284 (by omega) (fun q => q_kne (k := 162) (k2 := 163) (by decide) kc1 kc2 q)
                  refine q_ild_n cx dX12_readsNumbers_74 rfl (lv_at hl 2 rfl) ?_
                  refine q_iconst cx dX12_readsNumbers_75 ?_
                  refine q_iceq (tgt := 84) cx ⟨by decide, by decide⟩ ⟨by decide, by decide⟩ dX12_readsNumbers_76 (by decide) (fun c297 => ?_) (fun c297 => ?_)
                  · exact absurd c297 (by omega)
                  · refine q_ild_n cx dX12_readsNumbers_79 rfl (lv_at hl 2 rfl) ?_
                    refine q_iconst cx dX12_readsNumbers_80 ?_
                    refine q_icne (tgt := 94) cx ⟨by decide, by decide⟩ ⟨by decide, by decide⟩ dX12_readsNumbers_81 (by decide) (fun c298 => ?_) (fun c298 => ?_)
                    · refine q_ild_n cx dX12_readsNumbers_94 rfl (lv_at hl 2 rfl) ?_
                      refine q_bipush cx dX12_readsNumbers_95 rfl ?_
                      refine q_icne (tgt := 113) cx ⟨by decide, by decide⟩ ⟨by decide, by decide⟩ dX12_readsNumbers_97 (by decide) (fun c299 => ?_) (fun c299 => ?_)
                      · refine q_ild_n cx dX12_readsNumbers_113 rfl (lv_at hl 2 rfl) ?_
                        refine q_bipush cx dX12_readsNumbers_114 rfl ?_
                        refine q_icne (tgt := 125) cx ⟨by decide, by decide⟩ ⟨by decide, by decide⟩ dX12_readsNumbers_116 (by decide) (fun c300 => ?_) (fun c300 => ?_)
                        · refine q_vret cx hr hlk hB dX12_readsNumbers_125 ?_
                          exact (Or.inr ⟨(q_isl z286 (by omega)), (q_isu z286 (by omega))⟩)
                        · exact absurd c300 (by omega)
                      · exact absurd c299 (by omega)
                    · exact absurd c298 (by omega)
            · exact absurd c277 (by omega)
  · exact absurd c151 (by omega)
