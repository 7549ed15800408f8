set_option maxHeartbeats 4000000 in
set_option maxRecDepth 100000 in
theorem r_closes0 (l : Launch) (g : q_G) {K : Nat → Nat} {L : List Nat} (hN : L.Nodup) {f : Nat → va_E} (hT : q_Ty g K L f) (mo : Nat) (hmo : mo ∈ L) (kmo : K mo = 12) (bu : Nat) (hbu : bu ∈ L) (kbu : K bu = 150) (cs : Nat) (hcs : cs ∈ L) (kcs : K cs = 161) (c1 : Nat) (hc1 : c1 ∈ L) (kc1 : K c1 = 162) (c2 : Nat) (hc2 : c2 ∈ L) (kc2 : K c2 = 163) (xp : Int) (lxp : 0 ≤ xp) (uxp : xp ≤ 600) (xo : Int) (lxo : 0 ≤ xo) (uxo : xo ≤ 3) (hf0 : q_is (q_z f mo 8) 0) (hf1 : q_is (q_z f mo 4) xp) (hf2 : q_is (q_z f mo 37) xo) (hr0 : q_ir (q_r f mo 1) bu) (hr1 : q_ir (q_r f mo 29) cs) (hr2 : q_ir (q_r f mo 30) c1) (hr3 : q_ir (q_r f mo 31) c2) (hsc : q_sc f mo cs c1 c2) : q_Ct l g K L yX12_closes cX12_closes 1 none 3 64 [.ref mo] f [(12, 4, 9), (12, 12, 12), (12, 35, 35), (12, 37, 37), (161, 0, 59)] (q_Pv (fun (f1 : Nat → va_E) => (q_is (q_z f1 mo 8) 0 ∧ (xp ≤ q_z f1 mo 4) ∧ (q_sc f1 mo cs c1 c2)) ∨ (1 ≤ q_z f1 mo 8 ∧ q_z f1 mo 8 ≤ 5))) := by
  refine q_ofb (by decide +kernel) hN hT (Nat.le_of_ble_eq_true rfl) ?_
  intro p e s m below meth c ls cx hr hlk hB hl
  have hl : lv_has ls 1 [(0, .ref mo)] := hl
  have J0 : ∀ (n : Nat) (f0 : Nat → va_E) (w0_mo_37 : Int) (lw0_mo_37 : 0 ≤ w0_mo_37) (uw0_mo_37 : w0_mo_37 ≤ 3) (w0_mo_8 : Int) (lw0_mo_8 : 0 ≤ w0_mo_8) (uw0_mo_8 : w0_mo_8 ≤ 0) (w0_mo_4 : Int) (lw0_mo_4 : 0 ≤ w0_mo_4) (uw0_mo_4 : w0_mo_4 ≤ 600) (hj_mo_37 : q_is (q_z f0 mo 37) w0_mo_37) (hj_mo_8 : q_is (q_z f0 mo 8) w0_mo_8) (hj_mo_4 : q_is (q_z f0 mo 4) w0_mo_4) (hq_mo_1 : q_ir (q_r f0 mo 1) bu) (hq_mo_29 : q_ir (q_r f0 mo 29) cs) (hq_mo_30 : q_ir (q_r f0 mo 30) c1) (hq_mo_31 : q_ir (q_r f0 mo 31) c2) (hsc0 : q_sc f0 mo cs c1 c2) (hrl0_0 : 0 ≤ 1 * w0_mo_4 + -1 * xp + 0) (hmu : (Int.toNat (w0_mo_37)) < n) (H : Heap) (locs : List Loc) (hB : q_B g K L (fun q => q ∈ L) [(12, 4, 9), (12, 12, 12), (12, 35, 35), (12, 37, 37), (161, 0, 59)] f f0 s H locs) (ls : Array Slot) (hl : lv_has ls 1 [(0, .ref mo)]), W p l e { frames := 3, cells := 0, slots := 0, locals := 64 } s m ([.ref mo] : List Value).toArray below meth c H locs 0 0 (MQ below (q_Q g K L [(12, 4, 9), (12, 12, 12), (12, 35, 35), (12, 37, 37), (161, 0, 59)] f (q_Pv (fun (f1 : Nat → va_E) => (q_is (q_z f1 mo 8) 0 ∧ (xp ≤ q_z f1 mo 4) ∧ (q_sc f1 mo cs c1 c2)) ∨ (1 ≤ q_z f1 mo 8 ∧ q_z f1 mo 8 ≤ 5)))) ([.ref mo] : List Value).toArray s 0 0 (fun q => q ∈ L)) (F0 m 0 ls []) := by
    intro n
    induction n with
    | zero =>
      intro f0 w0_mo_37 lw0_mo_37 uw0_mo_37 w0_mo_8 lw0_mo_8 uw0_mo_8 w0_mo_4 lw0_mo_4 uw0_mo_4 hj_mo_37 hj_mo_8 hj_mo_4 hq_mo_1 hq_mo_29 hq_mo_30 hq_mo_31 hsc0 hrl0_0 hmu
      exact absurd hmu (Nat.not_lt_zero _)
    | succ n ih0 =>
      intro f0 w0_mo_37 lw0_mo_37 uw0_mo_37 w0_mo_8 lw0_mo_8 uw0_mo_8 w0_mo_4 lw0_mo_4 uw0_mo_4 hj_mo_37 hj_mo_8 hj_mo_4 hq_mo_1 hq_mo_29 hq_mo_30 hq_mo_31 hsc0 hrl0_0 hmu H locs hB ls hl
      refine q_ald_n cx dX12_closes_0 rfl (lv_at hl 0 rfl) ?_
      refine q_gX12_488 cx hB hmo kmo hj_mo_37 dX12_closes_1 (fun lb229 ub229 => ?_)
      refine q_ifle (tgt := 60) cx ⟨by omega, by omega⟩ dX12_closes_4 (by decide) (fun c230 => ?_) (fun c230 => ?_)
      · refine q_vret cx hr hlk hB dX12_closes_60 ?_
        exact (Or.inl ⟨(Eq.trans hj_mo_8 (by omega)), (q_isl hj_mo_4 (by omega)), hsc0⟩)
      · refine q_ald_n cx dX12_closes_7 rfl (lv_at hl 0 rfl) ?_
        refine q_bipush cx dX12_closes_8 rfl ?_
        refine q_cVi (As := [.int (q_i 41)]) (rest := []) cx hB (fun _ h => h) hN hmo kmo (by decide) rfl (r_isSign0 l g hN hB.2.1 mo hmo kmo 41 (by decide) (by decide) (Eq.trans hj_mo_8 (by omega))) q_cX12_134 q_dX12_isSign (by decide) rfl rfl hl.1 rfl (Nat.le_of_ble_eq_true rfl) dX12_closes_10 (fun y232 H locs f231 ry232 h233 hF hB => ?_)
        rcases h233 with h234 | h235
        · obtain ⟨rfl, qy232, t236⟩ := h234
          subst qy232
          refine q_ifeq (tgt := 60) cx ⟨by decide, by decide⟩ dX12_closes_13 (by decide) (fun c237 => ?_) (fun c237 => ?_)
          · exact absurd c237 (by omega)
          · obtain ⟨x238, ex238⟩ : ∃ zz, q_is (q_z f0 mo 35) zz := ⟨_, q_isr _⟩
            obtain ⟨lx238, ux238⟩ := q_isb ex238 (q_fib hB.2.1 hmo kmo (by decide) rfl)
            obtain ⟨x239, ex239⟩ : ∃ zz, q_is (q_z f0 mo 36) zz := ⟨_, q_isr _⟩
            obtain ⟨lx239, ux239⟩ := q_isb ex239 (q_fib hB.2.1 hmo kmo (by decide) rfl)
            have hq0 : x238 + w0_mo_37 ≤ 2 * x239 := by have h7 := hsc0.2.2.2; have h70 : _ = _ := ex238; have h71 : _ = _ := ex239; have h72 : _ = _ := hj_mo_37; omega
            have hbx : k_bl f0 f0 c1 c2 60 := k_bl_rf _ _ _ _
            have hbs : k_b1 f0 f0 cs x238 := k_b1_rf _ _ _
            refine q_ald_n cx dX12_closes_16 rfl (lv_at hl 0 rfl) ?_
            refine lv_dup cx.1 cx.2.1 dX12_closes_17 rfl ?_
            refine q_gX12_488 cx hB hmo kmo hj_mo_37 dX12_closes_18 (fun lb240 ub240 => ?_)
            refine q_iconst cx dX12_closes_21 ?_
            refine q_isub cx dX12_closes_22 ?_
            refine q_pX12_488 cx hB hmo kmo ⟨by omega, by omega⟩ (by omega) (by omega) rfl dX12_closes_23 (fun H locs f241 ef241 z242 hB => ?_)
            have z243 : q_is (q_z f241 mo 8) w0_mo_8 := by rw [ef241, q_setz (Or.inr (by decide))]; exact hj_mo_8
            have z244 : q_is (q_z f241 mo 4) w0_mo_4 := by rw [ef241, q_setz (Or.inr (by decide))]; exact hj_mo_4
            have z245 : q_is (q_z f241 mo 35) x238 := by rw [ef241, q_setz (Or.inr (by decide))]; exact ex238
            have z246 : q_is (q_z f241 mo 36) x239 := by rw [ef241, q_setz (Or.inr (by decide))]; exact ex239
            have z247 : q_ir (q_r f241 mo 1) bu := by rw [ef241, q_setr (Or.inr (by decide))]; exact hq_mo_1
            have z248 : q_ir (q_r f241 mo 29) cs := by rw [ef241, q_setr (Or.inr (by decide))]; exact hq_mo_29
            have z249 : q_ir (q_r f241 mo 30) c1 := by rw [ef241, q_setr (Or.inr (by decide))]; exact hq_mo_30
            have z250 : q_ir (q_r f241 mo 31) c2 := by rw [ef241, q_setr (Or.inr (by decide))]; exact hq_mo_31
            have g251 : k_bl f0 f241 c1 c2 60 := k_bl_tr hbx (fun i9 => by rw [ef241, q_setz (Or.inl (fun q => by rw [q, kmo] at kc1; exact absurd kc1 (by decide)))]) (fun i9 => by rw [ef241, q_setz (Or.inl (fun q => by rw [q, kmo] at kc2; exact absurd kc2 (by decide)))])
            have g252 : k_b1 f0 f241 cs x238 := k_b1_tr hbs (fun i9 => by rw [ef241, q_setz (Or.inl (fun q => by rw [q, kmo] at kcs; exact absurd kcs (by decide)))])
            refine q_ald_n cx dX12_closes_26 rfl (lv_at hl 0 rfl) ?_
            refine q_gX12_51 cx hB hmo kmo z248 dX12_closes_27 (fun hb253 kb253 => ?_)
            refine q_ald_n cx dX12_closes_30 rfl (lv_at hl 0 rfl) ?_
            refine q_gX12_494 cx hB hmo kmo z245 dX12_closes_31 (fun lb254 ub254 => ?_)
            refine q_bipush cx dX12_closes_34 rfl ?_
            refine q_iast (lo := 0) (hi := 7) (n := 60) cx hB hcs kcs (by decide) rfl rfl (by omega) (by omega) (by decide) rfl ⟨by decide, by decide⟩ (by decide) (by decide) (q_inWi (lo := 0) (hi := 59) (by decide) (by omega) (by omega)) dX12_closes_36 (fun H locs f255 ef255 z256 hB => ?_)
            have z257 : q_is (q_z f255 mo 8) w0_mo_8 := by rw [ef255, q_setz (Or.inl (fun q => by rw [q, kcs] at kmo; exact absurd kmo (by decide)))]; exact z243
            have z258 : q_is (q_z f255 mo 4) w0_mo_4 := by rw [ef255, q_setz (Or.inl (fun q => by rw [q, kcs] at kmo; exact absurd kmo (by decide)))]; exact z244
            have z259 : q_is (q_z f255 mo 35) x238 := by rw [ef255, q_setz (Or.inl (fun q => by rw [q, kcs] at kmo; exact absurd kmo (by decide)))]; exact z245
            have z260 : q_is (q_z f255 mo 36) x239 := by rw [ef255, q_setz (Or.inl (fun q => by rw [q, kcs] at kmo; exact absurd kmo (by decide)))]; exact z246
            have z261 : q_is (q_z f255 mo 37) (w0_mo_37 - 1) := by rw [ef255, q_setz (Or.inl (fun q => by rw [q, kcs] at kmo; exact absurd kmo (by decide)))]; exact z242
            have z262 : q_ir (q_r f255 mo 1) bu := by rw [ef255, q_setr (Or.inl (fun q => by rw [q, kcs] at kmo; exact absurd kmo (by decide)))]; exact z247
            have z263 : q_ir (q_r f255 mo 29) cs := by rw [ef255, q_setr (Or.inl (fun q => by rw [q, kcs] at kmo; exact absurd kmo (by decide)))]; exact z248
            have z264 : q_ir (q_r f255 mo 30) c1 := by rw [ef255, q_setr (Or.inl (fun q => by rw [q, kcs] at kmo; exact absurd kmo (by decide)))]; exact z249
            have z265 : q_ir (q_r f255 mo 31) c2 := by rw [ef255, q_setr (Or.inl (fun q => by rw [q, kcs] at kmo; exact absurd kmo (by decide)))]; exact z250
            have g266 : k_bl f0 f255 c1 c2 60 := k_bl_tr g251 (fun i9 => by rw [ef255, q_setz (Or.inl (fun q => by rw [q, kcs] at kc1; exact absurd kc1 (by decide)))]) (fun i9 => by rw [ef255, q_setz (Or.inl (fun q => by rw [q, kcs] at kc2; exact absurd kc2 (by decide)))])
            have g267 : k_b1 f0 f255 cs x238 := k_b1_s g252 ef255 (by omega)
            refine q_ald_n cx dX12_closes_37 rfl (lv_at hl 0 rfl) ?_
            refine lv_dup cx.1 cx.2.1 dX12_closes_38 rfl ?_
            refine q_gX12_494 cx hB hmo kmo z259 dX12_closes_39 (fun lb268 ub268 => ?_)
            refine q_iconst cx dX12_closes_42 ?_
            refine q_iadd cx dX12_closes_43 ?_
            refine q_pX12_494 cx hB hmo kmo ⟨by omega, by omega⟩ (by omega) (by omega) rfl dX12_closes_44 (fun H locs f269 ef269 z270 hB => ?_)
            have z271 : q_is (q_z f269 mo 8) w0_mo_8 := by rw [ef269, q_setz (Or.inr (by decide))]; exact z257
            have z272 : q_is (q_z f269 mo 4) w0_mo_4 := by rw [ef269, q_setz (Or.inr (by decide))]; exact z258
            have z273 : q_is (q_z f269 mo 36) x239 := by rw [ef269, q_setz (Or.inr (by decide))]; exact z260
            have z274 : q_is (q_z f269 mo 37) (w0_mo_37 - 1) := by rw [ef269, q_setz (Or.inr (by decide))]; exact z261
            have z275 : q_is (q_z f269 cs (Int.toNat x238)) 7 := by rw [ef269, q_setz (Or.inl (fun q => by rw [q, kmo] at kcs; exact absurd kcs (by decide)))]; exact z256
            have z276 : q_ir (q_r f269 mo 1) bu := by rw [ef269, q_setr (Or.inr (by decide))]; exact z262
            have z277 : q_ir (q_r f269 mo 29) cs := by rw [ef269, q_setr (Or.inr (by decide))]; exact z263
            have z278 : q_ir (q_r f269 mo 30) c1 := by rw [ef269, q_setr (Or.inr (by decide))]; exact z264
            have z279 : q_ir (q_r f269 mo 31) c2 := by rw [ef269, q_setr (Or.inr (by decide))]; exact z265
            have g280 : k_bl f0 f269 c1 c2 60 := k_bl_tr g266 (fun i9 => by rw [ef269, q_setz (Or.inl (fun q => by rw [q, kmo] at kc1; exact absurd kc1 (by decide)))]) (fun i9 => by rw [ef269, q_setz (Or.inl (fun q => by rw [q, kmo] at kc2; exact absurd kc2 (by decide)))])
            have g281 : k_b1 f0 f269 cs x238 := k_b1_tr g267 (fun i9 => by rw [ef269, q_setz (Or.inl (fun q => by rw [q, kmo] at kcs; exact absurd kcs (by decide)))])
            have hsc9 : q_sc f269 mo cs c1 c2 := k_sc_cl hsc0 ex238 hj_mo_37 ex239 z270 z273 z274 (by omega) z275 g281 g280 (by omega) (by omega)
            refine q_ald_n cx dX12_closes_47 rfl (lv_at hl 0 rfl) ?_
            obtain ⟨x282, ex282⟩ : ∃ zz, q_is (q_z f269 mo 3) zz := ⟨_, q_isr _⟩
            obtain ⟨lx282, ux282⟩ := q_isb ex282 (q_fib hB.2.1 hmo kmo (by decide) rfl)
            refine q_cVv (As := []) (rest := []) cx hB (fun _ h => h) hN hmo kmo (by decide) rfl (r_goOn l g hN hB.2.1 mo hmo kmo bu hbu kbu w0_mo_4 (by omega) (by omega) x282 (by omega) (by omega) z272 ex282 z276) q_cX12_140 q_dX12_goOn (by decide) rfl rfl hl.1 rfl (Nat.le_of_ble_eq_true rfl) dX12_closes_48 (fun H locs f283 h285 hF hB => ?_)
            obtain ⟨t286, t287⟩ := h285
            have z288 : q_is (q_z f283 mo 8) w0_mo_8 := Eq.trans (hF.z hmo (by rw [kmo]; rfl)) z271
            have z289 : q_is (q_z f283 mo 36) x239 := Eq.trans (hF.z hmo (by rw [kmo]; rfl)) z273
            have z290 : q_is (q_z f283 mo 37) (w0_mo_37 - 1) := Eq.trans (hF.z hmo (by rw [kmo]; rfl)) z274
            have z291 : q_is (q_z f283 cs (Int.toNat x238)) 7 := Eq.trans (hF.z hcs (by rw [kcs]; rfl)) z275
            have z292 : q_is (q_z f283 mo 35) (x238 + 1) := Eq.trans (hF.z hmo (by rw [kmo]; rfl)) z270
            have z293 : q_is (q_z f283 mo 3) x282 := Eq.trans (hF.z hmo (by rw [kmo]; rfl)) ex282
            have z294 : q_ir (q_r f283 mo 1) bu := Eq.trans (hF.r hmo (by rw [kmo]; rfl)) z276
            have z295 : q_ir (q_r f283 mo 29) cs := Eq.trans (hF.r hmo (by rw [kmo]; rfl)) z277
            have z296 : q_ir (q_r f283 mo 30) c1 := Eq.trans (hF.r hmo (by rw [kmo]; rfl)) z278
            have z297 : q_ir (q_r f283 mo 31) c2 := Eq.trans (hF.r hmo (by rw [kmo]; rfl)) z279
            have g298 : q_sc f283 mo cs c1 c2 := q_sc_tr hsc9 (hF.z hmo (by rw [kmo]; rfl)) (hF.z hmo (by rw [kmo]; rfl)) (hF.z hmo (by rw [kmo]; rfl)) (fun i9 => hF.z hcs (by rw [kcs]; rfl)) (fun i9 => hF.z hc1 (by rw [kc1]; rfl)) (fun i9 => hF.z hc2 (by rw [kc2]; rfl))
            obtain ⟨x299, ex299⟩ : ∃ zz, q_is (q_z f283 mo 4) zz := ⟨_, q_isr _⟩
            obtain ⟨lx299, ux299⟩ := q_isb ex299 (q_fib hB.2.1 hmo kmo (by decide) rfl)
            obtain ⟨x300, ex300⟩ : ∃ zz, q_is (q_z f283 mo 6) zz := ⟨_, q_isr _⟩
            obtain ⟨lx300, ux300⟩ := q_isb ex300 (q_fib hB.2.1 hmo kmo (by decide) rfl)
            replace t286 := q_isl9 ex299 t286
            replace t287 := k_po_si ex300 ex299 t287
            refine q_ald_n cx dX12_closes_51 rfl (lv_at hl 0 rfl) ?_
            refine q_bipush cx dX12_closes_52 rfl ?_
            refine q_cVv (As := [.int (q_i 59)]) (rest := []) cx hB (fun _ h => h) hN hmo kmo (by decide) rfl (r_mustSign0 l g hN hB.2.1 mo hmo kmo 59 (by decide) (by decide) bu hbu kbu x299 (by omega) (by omega) (Eq.trans z288 (by omega)) ex299 z294) q_cX12_241 q_dX12_mustSign (by decide) rfl rfl hl.1 rfl (Nat.le_of_ble_eq_true rfl) dX12_closes_54 (fun H locs f301 h303 hF hB => ?_)
            rcases h303 with h304 | h305
            · obtain ⟨z306, t307, t308, t309⟩ := h304
              have z310 : q_is (q_z f301 mo 36) x239 := Eq.trans (hF.z hmo (by rw [kmo]; rfl)) z289
              have z311 : q_is (q_z f301 mo 37) (w0_mo_37 - 1) := Eq.trans (hF.z hmo (by rw [kmo]; rfl)) z290
              have z312 : q_is (q_z f301 cs (Int.toNat x238)) 7 := Eq.trans (hF.z hcs (by rw [kcs]; rfl)) z291
              have z313 : q_is (q_z f301 mo 35) (x238 + 1) := Eq.trans (hF.z hmo (by rw [kmo]; rfl)) z292
              have z314 : q_is (q_z f301 mo 3) x282 := Eq.trans (hF.z hmo (by rw [kmo]; rfl)) z293
              have z315 : q_ir (q_r f301 mo 1) bu := Eq.trans (hF.r hmo (by rw [kmo]; rfl)) z294
              have z316 : q_ir (q_r f301 mo 29) cs := Eq.trans (hF.r hmo (by rw [kmo]; rfl)) z295
              have z317 : q_ir (q_r f301 mo 30) c1 := Eq.trans (hF.r hmo (by rw [kmo]; rfl)) z296
              have z318 : q_ir (q_r f301 mo 31) c2 := Eq.trans (hF.r hmo (by rw [kmo]; rfl)) z297
              have g319 : q_sc f301 mo cs c1 c2 := q_sc_tr g298 (hF.z hmo (by rw [kmo]; rfl)) (hF.z hmo (by rw [kmo]; rfl)) (hF.z hmo (by rw [kmo]; rfl)) (fun i9 => hF.z hcs (by rw [kcs]; rfl)) (fun i9 => hF.z hc1 (by rw [kc1]; rfl)) (fun i9 => hF.z hc2 (by rw [kc2]; rfl))
              obtain ⟨x320, ex320⟩ : ∃ zz, q_is (q_z f301 mo 4) zz := ⟨_, q_isr _⟩
              obtain ⟨lx320, ux320⟩ := q_isb ex320 (q_fib hB.2.1 hmo kmo (by decide) rfl)
              obtain ⟨x321, ex321⟩ : ∃ zz, q_is (q_z f301 mo 6) zz := ⟨_, q_isr _⟩
              obtain ⟨lx321, ux321⟩ := q_isb ex321 (q_fib hB.2.1 hmo kmo (by decide) rfl)
              replace t307 := q_isl9 ex320 t307
              replace t308 := k_po_si ex321 ex320 t308
              refine lv_goto (tgt := 0) cx.1 cx.2.1 dX12_closes_57 (by decide) ?_
              exact ih0 f301 (w0_mo_37 - 1) (by omega) (by omega) 0 (by decide) (by decide) x320 (by omega) (by omega) z311 z306 ex320 z315 z316 z317 z318 g319 (by omega) (by omega) H locs hB ls (lv_sub hl [0] rfl)
            · obtain ⟨lz322, uz322⟩ := h305
              have z323 : q_is (q_z f301 mo 36) x239 := Eq.trans (hF.z hmo (by rw [kmo]; rfl)) z289
              have z324 : q_is (q_z f301 mo 37) (w0_mo_37 - 1) := Eq.trans (hF.z hmo (by rw [kmo]; rfl)) z290
              have z325 : q_is (q_z f301 cs (Int.toNat x238)) 7 := Eq.trans (hF.z hcs (by rw [kcs]; rfl)) z291
              have z326 : q_is (q_z f301 mo 35) (x238 + 1) := Eq.trans (hF.z hmo (by rw [kmo]; rfl)) z292
              have z327 : q_is (q_z f301 mo 3) x282 := Eq.trans (hF.z hmo (by rw [kmo]; rfl)) z293
              have z328 : q_ir (q_r f301 mo 1) bu := Eq.trans (hF.r hmo (by rw [kmo]; rfl)) z294
              have z329 : q_ir (q_r f301 mo 29) cs := Eq.trans (hF.r hmo (by rw [kmo]; rfl)) z295
              have z330 : q_ir (q_r f301 mo 30) c1 := Eq.trans (hF.r hmo (by rw [kmo]; rfl)) z296
              have z331 : q_ir (q_r f301 mo 31) c2 := Eq.trans (hF.r hmo (by rw [kmo]; rfl)) z297
              have g332 : q_sc f301 mo cs c1 c2 := q_sc_tr g298 (hF.z hmo (by rw [kmo]; rfl)) (hF.z hmo (by rw [kmo]; rfl)) (hF.z hmo (by rw [kmo]; rfl)) (fun i9 => hF.z hcs (by rw [kcs]; rfl)) (fun i9 => hF.z hc1 (by rw [kc1]; rfl)) (fun i9 => hF.z hc2 (by rw [kc2]; rfl))
              obtain ⟨x333, ex333⟩ : ∃ zz, q_is (q_z f301 mo 8) zz := ⟨_, q_isr _⟩
              obtain ⟨lx333, ux333⟩ := q_isb ex333 ⟨lz322, uz322⟩
              obtain ⟨x334, ex334⟩ : ∃ zz, q_is (q_z f301 mo 4) zz := ⟨_, q_isr _⟩
              obtain ⟨lx334, ux334⟩ := q_isb ex334 (q_fib hB.2.1 hmo kmo (by decide) rfl)
              obtain ⟨x335, ex335⟩ : ∃ zz, q_is (q_z f301 mo 6) zz := ⟨_, q_isr _⟩
              obtain ⟨lx335, ux335⟩ := q_isb ex335 (q_fib hB.2.1 hmo kmo (by decide) rfl)
              refine lv_goto (tgt := 0) cx.1 cx.2.1 dX12_closes_57 (by decide) ?_
              refine q_ald_n cx dX12_closes_0 rfl (lv_at hl 0 rfl) ?_
              refine q_gX12_488 cx hB hmo kmo z324 dX12_closes_1 (fun lb336 ub336 => ?_)
              refine q_ifle (tgt := 60) cx ⟨by omega, by omega⟩ dX12_closes_4 (by decide) (fun c337 => ?_) (fun c337 => ?_)
              · refine q_vret cx hr hlk hB dX12_closes_60 ?_
                exact (Or.inr ⟨(q_isl ex333 (by omega)), (q_isu ex333 (by omega))⟩)
              · refine q_ald_n cx dX12_closes_7 rfl (lv_at hl 0 rfl) ?_
                refine q_bipush cx dX12_closes_8 rfl ?_
                refine q_cVi (As := [.int (q_i 41)]) (rest := []) cx hB (fun _ h => h) hN hmo kmo (by decide) rfl (r_isSign1 l g hN hB.2.1 mo hmo kmo 41 (by decide) (by decide) x333 (by omega) (by omega) ex333) q_cX12_134 q_dX12_isSign (by decide) rfl rfl hl.1 rfl (Nat.le_of_ble_eq_true rfl) dX12_closes_10 (fun y339 H locs f338 ry339 h340 hF hB => ?_)
                obtain ⟨rfl, qy339⟩ := h340
                subst qy339
                refine q_ifeq (tgt := 60) cx ⟨by decide, by decide⟩ dX12_closes_13 (by decide) (fun c341 => ?_) (fun c341 => ?_)
                · refine q_vret cx hr hlk hB dX12_closes_60 ?_
                  exact (Or.inr ⟨(q_isl ex333 (by omega)), (q_isu ex333 (by omega))⟩)
                · exact absurd c341 (by omega)
        · obtain ⟨rfl, qy232⟩ := h235
          subst qy232
          refine q_ifeq (tgt := 60) cx ⟨by decide, by decide⟩ dX12_closes_13 (by decide) (fun c342 => ?_) (fun c342 => ?_)
          · refine q_vret cx hr hlk hB dX12_closes_60 ?_
            exact (Or.inl ⟨(Eq.trans hj_mo_8 (by omega)), (q_isl hj_mo_4 (by omega)), hsc0⟩)
          · exact absurd c342 (by omega)
  obtain ⟨H, hH⟩ : ∃ H : Heap, H = s.heap := ⟨_, rfl⟩
  obtain ⟨locs, hlocs⟩ : ∃ z : List Loc, z = [] := ⟨_, rfl⟩
  rw [← hH, ← hlocs] at hB
  rw [← hH, ← hlocs]
  exact J0 ((Int.toNat (xo)) + 1) f xo (by omega) (by omega) 0 (by decide) (by decide) xp (by omega) (by omega) hf2 hf0 hf1 hr0 hr1 hr2 hr3 hsc (by omega) (Nat.lt_succ_self _) H locs hB ls (lv_sub hl [0] rfl)
set_option maxHeartbeats 4000000 in
set_option maxRecDepth 100000 in
theorem r_closes1 (l : Launch) (g : q_G) {K : Nat → Nat} {L : List Nat} (hN : L.Nodup) {f : Nat → va_E} (hT : q_Ty g K L f) (mo : Nat) (hmo : mo ∈ L) (kmo : K mo = 12) (er : Int) (ler : 1 ≤ er) (uer : er ≤ 5) (hf0 : q_is (q_z f mo 8) er) : q_Ct l g K L yX12_closes cX12_closes 1 none 1 21 [.ref mo] f [] (q_Pv (fun (f1 : Nat → va_E) => f = f1)) := by
  refine q_ofb (by decide +kernel) hN hT (Nat.le_of_ble_eq_true rfl) ?_
  intro p e s m below meth c ls cx hr hlk hB hl
  have hl : lv_has ls 1 [(0, .ref mo)] := hl
  obtain ⟨H, hH⟩ : ∃ H : Heap, H = s.heap := ⟨_, rfl⟩
  obtain ⟨locs, hlocs⟩ : ∃ z : List Loc, z = [] := ⟨_, rfl⟩
  rw [← hH, ← hlocs] at hB
  rw [← hH, ← hlocs]
  refine q_ald_n cx dX12_closes_0 rfl (lv_at hl 0 rfl) ?_
  obtain ⟨x8, ex8⟩ : ∃ zz, q_is (q_z f mo 37) zz := ⟨_, q_isr _⟩
  refine q_gX12_488 cx hB hmo kmo ex8 dX12_closes_1 (fun lb9 ub9 => ?_)
  refine q_ifle (tgt := 60) cx ⟨by omega, by omega⟩ dX12_closes_4 (by decide) (fun c10 => ?_) (fun c10 => ?_)
  · refine q_vret cx hr hlk hB dX12_closes_60 ?_
    exact rfl
  · refine q_ald_n cx dX12_closes_7 rfl (lv_at hl 0 rfl) ?_
    refine q_bipush cx dX12_closes_8 rfl ?_
    refine q_cVi (As := [.int (q_i 41)]) (rest := []) cx hB (fun _ h => h) hN hmo kmo (by decide) rfl (r_isSign1 l g hN hB.2.1 mo hmo kmo 41 (by decide) (by decide) er (by omega) (by omega) hf0) q_cX12_134 q_dX12_isSign (by decide) rfl rfl hl.1 rfl (Nat.le_of_ble_eq_true rfl) dX12_closes_10 (fun y12 H locs f11 ry12 h13 hF hB => ?_)
    obtain ⟨rfl, qy12⟩ := h13
    subst qy12
    refine q_ifeq (tgt := 60) cx ⟨by decide, by decide⟩ dX12_closes_13 (by decide) (fun c14 => ?_) (fun c14 => ?_)
    · refine q_vret cx hr hlk hB dX12_closes_60 ?_
      exact rfl
    · exact absurd c14 (by omega)
set_option maxHeartbeats 4000000 in
set_option maxRecDepth 100000 in
theorem r_may (l : Launch) (g : q_G) {K : Nat → Nat} {L : List Nat} (hN : L.Nodup) {f : Nat → va_E} (hT : q_Ty g K L f) (mo : Nat) (hmo : mo ∈ L) (kmo : K mo = 12) (a0 : Int) (la0 : 0 ≤ a0) (ua0 : a0 ≤ 59) (sr : Nat) (hsr : sr ∈ L) (ksr : K sr = 151) (cs : Nat) (hcs : cs ∈ L) (kcs : K cs = 161) (c1 : Nat) (hc1 : c1 ∈ L) (kc1 : K c1 = 162) (c2 : Nat) (hc2 : c2 ∈ L) (kc2 : K c2 = 163) (c3 : Nat) (hc3 : c3 ∈ L) (kc3 : K c3 = 164) (xt : Int) (lxt : 0 ≤ xt) (uxt : xt ≤ 9999) (xm : Int) (lxm : 0 ≤ xm) (uxm : xm ≤ 60) (xc : Int) (lxc : 0 ≤ xc) (uxc : xc ≤ 10) (hf0 : q_is (q_z f sr 3) xt) (hf1 : q_is (q_z f sr 4) xm) (hf2 : q_is (q_z f sr 0) xc) (hr0 : q_ir (q_r f mo 13) sr) (hr1 : q_ir (q_r f mo 29) cs) (hr2 : q_ir (q_r f mo 30) c1) (hr3 : q_ir (q_r f mo 31) c2) (hr4 : q_ir (q_r f mo 32) c3) (hp0 : k_cc (q_z f cs (Int.toNat a0)) f c1 c2 (Int.toNat a0)) (hp1 : q_z f cs (Int.toNat a0) ≤ 5) (hgr : q_gr f sr) : q_Ct l g K L yX12_may cX12_may 4 (some .boolean) 5 108 [.ref mo, .int (q_i a0)] f [] (q_Pi (fun (z : Int) (f1 : Nat → va_E) => (f = f1 ∧ z = 1 ∧ (k_may f sr cs c1 c2 (Int.toNat a0))) ∨ (f = f1 ∧ z = 0))) := by
  refine q_ofb (by decide +kernel) hN hT (Nat.le_of_ble_eq_true rfl) ?_
  intro p e s m below meth c ls cx hr hlk hB hl
  have hl : lv_has ls 4 [(0, .ref mo), (1, .int (q_i a0))] := hl
  obtain ⟨H, hH⟩ : ∃ H : Heap, H = s.heap := ⟨_, rfl⟩
  obtain ⟨locs, hlocs⟩ : ∃ z : List Loc, z = [] := ⟨_, rfl⟩
  rw [← hH, ← hlocs] at hB
  rw [← hH, ← hlocs]
  refine q_ald_n cx dX12_may_0 rfl (lv_at hl 0 rfl) ?_
  refine q_gX12_54 cx hB hmo kmo hr2 dX12_may_1 (fun hb102 kb102 => ?_)
  refine q_ild_n cx dX12_may_4 rfl (lv_at hl 1 rfl) ?_
  obtain ⟨x103, ex103⟩ : ∃ zz, q_is (q_z f c1 (Int.toNat a0)) zz := ⟨_, q_isr _⟩
  refine q_iald (lo := (-2147483648)) (hi := 2147483647) (n := 60) cx hB hc1 kc1 (by decide) rfl rfl (by omega) (by omega) (by decide) rfl ex103 dX12_may_5 (fun lb104 ub104 => ?_)
  refine lv_istore_n (lv' := [(2, .int (q_i x103)), (0, .ref mo), (1, .int (q_i a0))]) cx.1 cx.2.1 dX12_may_6 rfl hl (by decide) rfl (fun ls hl => ?_)
  refine q_ald_n cx dX12_may_7 rfl (lv_at hl 1 rfl) ?_
  refine q_gX12_57 cx hB hmo kmo hr3 dX12_may_8 (fun hb105 kb105 => ?_)
  refine q_ild_n cx dX12_may_11 rfl (lv_at hl 2 rfl) ?_
  obtain ⟨x106, ex106⟩ : ∃ zz, q_is (q_z f c2 (Int.toNat a0)) zz := ⟨_, q_isr _⟩
  refine q_iald (lo := (-2147483648)) (hi := 2147483647) (n := 60) cx hB hc2 kc2 (by decide) rfl rfl (by omega) (by omega) (by decide) rfl ex106 dX12_may_12 (fun lb107 ub107 => ?_)
  refine lv_istore_n (lv' := [(3, .int (q_i x106)), (2, .int (q_i x103)), (0, .ref mo), (1, .int (q_i a0))]) cx.1 cx.2.1 dX12_may_13 rfl hl (by decide) rfl (fun ls hl => ?_)
  refine q_ald_n cx dX12_may_14 rfl (lv_at hl 2 rfl) ?_
  refine q_gX12_51 cx hB hmo kmo hr1 dX12_may_15 (fun hb108 kb108 => ?_)
  refine q_ild_n cx dX12_may_18 rfl (lv_at hl 3 rfl) ?_
  obtain ⟨x109, ex109⟩ : ∃ zz, q_is (q_z f cs (Int.toNat a0)) zz := ⟨_, q_isr _⟩
  refine q_iald (lo := 0) (hi := 7) (n := 60) cx hB hcs kcs (by decide) rfl rfl (by omega) (by omega) (by decide) rfl ex109 dX12_may_19 (fun lb110 ub110 => ?_)
  by_cases c112 : x109 = 0
  · refine lv_tableIn (tgt := 56) cx.1 cx.2.1 dX12_may_20 (by rw [q_toInt ⟨by omega, by omega⟩]; omega) (by rw [q_toInt ⟨by omega, by omega⟩]; omega) (off := 36) (by rw [q_toInt ⟨by omega, by omega⟩, c112]; rfl) (by decide) ?_
    refine q_ild_n cx dX12_may_56 rfl (lv_at hl 1 rfl) ?_
    refine q_cSi (As := [.int (q_i x103)]) (rest := []) cx hB (fun _ h => h) hN (r_areTicks l g hN hB.2.1 x103 (by omega) (by omega)) q_cX12_446 q_dX12_areTicks (by decide) rfl rfl hl.1 rfl (Nat.le_of_ble_eq_true rfl) dX12_may_57 (fun y114 H locs f113 ry114 h115 hF hB => ?_)
    rcases h115 with h116 | h117
    · obtain ⟨rfl, qy114, t118, t119⟩ := h116
      subst qy114
      refine q_ifeq (tgt := 81) cx ⟨by decide, by decide⟩ dX12_may_60 (by decide) (fun c120 => ?_) (fun c120 => ?_)
      · exact absurd c120 (by omega)
      · refine q_ald_n cx dX12_may_63 rfl (lv_at hl 2 rfl) ?_
        refine q_gX12_20 cx hB hmo kmo hr0 dX12_may_64 (fun hb121 kb121 => ?_)
        refine q_iconst cx dX12_may_67 ?_
        refine q_iald (lo := (-2147483648)) (hi := 2147483647) (n := 658) cx hB hsr ksr (by decide) rfl rfl (by decide) (by decide) (by decide) rfl hf0 dX12_may_68 (fun lb123 ub123 => ?_)
        refine q_ild_n cx dX12_may_69 rfl (lv_at hl 1 rfl) ?_
        refine q_iadd cx dX12_may_70 ?_
        refine q_sipush cx dX12_may_71 rfl ?_
        refine q_icgt (tgt := 81) cx ⟨by omega, by omega⟩ ⟨by decide, by decide⟩ dX12_may_74 (by decide) (fun c124 => ?_) (fun c124 => ?_)
        · refine q_iconst cx dX12_may_81 ?_
          refine q_zret cx hr hlk hB dX12_may_82 (by decide) (by decide) ?_
          exact (Or.inr ⟨rfl, rfl⟩)
        · refine q_iconst cx dX12_may_77 ?_
          refine lv_goto (tgt := 82) cx.1 cx.2.1 dX12_may_78 (by decide) ?_
          refine q_zret cx hr hlk hB dX12_may_82 (by decide) (by decide) ?_
          exact (Or.inl ⟨rfl, rfl, (by have h70 : _ = _ := ex103; have h71 : _ = _ := ex106; have h72 : _ = _ := ex109; have h73 : _ = _ := hf0; have h74 : _ = _ := hf1; unfold k_may; omega)⟩)
    · obtain ⟨rfl, qy114, t125⟩ := h117
      subst qy114
      refine q_ifeq (tgt := 81) cx ⟨by decide, by decide⟩ dX12_may_60 (by decide) (fun c126 => ?_) (fun c126 => ?_)
      · refine q_iconst cx dX12_may_81 ?_
        refine q_zret cx hr hlk hB dX12_may_82 (by decide) (by decide) ?_
        exact (Or.inr ⟨rfl, rfl⟩)
      · exact absurd c126 (by omega)
  by_cases c127 : x109 = 1
  · refine lv_tableIn (tgt := 83) cx.1 cx.2.1 dX12_may_20 (by rw [q_toInt ⟨by omega, by omega⟩]; omega) (by rw [q_toInt ⟨by omega, by omega⟩]; omega) (off := 63) (by rw [q_toInt ⟨by omega, by omega⟩, c127]; rfl) (by decide) ?_
    have h70 : _ = _ := ex103
    have h71 : _ = _ := ex106
    have h72 : _ = _ := ex109
    have h73 := hp0
    unfold k_cc at h73
    have hu_a9 : 0 ≤ x103 ∧ x103 ≤ 9 := by omega
    have hu_b9 : 0 ≤ x106 ∧ x106 ≤ 9 := by omega
    clear h70 h71 h72 h73
    refine q_ild_n cx dX12_may_83 rfl (lv_at hl 1 rfl) ?_
    refine q_ild_n cx dX12_may_84 rfl (lv_at hl 0 rfl) ?_
    refine q_iceq (tgt := 113) cx ⟨by omega, by omega⟩ ⟨by omega, by omega⟩ dX12_may_85 (by decide) (fun c128 => ?_) (fun c128 => ?_)
    · refine q_iconst cx dX12_may_113 ?_
      refine q_zret cx hr hlk hB dX12_may_114 (by decide) (by decide) ?_
      exact (Or.inr ⟨rfl, rfl⟩)
    · refine q_ald_n cx dX12_may_88 rfl (lv_at hl 2 rfl) ?_
      refine q_gX12_60 cx hB hmo kmo hr4 dX12_may_89 (fun hb129 kb129 => ?_)
      refine q_ild_n cx dX12_may_92 rfl (lv_at hl 3 rfl) ?_
      obtain ⟨x130, ex130⟩ : ∃ zz, q_is (q_z f c3 (Int.toNat a0)) zz := ⟨_, q_isr _⟩
      refine q_iald (lo := (-2147483648)) (hi := 2147483647) (n := 60) cx hB hc3 kc3 (by decide) rfl rfl (by omega) (by omega) (by decide) rfl ex130 dX12_may_93 (fun lb131 ub131 => ?_)
      refine q_cSi (As := [.int (q_i x130)]) (rest := []) cx hB (fun _ h => h) hN (r_isMany l g hN hB.2.1 x130 (by omega) (by omega)) q_cX12_452 q_dX12_isMany (by decide) rfl rfl hl.1 rfl (Nat.le_of_ble_eq_true rfl) dX12_may_94 (fun y133 H locs f132 ry133 h134 hF hB => ?_)
      rcases h134 with h135 | h136
      · obtain ⟨rfl, qy133, t137, t138⟩ := h135
        subst qy133
        refine q_ifeq (tgt := 113) cx ⟨by decide, by decide⟩ dX12_may_97 (by decide) (fun c139 => ?_) (fun c139 => ?_)
        · exact absurd c139 (by omega)
        · refine q_ald_n cx dX12_may_100 rfl (lv_at hl 2 rfl) ?_
          refine q_ild_n cx dX12_may_101 rfl (lv_at hl 1 rfl) ?_
          refine q_ild_n cx dX12_may_102 rfl (lv_at hl 0 rfl) ?_
          refine q_cVi (As := [.int (q_i x103), .int (q_i x106)]) (rest := []) cx hB (fun _ h => h) hN hmo kmo (by decide) rfl (r_maySend l g hN hB.2.1 mo hmo kmo x103 (by omega) (by omega) x106 (by omega) (by omega) sr hsr ksr xm (by omega) (by omega) hf1 hr0 hgr) q_cX12_455 q_dX12_maySend (by decide) rfl rfl hl.1 rfl (Nat.le_of_ble_eq_true rfl) dX12_may_103 (fun y141 H locs f140 ry141 h142 hF hB => ?_)
          rcases h142 with h143 | h144
          · obtain ⟨rfl, qy141, t145⟩ := h143
            subst qy141
            refine q_ifeq (tgt := 113) cx ⟨by decide, by decide⟩ dX12_may_106 (by decide) (fun c146 => ?_) (fun c146 => ?_)
            · exact absurd c146 (by omega)
            · refine q_iconst cx dX12_may_109 ?_
              refine lv_goto (tgt := 114) cx.1 cx.2.1 dX12_may_110 (by decide) ?_
              refine q_zret cx hr hlk hB dX12_may_114 (by decide) (by decide) ?_
              exact (Or.inl ⟨rfl, rfl, (by have h70 : _ = _ := ex103; have h71 : _ = _ := ex106; have h72 : _ = _ := ex109; have h73 : _ = _ := hf0; have h74 : _ = _ := hf1; unfold k_may; omega)⟩)
          · obtain ⟨rfl, qy141⟩ := h144
            subst qy141
            refine q_ifeq (tgt := 113) cx ⟨by decide, by decide⟩ dX12_may_106 (by decide) (fun c147 => ?_) (fun c147 => ?_)
            · refine q_iconst cx dX12_may_113 ?_
              refine q_zret cx hr hlk hB dX12_may_114 (by decide) (by decide) ?_
              exact (Or.inr ⟨rfl, rfl⟩)
            · exact absurd c147 (by omega)
      · obtain ⟨rfl, qy133, t148⟩ := h136
        subst qy133
        refine q_ifeq (tgt := 113) cx ⟨by decide, by decide⟩ dX12_may_97 (by decide) (fun c149 => ?_) (fun c149 => ?_)
        · refine q_iconst cx dX12_may_113 ?_
          refine q_zret cx hr hlk hB dX12_may_114 (by decide) (by decide) ?_
          exact (Or.inr ⟨rfl, rfl⟩)
        · exact absurd c149 (by omega)
  by_cases c150 : x109 = 2
  · refine lv_tableIn (tgt := 83) cx.1 cx.2.1 dX12_may_20 (by rw [q_toInt ⟨by omega, by omega⟩]; omega) (by rw [q_toInt ⟨by omega, by omega⟩]; omega) (off := 63) (by rw [q_toInt ⟨by omega, by omega⟩, c150]; rfl) (by decide) ?_
    have h70 : _ = _ := ex103
    have h71 : _ = _ := ex106
    have h72 : _ = _ := ex109
    have h73 := hp0
    unfold k_cc at h73
    have hu_a9 : 0 ≤ x103 ∧ x103 ≤ 9 := by omega
    have hu_b9 : 0 ≤ x106 ∧ x106 ≤ 9 := by omega
    clear h70 h71 h72 h73
    refine q_ild_n cx dX12_may_83 rfl (lv_at hl 1 rfl) ?_
    refine q_ild_n cx dX12_may_84 rfl (lv_at hl 0 rfl) ?_
    refine q_iceq (tgt := 113) cx ⟨by omega, by omega⟩ ⟨by omega, by omega⟩ dX12_may_85 (by decide) (fun c151 => ?_) (fun c151 => ?_)
    · refine q_iconst cx dX12_may_113 ?_
      refine q_zret cx hr hlk hB dX12_may_114 (by decide) (by decide) ?_
      exact (Or.inr ⟨rfl, rfl⟩)
    · refine q_ald_n cx dX12_may_88 rfl (lv_at hl 2 rfl) ?_
      refine q_gX12_60 cx hB hmo kmo hr4 dX12_may_89 (fun hb152 kb152 => ?_)
      refine q_ild_n cx dX12_may_92 rfl (lv_at hl 3 rfl) ?_
      obtain ⟨x153, ex153⟩ : ∃ zz, q_is (q_z f c3 (Int.toNat a0)) zz := ⟨_, q_isr _⟩
      refine q_iald (lo := (-2147483648)) (hi := 2147483647) (n := 60) cx hB hc3 kc3 (by decide) rfl rfl (by omega) (by omega) (by decide) rfl ex153 dX12_may_93 (fun lb154 ub154 => ?_)
      refine q_cSi (As := [.int (q_i x153)]) (rest := []) cx hB (fun _ h => h) hN (r_isMany l g hN hB.2.1 x153 (by omega) (by omega)) q_cX12_452 q_dX12_isMany (by decide) rfl rfl hl.1 rfl (Nat.le_of_ble_eq_true rfl) dX12_may_94 (fun y156 H locs f155 ry156 h157 hF hB => ?_)
      rcases h157 with h158 | h159
      · obtain ⟨rfl, qy156, t160, t161⟩ := h158
        subst qy156
        refine q_ifeq (tgt := 113) cx ⟨by decide, by decide⟩ dX12_may_97 (by decide) (fun c162 => ?_) (fun c162 => ?_)
        · exact absurd c162 (by omega)
        · refine q_ald_n cx dX12_may_100 rfl (lv_at hl 2 rfl) ?_
          refine q_ild_n cx dX12_may_101 rfl (lv_at hl 1 rfl) ?_
          refine q_ild_n cx dX12_may_102 rfl (lv_at hl 0 rfl) ?_
          refine q_cVi (As := [.int (q_i x103), .int (q_i x106)]) (rest := []) cx hB (fun _ h => h) hN hmo kmo (by decide) rfl (r_maySend l g hN hB.2.1 mo hmo kmo x103 (by omega) (by omega) x106 (by omega) (by omega) sr hsr ksr xm (by omega) (by omega) hf1 hr0 hgr) q_cX12_455 q_dX12_maySend (by decide) rfl rfl hl.1 rfl (Nat.le_of_ble_eq_true rfl) dX12_may_103 (fun y164 H locs f163 ry164 h165 hF hB => ?_)
          rcases h165 with h166 | h167
          · obtain ⟨rfl, qy164, t168⟩ := h166
            subst qy164
            refine q_ifeq (tgt := 113) cx ⟨by decide, by decide⟩ dX12_may_106 (by decide) (fun c169 => ?_) (fun c169 => ?_)
            · exact absurd c169 (by omega)
            · refine q_iconst cx dX12_may_109 ?_
              refine lv_goto (tgt := 114) cx.1 cx.2.1 dX12_may_110 (by decide) ?_
              refine q_zret cx hr hlk hB dX12_may_114 (by decide) (by decide) ?_
              exact (Or.inl ⟨rfl, rfl, (by have h70 : _ = _ := ex103; have h71 : _ = _ := ex106; have h72 : _ = _ := ex109; have h73 : _ = _ := hf0; have h74 : _ = _ := hf1; unfold k_may; omega)⟩)
          · obtain ⟨rfl, qy164⟩ := h167
            subst qy164
            refine q_ifeq (tgt := 113) cx ⟨by decide, by decide⟩ dX12_may_106 (by decide) (fun c170 => ?_) (fun c170 => ?_)
            · refine q_iconst cx dX12_may_113 ?_
              refine q_zret cx hr hlk hB dX12_may_114 (by decide) (by decide) ?_
              exact (Or.inr ⟨rfl, rfl⟩)
            · exact absurd c170 (by omega)
      · obtain ⟨rfl, qy156, t171⟩ := h159
        subst qy156
        refine q_ifeq (tgt := 113) cx ⟨by decide, by decide⟩ dX12_may_97 (by decide) (fun c172 => ?_) (fun c172 => ?_)
        · refine q_iconst cx dX12_may_113 ?_
          refine q_zret cx hr hlk hB dX12_may_114 (by decide) (by decide) ?_
          exact (Or.inr ⟨rfl, rfl⟩)
        · exact absurd c172 (by omega)
  by_cases c173 : x109 = 3
  · refine lv_tableIn (tgt := 115) cx.1 cx.2.1 dX12_may_20 (by rw [q_toInt ⟨by omega, by omega⟩]; omega) (by rw [q_toInt ⟨by omega, by omega⟩]; omega) (off := 95) (by rw [q_toInt ⟨by omega, by omega⟩, c173]; rfl) (by decide) ?_
    refine q_ald_n cx dX12_may_115 rfl (lv_at hl 2 rfl) ?_
    refine q_ild_n cx dX12_may_116 rfl (lv_at hl 0 rfl) ?_
    refine q_cVi (As := [.int (q_i x106)]) (rest := []) cx hB (fun _ h => h) hN hmo kmo (by decide) rfl (r_isDay l g hN hB.2.1 mo hmo kmo x106 (by omega) (by omega) sr hsr ksr hr0 hgr) q_cX12_388 q_dX12_isDay (by decide) rfl rfl hl.1 rfl (Nat.le_of_ble_eq_true rfl) dX12_may_117 (fun y175 H locs f174 ry175 h176 hF hB => ?_)
    rcases h176 with h177 | h178
    · obtain ⟨rfl, qy175, t179, t180⟩ := h177
      subst qy175
      refine q_zret cx hr hlk hB dX12_may_120 (by decide) (by decide) ?_
      exact (Or.inl ⟨rfl, rfl, (by have h70 : _ = _ := ex103; have h71 : _ = _ := ex106; have h72 : _ = _ := ex109; have h73 : _ = _ := hf0; have h74 : _ = _ := hf1; unfold k_may; omega)⟩)
    · obtain ⟨rfl, qy175⟩ := h178
      subst qy175
      refine q_zret cx hr hlk hB dX12_may_120 (by decide) (by decide) ?_
      exact (Or.inr ⟨rfl, rfl⟩)
  by_cases c181 : x109 = 4
  · refine lv_tableIn (tgt := 121) cx.1 cx.2.1 dX12_may_20 (by rw [q_toInt ⟨by omega, by omega⟩]; omega) (by rw [q_toInt ⟨by omega, by omega⟩]; omega) (off := 101) (by rw [q_toInt ⟨by omega, by omega⟩, c181]; rfl) (by decide) ?_
    have h70 : _ = _ := ex103
    have h71 : _ = _ := ex106
    have h72 : _ = _ := ex109
    have h73 := hp0
    unfold k_cc at h73
    have hu_a9 : 0 ≤ x103 ∧ x103 ≤ 9 := by omega
    clear h70 h71 h72 h73
    refine q_ald_n cx dX12_may_121 rfl (lv_at hl 2 rfl) ?_
    refine q_ild_n cx dX12_may_122 rfl (lv_at hl 0 rfl) ?_
    refine q_cVi (As := [.int (q_i x106)]) (rest := []) cx hB (fun _ h => h) hN hmo kmo (by decide) rfl (r_isDay l g hN hB.2.1 mo hmo kmo x106 (by omega) (by omega) sr hsr ksr hr0 hgr) q_cX12_388 q_dX12_isDay (by decide) rfl rfl hl.1 rfl (Nat.le_of_ble_eq_true rfl) dX12_may_123 (fun y183 H locs f182 ry183 h184 hF hB => ?_)
    rcases h184 with h185 | h186
    · obtain ⟨rfl, qy183, t187, t188⟩ := h185
      subst qy183
      refine q_ifeq (tgt := 142) cx ⟨by decide, by decide⟩ dX12_may_126 (by decide) (fun c189 => ?_) (fun c189 => ?_)
      · exact absurd c189 (by omega)
      · refine q_ald_n cx dX12_may_129 rfl (lv_at hl 2 rfl) ?_
        refine q_ild_n cx dX12_may_130 rfl (lv_at hl 1 rfl) ?_
        refine q_ild_n cx dX12_may_131 rfl (lv_at hl 0 rfl) ?_
        refine q_cVi (As := [.int (q_i x103), .int (q_i x106)]) (rest := []) cx hB (fun _ h => h) hN hmo kmo (by decide) rfl (r_isWatched l g hN hB.2.1 mo hmo kmo x103 (by omega) (by omega) x106 (by omega) (by omega) sr hsr ksr hr0 hgr) q_cX12_262 q_dX12_isWatched (by decide) rfl rfl hl.1 rfl (Nat.le_of_ble_eq_true rfl) dX12_may_132 (fun y191 H locs f190 ry191 h192 hF hB => ?_)
        obtain ⟨rfl, ly191, uy191⟩ := h192
        refine q_ifne (tgt := 142) cx ⟨by omega, by omega⟩ dX12_may_135 (by decide) (fun c193 => ?_) (fun c193 => ?_)
        · refine q_iconst cx dX12_may_142 ?_
          refine q_zret cx hr hlk hB dX12_may_143 (by decide) (by decide) ?_
          exact (Or.inr ⟨rfl, rfl⟩)
        · refine q_iconst cx dX12_may_138 ?_
          refine lv_goto (tgt := 143) cx.1 cx.2.1 dX12_may_139 (by decide) ?_
          refine q_zret cx hr hlk hB dX12_may_143 (by decide) (by decide) ?_
          exact (Or.inl ⟨rfl, rfl, (by have h70 : _ = _ := ex103; have h71 : _ = _ := ex106; have h72 : _ = _ := ex109; have h73 : _ = _ := hf0; have h74 : _ = _ := hf1; unfold k_may; omega)⟩)
    · obtain ⟨rfl, qy183⟩ := h186
      subst qy183
      refine q_ifeq (tgt := 142) cx ⟨by decide, by decide⟩ dX12_may_126 (by decide) (fun c194 => ?_) (fun c194 => ?_)
      · refine q_iconst cx dX12_may_142 ?_
        refine q_zret cx hr hlk hB dX12_may_143 (by decide) (by decide) ?_
        exact (Or.inr ⟨rfl, rfl⟩)
      · exact absurd c194 (by omega)
  refine lv_tableOut (tgt := 144) cx.1 cx.2.1 dX12_may_20 (by rw [q_toInt ⟨by omega, by omega⟩]; omega) (by decide) ?_
  refine q_ild_n cx dX12_may_144 rfl (lv_at hl 0 rfl) ?_
  refine q_cSi (As := [.int (q_i x106)]) (rest := []) cx hB (fun _ h => h) hN (r_isMany l g hN hB.2.1 x106 (by omega) (by omega)) q_cX12_452 q_dX12_isMany (by decide) rfl rfl hl.1 rfl (Nat.le_of_ble_eq_true rfl) dX12_may_145 (fun y196 H locs f195 ry196 h197 hF hB => ?_)
  rcases h197 with h198 | h199
  · obtain ⟨rfl, qy196, t200, t201⟩ := h198
    subst qy196
    refine q_zret cx hr hlk hB dX12_may_148 (by decide) (by decide) ?_
    exact (Or.inl ⟨rfl, rfl, (by have h70 : _ = _ := ex103; have h71 : _ = _ := ex106; have h72 : _ = _ := ex109; have h73 : _ = _ := hf0; have h74 : _ = _ := hf1; unfold k_may; omega)⟩)
  · obtain ⟨rfl, qy196, t202⟩ := h199
    subst qy196
    refine q_zret cx hr hlk hB dX12_may_148 (by decide) (by decide) ?_
    exact (Or.inr ⟨rfl, rfl⟩)
set_option maxHeartbeats 4000000 in
set_option maxRecDepth 100000 in
theorem r_does (l : Launch) (g : q_G) {K : Nat → Nat} {L : List Nat} (hN : L.Nodup) {f : Nat → va_E} (hT : q_Ty g K L f) (mo : Nat) (hmo : mo ∈ L) (kmo : K mo = 12) (a0 : Int) (la0 : 0 ≤ a0) (ua0 : a0 ≤ 59) (sr : Nat) (hsr : sr ∈ L) (ksr : K sr = 151) (hp : Nat) (hhp : hp ∈ L) (khp : K hp = 159) (dy : Nat) (hdy : dy ∈ L) (kdy : K dy = 160) (cs : Nat) (hcs : cs ∈ L) (kcs : K cs = 161) (c1 : Nat) (hc1 : c1 ∈ L) (kc1 : K c1 = 162) (c2 : Nat) (hc2 : c2 ∈ L) (kc2 : K c2 = 163) (c3 : Nat) (hc3 : c3 ∈ L) (kc3 : K c3 = 164) (xt : Int) (lxt : 0 ≤ xt) (uxt : xt ≤ 9999) (xm : Int) (lxm : 0 ≤ xm) (uxm : xm ≤ 60) (xc : Int) (lxc : 0 ≤ xc) (uxc : xc ≤ 10) (hf0 : q_is (q_z f sr 3) xt) (hf1 : q_is (q_z f sr 4) xm) (hf2 : q_is (q_z f sr 0) xc) (hr0 : q_ir (q_r f mo 13) sr) (hr1 : q_ir (q_r f mo 24) hp) (hr2 : q_ir (q_r f mo 25) dy) (hr3 : q_ir (q_r f mo 29) cs) (hr4 : q_ir (q_r f mo 30) c1) (hr5 : q_ir (q_r f mo 31) c2) (hr6 : q_ir (q_r f mo 32) c3) (hp0 : k_cc (q_z f cs (Int.toNat a0)) f c1 c2 (Int.toNat a0)) (hp1 : q_z f cs (Int.toNat a0) ≤ 5) (hp2 : k_may f sr cs c1 c2 (Int.toNat a0)) (hgr : q_gr f sr) : q_Ct l g K L yX12_does cX12_does 4 (some .int) 10 228 [.ref mo, .int (q_i a0)] f [(12, 26, 28), (151, 3, 4), (151, 9, 9), (151, 11, 89), (151, 92, 657), (159, 0, 9), (160, 0, 9)] (q_Pi (fun (z : Int) (f1 : Nat → va_E) => 0 ≤ q_z f1 sr 3 ∧ q_z f1 sr 3 ≤ 9999 ∧ 0 ≤ q_z f1 sr 4 ∧ q_z f1 sr 4 ≤ 60 ∧ q_is (q_z f1 sr 0) xc ∧ q_gr f1 sr)) := by
  refine q_ofb (by decide +kernel) hN hT (Nat.le_of_ble_eq_true rfl) ?_
  intro p e s m below meth c ls cx hr hlk hB hl
  have hl : lv_has ls 4 [(0, .ref mo), (1, .int (q_i a0))] := hl
  obtain ⟨H, hH⟩ : ∃ H : Heap, H = s.heap := ⟨_, rfl⟩
  obtain ⟨locs, hlocs⟩ : ∃ z : List Loc, z = [] := ⟨_, rfl⟩
  rw [← hH, ← hlocs] at hB
  rw [← hH, ← hlocs]
  refine q_ald_n cx dX12_does_0 rfl (lv_at hl 0 rfl) ?_
  refine q_gX12_54 cx hB hmo kmo hr4 dX12_does_1 (fun hb110 kb110 => ?_)
  refine q_ild_n cx dX12_does_4 rfl (lv_at hl 1 rfl) ?_
  obtain ⟨x111, ex111⟩ : ∃ zz, q_is (q_z f c1 (Int.toNat a0)) zz := ⟨_, q_isr _⟩
  refine q_iald (lo := (-2147483648)) (hi := 2147483647) (n := 60) cx hB hc1 kc1 (by decide) rfl rfl (by omega) (by omega) (by decide) rfl ex111 dX12_does_5 (fun lb112 ub112 => ?_)
  refine lv_istore_n (lv' := [(2, .int (q_i x111)), (0, .ref mo), (1, .int (q_i a0))]) cx.1 cx.2.1 dX12_does_6 rfl hl (by decide) rfl (fun ls hl => ?_)
  refine q_ald_n cx dX12_does_7 rfl (lv_at hl 1 rfl) ?_
  refine q_gX12_57 cx hB hmo kmo hr5 dX12_does_8 (fun hb113 kb113 => ?_)
  refine q_ild_n cx dX12_does_11 rfl (lv_at hl 2 rfl) ?_
  obtain ⟨x114, ex114⟩ : ∃ zz, q_is (q_z f c2 (Int.toNat a0)) zz := ⟨_, q_isr _⟩
  refine q_iald (lo := (-2147483648)) (hi := 2147483647) (n := 60) cx hB hc2 kc2 (by decide) rfl rfl (by omega) (by omega) (by decide) rfl ex114 dX12_does_12 (fun lb115 ub115 => ?_)
  refine lv_istore_n (lv' := [(3, .int (q_i x114)), (2, .int (q_i x111)), (0, .ref mo), (1, .int (q_i a0))]) cx.1 cx.2.1 dX12_does_13 rfl hl (by decide) rfl (fun ls hl => ?_)
  refine q_ald_n cx dX12_does_14 rfl (lv_at hl 2 rfl) ?_
  refine q_gX12_51 cx hB hmo kmo hr3 dX12_does_15 (fun hb116 kb116 => ?_)
  refine q_ild_n cx dX12_does_18 rfl (lv_at hl 3 rfl) ?_
  obtain ⟨x117, ex117⟩ : ∃ zz, q_is (q_z f cs (Int.toNat a0)) zz := ⟨_, q_isr _⟩
  refine q_iald (lo := 0) (hi := 7) (n := 60) cx hB hcs kcs (by decide) rfl rfl (by omega) (by omega) (by decide) rfl ex117 dX12_does_19 (fun lb118 ub118 => ?_)
  by_cases c120 : x117 = 0
  · refine lv_tableIn (tgt := 56) cx.1 cx.2.1 dX12_does_20 (by rw [q_toInt ⟨by omega, by omega⟩]; omega) (by rw [q_toInt ⟨by omega, by omega⟩]; omega) (off := 36) (by rw [q_toInt ⟨by omega, by omega⟩, c120]; rfl) (by decide) ?_
    have h70 : _ = _ := ex111
    have h71 : _ = _ := ex114
    have h72 : _ = _ := ex117
    have h73 := hp0
    unfold k_cc at h73
    have h74 := hp2
    unfold k_may at h74
    have hu_a99 : 1 ≤ x111 ∧ x111 ≤ 99 := by omega
    have hu_t : xt + x111 ≤ 9999 := by have h75 : _ = _ := hf0; omega
    clear h70 h71 h72 h73 h74
    refine q_ald_n cx dX12_does_56 rfl (lv_at hl 2 rfl) ?_
    refine q_ild_n cx dX12_does_57 rfl (lv_at hl 1 rfl) ?_
    refine q_cVi (As := [.int (q_i x111)]) (rest := []) cx hB (fun _ h => h) hN hmo kmo (by decide) rfl (r_ticksOn l g hN hB.2.1 mo hmo kmo x111 (by omega) (by omega) sr hsr ksr hp hhp khp dy hdy kdy xt (by omega) (by omega) xm (by omega) (by omega) hf0 hf1 hr0 hr1 hr2 hgr) q_cX12_427 q_dX12_ticksOn (by decide) rfl rfl hl.1 rfl (Nat.le_of_ble_eq_true rfl) dX12_does_58 (fun y122 H locs f121 ry122 h123 hF hB => ?_)
    obtain ⟨z124, z125, g126⟩ := h123
    have z127 : q_is (q_z f121 sr 4) xm := Eq.trans (hF.z hsr (by rw [ksr]; rfl)) hf1
    have z128 : q_is (q_z f121 sr 0) xc := Eq.trans (hF.z hsr (by rw [ksr]; rfl)) hf2
    have z129 : q_ir (q_r f121 mo 13) sr := Eq.trans (hF.r hmo (by rw [kmo]; rfl)) hr0
    have z130 : q_ir (q_r f121 mo 24) hp := Eq.trans (hF.r hmo (by rw [kmo]; rfl)) hr1
    have z131 : q_ir (q_r f121 mo 25) dy := Eq.trans (hF.r hmo (by rw [kmo]; rfl)) hr2
    have z132 : q_ir (q_r f121 mo 29) cs := Eq.trans (hF.r hmo (by rw [kmo]; rfl)) hr3
    have z133 : q_ir (q_r f121 mo 30) c1 := Eq.trans (hF.r hmo (by rw [kmo]; rfl)) hr4
    have z134 : q_ir (q_r f121 mo 31) c2 := Eq.trans (hF.r hmo (by rw [kmo]; rfl)) hr5
    have z135 : q_ir (q_r f121 mo 32) c3 := Eq.trans (hF.r hmo (by rw [kmo]; rfl)) hr6
    refine q_iret cx hr hlk hB dX12_does_61 ⟨by omega, by omega⟩ ?_
    exact ⟨(q_isl z124 (by omega)), (q_isu z124 (by omega)), (q_isl z125 (by omega)), (q_isu z125 (by omega)), z128, g126⟩
  by_cases c136 : x117 = 1
  · refine lv_tableIn (tgt := 62) cx.1 cx.2.1 dX12_does_20 (by rw [q_toInt ⟨by omega, by omega⟩]; omega) (by rw [q_toInt ⟨by omega, by omega⟩]; omega) (off := 42) (by rw [q_toInt ⟨by omega, by omega⟩, c136]; rfl) (by decide) ?_
    have h70 : _ = _ := ex111
    have h71 : _ = _ := ex114
    have h72 : _ = _ := ex117
    have h73 := hp0
    unfold k_cc at h73
    have h74 := hp2
    unfold k_may at h74
    have hu_a9 : 0 ≤ x111 ∧ x111 ≤ 9 := by omega
    have hu_b9 : 0 ≤ x114 ∧ x114 ≤ 9 := by omega
    have hu_m59 : xm ≤ 59 := by have h75 : _ = _ := hf1; omega
    clear h70 h71 h72 h73 h74
    refine q_ald_n cx dX12_does_62 rfl (lv_at hl 2 rfl) ?_
    refine q_ild_n cx dX12_does_63 rfl (lv_at hl 1 rfl) ?_
    refine q_ild_n cx dX12_does_64 rfl (lv_at hl 0 rfl) ?_
    refine q_ald_n cx dX12_does_65 rfl (lv_at hl 2 rfl) ?_
    refine q_gX12_60 cx hB hmo kmo hr6 dX12_does_66 (fun hb137 kb137 => ?_)
    refine q_ild_n cx dX12_does_69 rfl (lv_at hl 3 rfl) ?_
    obtain ⟨x138, ex138⟩ : ∃ zz, q_is (q_z f c3 (Int.toNat a0)) zz := ⟨_, q_isr _⟩
    refine q_iald (lo := (-2147483648)) (hi := 2147483647) (n := 60) cx hB hc3 kc3 (by decide) rfl rfl (by omega) (by omega) (by decide) rfl ex138 dX12_does_70 (fun lb139 ub139 => ?_)
    refine q_iconst cx dX12_does_71 ?_
    refine q_cVi (As := [.int (q_i x111), .int (q_i x114), .int (q_i x138), .int (q_i 0)]) (rest := []) cx hB (fun _ h => h) hN hmo kmo (by decide) rfl (r_lays l g hN hB.2.1 mo hmo kmo x111 (by omega) (by omega) x114 (by omega) (by omega) x138 (by omega) (by omega) 0 (by decide) (by decide) sr hsr ksr xt (by omega) (by omega) xm (by omega) (by omega) hf0 hf1 hr0 hgr) q_cX12_417 q_dX12_lays (by decide) rfl rfl hl.1 rfl (Nat.le_of_ble_eq_true rfl) dX12_does_72 (fun y141 H locs f140 ry141 h142 hF hB => ?_)
    obtain ⟨ly141, uy141, z143, g144⟩ := h142
    have z145 : q_is (q_z f140 sr 3) xt := Eq.trans (hF.z hsr (by rw [ksr]; rfl)) hf0
    have z146 : q_is (q_z f140 sr 0) xc := Eq.trans (hF.z hsr (by rw [ksr]; rfl)) hf2
    have z147 : q_ir (q_r f140 mo 13) sr := Eq.trans (hF.r hmo (by rw [kmo]; rfl)) hr0
    have z148 : q_ir (q_r f140 mo 24) hp := Eq.trans (hF.r hmo (by rw [kmo]; rfl)) hr1
    have z149 : q_ir (q_r f140 mo 25) dy := Eq.trans (hF.r hmo (by rw [kmo]; rfl)) hr2
    have z150 : q_ir (q_r f140 mo 29) cs := Eq.trans (hF.r hmo (by rw [kmo]; rfl)) hr3
    have z151 : q_ir (q_r f140 mo 30) c1 := Eq.trans (hF.r hmo (by rw [kmo]; rfl)) hr4
    have z152 : q_ir (q_r f140 mo 31) c2 := Eq.trans (hF.r hmo (by rw [kmo]; rfl)) hr5
    have z153 : q_ir (q_r f140 mo 32) c3 := Eq.trans (hF.r hmo (by rw [kmo]; rfl)) hr6
    refine q_iret cx hr hlk hB dX12_does_75 ⟨by omega, by omega⟩ ?_
    exact ⟨(q_isl z145 (by omega)), (q_isu z145 (by omega)), (q_isl z143 (by omega)), (q_isu z143 (by omega)), z146, g144⟩
  by_cases c154 : x117 = 2
  · refine lv_tableIn (tgt := 76) cx.1 cx.2.1 dX12_does_20 (by rw [q_toInt ⟨by omega, by omega⟩]; omega) (by rw [q_toInt ⟨by omega, by omega⟩]; omega) (off := 56) (by rw [q_toInt ⟨by omega, by omega⟩, c154]; rfl) (by decide) ?_
    have h70 : _ = _ := ex111
    have h71 : _ = _ := ex114
    have h72 : _ = _ := ex117
    have h73 := hp0
    unfold k_cc at h73
    have h74 := hp2
    unfold k_may at h74
    have hu_a9 : 0 ≤ x111 ∧ x111 ≤ 9 := by omega
    have hu_b9 : 0 ≤ x114 ∧ x114 ≤ 9 := by omega
    have hu_m59 : xm ≤ 59 := by have h75 : _ = _ := hf1; omega
    clear h70 h71 h72 h73 h74
    refine q_ald_n cx dX12_does_76 rfl (lv_at hl 2 rfl) ?_
    refine q_ild_n cx dX12_does_77 rfl (lv_at hl 1 rfl) ?_
    refine q_ild_n cx dX12_does_78 rfl (lv_at hl 0 rfl) ?_
    refine q_ald_n cx dX12_does_79 rfl (lv_at hl 2 rfl) ?_
    refine q_gX12_60 cx hB hmo kmo hr6 dX12_does_80 (fun hb155 kb155 => ?_)
    refine q_ild_n cx dX12_does_83 rfl (lv_at hl 3 rfl) ?_
    obtain ⟨x156, ex156⟩ : ∃ zz, q_is (q_z f c3 (Int.toNat a0)) zz := ⟨_, q_isr _⟩
    refine q_iald (lo := (-2147483648)) (hi := 2147483647) (n := 60) cx hB hc3 kc3 (by decide) rfl rfl (by omega) (by omega) (by decide) rfl ex156 dX12_does_84 (fun lb157 ub157 => ?_)
    refine q_iconst cx dX12_does_85 ?_
    refine q_cVi (As := [.int (q_i x111), .int (q_i x114), .int (q_i x156), .int (q_i 1)]) (rest := []) cx hB (fun _ h => h) hN hmo kmo (by decide) rfl (r_lays l g hN hB.2.1 mo hmo kmo x111 (by omega) (by omega) x114 (by omega) (by omega) x156 (by omega) (by omega) 1 (by decide) (by decide) sr hsr ksr xt (by omega) (by omega) xm (by omega) (by omega) hf0 hf1 hr0 hgr) q_cX12_417 q_dX12_lays (by decide) rfl rfl hl.1 rfl (Nat.le_of_ble_eq_true rfl) dX12_does_86 (fun y159 H locs f158 ry159 h160 hF hB => ?_)
    obtain ⟨ly159, uy159, z161, g162⟩ := h160
    have z163 : q_is (q_z f158 sr 3) xt := Eq.trans (hF.z hsr (by rw [ksr]; rfl)) hf0
    have z164 : q_is (q_z f158 sr 0) xc := Eq.trans (hF.z hsr (by rw [ksr]; rfl)) hf2
    have z165 : q_ir (q_r f158 mo 13) sr := Eq.trans (hF.r hmo (by rw [kmo]; rfl)) hr0
    have z166 : q_ir (q_r f158 mo 24) hp := Eq.trans (hF.r hmo (by rw [kmo]; rfl)) hr1
    have z167 : q_ir (q_r f158 mo 25) dy := Eq.trans (hF.r hmo (by rw [kmo]; rfl)) hr2
    have z168 : q_ir (q_r f158 mo 29) cs := Eq.trans (hF.r hmo (by rw [kmo]; rfl)) hr3
    have z169 : q_ir (q_r f158 mo 30) c1 := Eq.trans (hF.r hmo (by rw [kmo]; rfl)) hr4
    have z170 : q_ir (q_r f158 mo 31) c2 := Eq.trans (hF.r hmo (by rw [kmo]; rfl)) hr5
    have z171 : q_ir (q_r f158 mo 32) c3 := Eq.trans (hF.r hmo (by rw [kmo]; rfl)) hr6
    refine q_iret cx hr hlk hB dX12_does_89 ⟨by omega, by omega⟩ ?_
    exact ⟨(q_isl z163 (by omega)), (q_isu z163 (by omega)), (q_isl z161 (by omega)), (q_isu z161 (by omega)), z164, g162⟩
  by_cases c172 : x117 = 3
  · refine lv_tableIn (tgt := 90) cx.1 cx.2.1 dX12_does_20 (by rw [q_toInt ⟨by omega, by omega⟩]; omega) (by rw [q_toInt ⟨by omega, by omega⟩]; omega) (off := 70) (by rw [q_toInt ⟨by omega, by omega⟩, c172]; rfl) (by decide) ?_
    have h70 : _ = _ := ex111
    have h71 : _ = _ := ex114
    have h72 : _ = _ := ex117
    have h73 := hp0
    unfold k_cc at h73
    have h74 := hp2
    unfold k_may at h74
    have hu_a9 : 0 ≤ x111 ∧ x111 ≤ 9 := by omega
    have hu_b59 : 0 ≤ x114 ∧ x114 ≤ 59 := by omega
    clear h70 h71 h72 h73 h74
    refine q_ald_n cx dX12_does_90 rfl (lv_at hl 2 rfl) ?_
    refine q_ild_n cx dX12_does_91 rfl (lv_at hl 1 rfl) ?_
    refine q_iconst cx dX12_does_92 ?_
    refine q_cSi (As := [.int (q_i x111), .int (q_i 1)]) (rest := [.ref mo]) cx hB (fun _ h => h) hN (r_nodeCell l g hN hB.2.1 x111 (by omega) (by omega) 1 (by decide) (by decide)) q_cX12_172 q_dX12_nodeCell (by decide) rfl rfl hl.1 rfl (Nat.le_of_ble_eq_true rfl) dX12_does_93 (fun y174 H locs f173 ry174 h175 hF hB => ?_)
    obtain ⟨rfl, qy174⟩ := h175
    refine q_ild_n cx dX12_does_96 rfl (lv_at hl 0 rfl) ?_
    refine q_cVi (As := [.int (q_i y174), .int (q_i x114)]) (rest := []) cx hB (fun _ h => h) hN hmo kmo (by decide) rfl (r_swapsCelln1 l g hN hB.2.1 mo hmo kmo y174 (by omega) (by omega) x114 (by omega) (by omega) sr hsr ksr x111 (by omega) (by omega) hr0 (by omega) hgr) q_cX12_462 q_dX12_swapsCell (by decide) rfl rfl hl.1 rfl (Nat.le_of_ble_eq_true rfl) dX12_does_97 (fun y177 H locs f176 ry177 h178 hF hB => ?_)
    obtain ⟨ly177, uy177, g179⟩ := h178
    have z180 : q_is (q_z f176 sr 3) xt := Eq.trans (hF.z hsr (by rw [ksr]; rfl)) hf0
    have z181 : q_is (q_z f176 sr 4) xm := Eq.trans (hF.z hsr (by rw [ksr]; rfl)) hf1
    have z182 : q_is (q_z f176 sr 0) xc := Eq.trans (hF.z hsr (by rw [ksr]; rfl)) hf2
    have z183 : q_ir (q_r f176 mo 13) sr := Eq.trans (hF.r hmo (by rw [kmo]; rfl)) hr0
    have z184 : q_ir (q_r f176 mo 24) hp := Eq.trans (hF.r hmo (by rw [kmo]; rfl)) hr1
    have z185 : q_ir (q_r f176 mo 25) dy := Eq.trans (hF.r hmo (by rw [kmo]; rfl)) hr2
    have z186 : q_ir (q_r f176 mo 29) cs := Eq.trans (hF.r hmo (by rw [kmo]; rfl)) hr3
    have z187 : q_ir (q_r f176 mo 30) c1 := Eq.trans (hF.r hmo (by rw [kmo]; rfl)) hr4
    have z188 : q_ir (q_r f176 mo 31) c2 := Eq.trans (hF.r hmo (by rw [kmo]; rfl)) hr5
    have z189 : q_ir (q_r f176 mo 32) c3 := Eq.trans (hF.r hmo (by rw [kmo]; rfl)) hr6
    refine q_iret cx hr hlk hB dX12_does_100 ⟨by omega, by omega⟩ ?_
    exact ⟨(q_isl z180 (by omega)), (q_isu z180 (by omega)), (q_isl z181 (by omega)), (q_isu z181 (by omega)), z182, g179⟩
  by_cases c190 : x117 = 4
  · refine lv_tableIn (tgt := 101) cx.1 cx.2.1 dX12_does_20 (by rw [q_toInt ⟨by omega, by omega⟩]; omega) (by rw [q_toInt ⟨by omega, by omega⟩]; omega) (off := 81) (by rw [q_toInt ⟨by omega, by omega⟩, c190]; rfl) (by decide) ?_
    have h70 : _ = _ := ex111
    have h71 : _ = _ := ex114
    have h72 : _ = _ := ex117
    have h73 := hp0
    unfold k_cc at h73
    have h74 := hp2
    unfold k_may at h74
    have hu_a9 : 0 ≤ x111 ∧ x111 ≤ 9 := by omega
    have hu_b59 : 0 ≤ x114 ∧ x114 ≤ 59 := by omega
    clear h70 h71 h72 h73 h74
    refine q_ald_n cx dX12_does_101 rfl (lv_at hl 2 rfl) ?_
    refine q_ild_n cx dX12_does_102 rfl (lv_at hl 1 rfl) ?_
    refine q_ild_n cx dX12_does_103 rfl (lv_at hl 0 rfl) ?_
    refine q_iconst cx dX12_does_104 ?_
    refine q_cVv (As := [.int (q_i x111), .int (q_i x114), .int (q_i 1)]) (rest := []) cx hB (fun _ h => h) hN hmo kmo (by decide) rfl (r_watches l g hN hB.2.1 mo hmo kmo x111 (by omega) (by omega) x114 (by omega) (by omega) 1 (by decide) (by decide) sr hsr ksr hr0 hgr) q_cX12_436 q_dX12_watches (by decide) rfl rfl hl.1 rfl (Nat.le_of_ble_eq_true rfl) dX12_does_105 (fun H locs f191 h193 hF hB => ?_)
    have g194 := h193
    have z195 : q_is (q_z f191 sr 3) xt := Eq.trans (hF.z hsr (by rw [ksr]; rfl)) hf0
    have z196 : q_is (q_z f191 sr 4) xm := Eq.trans (hF.z hsr (by rw [ksr]; rfl)) hf1
    have z197 : q_is (q_z f191 sr 0) xc := Eq.trans (hF.z hsr (by rw [ksr]; rfl)) hf2
    have z198 : q_ir (q_r f191 mo 13) sr := Eq.trans (hF.r hmo (by rw [kmo]; rfl)) hr0
    have z199 : q_ir (q_r f191 mo 24) hp := Eq.trans (hF.r hmo (by rw [kmo]; rfl)) hr1
    have z200 : q_ir (q_r f191 mo 25) dy := Eq.trans (hF.r hmo (by rw [kmo]; rfl)) hr2
    have z201 : q_ir (q_r f191 mo 29) cs := Eq.trans (hF.r hmo (by rw [kmo]; rfl)) hr3
    have z202 : q_ir (q_r f191 mo 30) c1 := Eq.trans (hF.r hmo (by rw [kmo]; rfl)) hr4
    have z203 : q_ir (q_r f191 mo 31) c2 := Eq.trans (hF.r hmo (by rw [kmo]; rfl)) hr5
    have z204 : q_ir (q_r f191 mo 32) c3 := Eq.trans (hF.r hmo (by rw [kmo]; rfl)) hr6
    refine q_iconst cx dX12_does_108 ?_
    refine q_iret cx hr hlk hB dX12_does_109 ⟨by decide, by decide⟩ ?_
    exact ⟨(q_isl z195 (by omega)), (q_isu z195 (by omega)), (q_isl z196 (by omega)), (q_isu z196 (by omega)), z197, g194⟩
  refine lv_tableOut (tgt := 110) cx.1 cx.2.1 dX12_does_20 (by rw [q_toInt ⟨by omega, by omega⟩]; omega) (by decide) ?_
  have h70 : _ = _ := ex111
  have h71 : _ = _ := ex114
  have h72 : _ = _ := ex117
  have h73 := hp0
  unfold k_cc at h73
  have h74 := hp2
  unfold k_may at h74
  have hu_a9 : 0 ≤ x111 ∧ x111 ≤ 9 := by omega
  have hu_b999 : 1 ≤ x114 ∧ x114 ≤ 999 := by omega
  clear h70 h71 h72 h73 h74
  refine q_ald_n cx dX12_does_110 rfl (lv_at hl 2 rfl) ?_
  refine q_ild_n cx dX12_does_111 rfl (lv_at hl 1 rfl) ?_
  refine q_ild_n cx dX12_does_112 rfl (lv_at hl 0 rfl) ?_
  refine q_cVi (As := [.int (q_i x111), .int (q_i x114)]) (rest := []) cx hB (fun _ h => h) hN hmo kmo (by decide) rfl (r_charges l g hN hB.2.1 mo hmo kmo x111 (by omega) (by omega) x114 (by omega) (by omega) sr hsr ksr hr0 hgr) q_cX12_465 q_dX12_charges (by decide) rfl rfl hl.1 rfl (Nat.le_of_ble_eq_true rfl) dX12_does_113 (fun y206 H locs f205 ry206 h207 hF hB => ?_)
  obtain ⟨ly206, uy206, g208⟩ := h207
  have z209 : q_is (q_z f205 sr 3) xt := Eq.trans (hF.z hsr (by rw [ksr]; rfl)) hf0
  have z210 : q_is (q_z f205 sr 4) xm := Eq.trans (hF.z hsr (by rw [ksr]; rfl)) hf1
  have z211 : q_is (q_z f205 sr 0) xc := Eq.trans (hF.z hsr (by rw [ksr]; rfl)) hf2
  have z212 : q_ir (q_r f205 mo 13) sr := Eq.trans (hF.r hmo (by rw [kmo]; rfl)) hr0
  have z213 : q_ir (q_r f205 mo 24) hp := Eq.trans (hF.r hmo (by rw [kmo]; rfl)) hr1
  have z214 : q_ir (q_r f205 mo 25) dy := Eq.trans (hF.r hmo (by rw [kmo]; rfl)) hr2
  have z215 : q_ir (q_r f205 mo 29) cs := Eq.trans (hF.r hmo (by rw [kmo]; rfl)) hr3
  have z216 : q_ir (q_r f205 mo 30) c1 := Eq.trans (hF.r hmo (by rw [kmo]; rfl)) hr4
  have z217 : q_ir (q_r f205 mo 31) c2 := Eq.trans (hF.r hmo (by rw [kmo]; rfl)) hr5
  have z218 : q_ir (q_r f205 mo 32) c3 := Eq.trans (hF.r hmo (by rw [kmo]; rfl)) hr6
  refine q_iret cx hr hlk hB dX12_does_116 ⟨by omega, by omega⟩ ?_
  exact ⟨(q_isl z209 (by omega)), (q_isu z209 (by omega)), (q_isl z210 (by omega)), (q_isu z210 (by omega)), z211, g208⟩
