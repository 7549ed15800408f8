set_option maxHeartbeats 4000000 in
set_option maxRecDepth 100000 in
theorem f_readCosts (l : Launch) (g : q_G) {K : Nat → Nat} {L : List Nat} (hN : L.Nodup) {f : Nat → va_E} (hT : q_Ty g K L f) (B : Nat → Int) (tA : tk_A) (rd : Nat) (hrd : rd ∈ L) (krd : K rd = 9) (so : Nat) (hso : so ∈ L) (kso : K so = 8) (dr : Nat) (hdr : dr ∈ L) (kdr : K dr = 13) (ba : Nat) (hba : ba ∈ L) (kba : K ba = 142) (nds : Nat) (hnds : nds ∈ L) (knds : K nds = 111) (tn : Int) (ltn : 0 ≤ tn) (utn : tn ≤ 600) (ss : Int) (lss : 0 ≤ ss) (uss : ss ≤ 600) (hf0 : q_is (q_z f so 1) tn) (hf1 : q_is (q_z f so 8) ss) (hf2 : q_is (q_z f so 2) 0) (hf3 : q_is (q_z f so 3) (-1)) (hr0 : q_ir (q_r f so 0) ba) (hr1 : q_ir (q_r f dr 0) nds) (htc : tk_tc f so B tn) (htb : tk_tb f ba B tn) (hta : tk_ta K L f rd dr nds tA (tk_has (tk_lk tA))) : q_Ct l g K L yX9_readCosts cX9_readCosts 3 (some .boolean) 4 84 [.ref rd, .ref so, .ref dr] f [(8, 2, 9), (9, 1, 1), (13, 7, 9)] (q_Pi (fun (z : Int) (f1 : Nat → va_E) => (z = 1 ∧ q_is (q_z f1 so 2) 0 ∧ q_is (q_z f1 so 3) (-1) ∧ (∃ A1 : tk_A, tk_costs B tn ss tA = tk_ok (q_z f1 so 8, A1) ∧ tk_ta K L f1 rd dr nds A1 (tk_has (tk_lk A1))) ∧ (tk_tc f1 so B tn)) ∨ (z = 0 ∧ (tk_costs B tn ss tA = tk_er (q_z f1 so 2) (q_z f1 so 3)) ∧ (tk_tc f1 so B tn)))) := by
  refine q_ofb (by decide +kernel) hN hT (Nat.le_of_ble_eq_true rfl) ?_
  intro p e s m below meth c ls cx hr hlk hB hl
  have hl : lv_has ls 3 [(0, .ref rd), (1, .ref so), (2, .ref dr)] := hl
  obtain ⟨H, hH⟩ : ∃ H : Heap, H = s.heap := ⟨_, rfl⟩
  obtain ⟨locs, hlocs⟩ : ∃ z : List Loc, z = [] := ⟨_, rfl⟩
  rw [← hH, ← hlocs] at hB
  rw [← hH, ← hlocs]
  refine q_ald_n cx dX9_readCosts_0 rfl (lv_at hl 0 rfl) ?_
  obtain ⟨x183, ex183⟩ : ∃ zz, q_is (q_z f rd 1) zz := ⟨_, q_isr _⟩
  refine q_gX9_15 cx hB hrd krd ex183 dX9_readCosts_1 (fun lb184 ub184 => ?_)
  refine q_ifeq (tgt := 13) cx ⟨by omega, by omega⟩ dX9_readCosts_4 (by decide) (fun c185 => ?_) (fun c185 => ?_)
  · refine q_ald_n cx dX9_readCosts_13 rfl (lv_at hl 0 rfl) ?_
    refine q_iconst cx dX9_readCosts_14 ?_
    refine q_pX9_15 cx hB hrd krd ⟨by decide, by decide⟩ (by decide) (by decide) rfl dX9_readCosts_15 (fun H locs f186 ef186 z187 hB => ?_)
    have z188 : q_is (q_z f186 so 1) tn := by rw [ef186, q_setz (Or.inl (fun q => by rw [q, krd] at kso; exact absurd kso (by decide)))]; exact hf0
    have z189 : q_is (q_z f186 so 8) ss := by rw [ef186, q_setz (Or.inr (by decide))]; exact hf1
    have z190 : q_is (q_z f186 so 2) 0 := by rw [ef186, q_setz (Or.inr (by decide))]; exact hf2
    have z191 : q_is (q_z f186 so 3) (-1) := by rw [ef186, q_setz (Or.inr (by decide))]; exact hf3
    have z192 : q_ir (q_r f186 so 0) ba := by rw [ef186, q_setr (Or.inr (by decide))]; exact hr0
    have z193 : q_ir (q_r f186 dr 0) nds := by rw [ef186, q_setr (Or.inr (by decide))]; exact hr1
    have g194 : tk_tc f186 so B tn := tk_tc_tr htc (by rw [ef186, q_setz (Or.inr (by decide))]) (by rw [ef186, q_setz (Or.inr (by decide))]) (by rw [ef186, q_setz (Or.inr (by decide))]) (by rw [ef186, q_setj (Or.inr (by decide))]) (by rw [ef186, q_setz (Or.inr (by decide))])
    have g195 : tk_tb f186 ba B tn := tk_tb_tr htb (fun i9 => by rw [ef186, q_setz (Or.inl (fun q => by rw [q, krd] at kba; exact absurd kba (by decide)))])
    have g196 : tk_ta K L f186 rd dr nds (tk_sc tA) (tk_has (tk_lk tA)) := tk_ta_sc hta (by rw [ef186, q_setz (Or.inr (by decide))]) z187 (by rw [ef186, q_setz (Or.inr (by decide))]) (by rw [ef186, q_setz (Or.inr (by decide))]) (by rw [ef186, q_setz (Or.inr (by decide))]) (fun a9 h9 k9 => by rw [ef186, q_setj (Or.inl (fun q => by rw [q, krd] at k9; exact absurd k9 (by decide)))]) (fun a9 h9 k9 => by rw [ef186, q_setz (Or.inl (fun q => by rw [q, krd] at k9; exact absurd k9 (by decide)))]) (fun i9 => by rw [ef186, q_setr (Or.inl (fun q => by rw [q, krd] at knds; exact absurd knds (by decide)))])
    refine q_ald_n cx dX9_readCosts_18 rfl (lv_at hl 1 rfl) ?_
    refine q_cVv (As := []) (rest := []) cx hB (fun _ h => h) hN hso kso (by decide) rfl (f_adv l g hN hB.2.1 B so hso kso ba hba kba tn (by omega) (by omega) ss (by omega) (by omega) z188 z189 z192 g194 g195) q_cX9_78 q_dX8_advance (by decide) rfl rfl hl.1 rfl (Nat.le_of_ble_eq_true rfl) dX9_readCosts_19 (fun H locs f197 h199 hF hB => ?_)
    obtain ⟨t200, g201⟩ := h199
    have z202 : q_is (q_z f197 so 1) tn := Eq.trans (hF.z hso (by rw [kso]; rfl)) z188
    have z203 : q_is (q_z f197 so 2) 0 := Eq.trans (hF.z hso (by rw [kso]; rfl)) z190
    have z204 : q_is (q_z f197 so 3) (-1) := Eq.trans (hF.z hso (by rw [kso]; rfl)) z191
    have z205 : q_is (q_z f197 rd 1) 1 := Eq.trans (hF.z hrd (by rw [krd]; rfl)) z187
    have z206 : q_ir (q_r f197 so 0) ba := Eq.trans (hF.r hso (by rw [kso]; rfl)) z192
    have z207 : q_ir (q_r f197 dr 0) nds := Eq.trans (hF.r hdr (by rw [kdr]; rfl)) z193
    have g208 : tk_tb f197 ba B tn := tk_tb_tr g195 (fun i9 => hF.z hba (by rw [kba]; rfl))
    have g209 : tk_ta K L f197 rd dr nds (tk_sc tA) (tk_has (tk_lk tA)) := tk_ta_tr g196 (hF.z hrd (by rw [krd]; rfl)) (hF.z hrd (by rw [krd]; rfl)) (hF.z hrd (by rw [krd]; rfl)) (hF.z hdr (by rw [kdr]; rfl)) (hF.z hdr (by rw [kdr]; rfl)) (fun a9 h9 k9 => hF.j h9 (by rw [k9]; rfl)) (fun a9 h9 k9 => hF.z h9 (by rw [k9]; rfl)) (fun i9 => hF.r hnds (by rw [knds]; rfl))
    obtain ⟨x210, ex210⟩ : ∃ zz, q_is (q_z f197 so 8) zz := ⟨_, q_isr _⟩
    obtain ⟨lx210, ux210⟩ := q_isb ex210 (q_fib hB.2.1 hso kso (by decide) rfl)
    obtain ⟨-, l0x210, u0x210, -, -⟩ := tk_tc_n g201 ex210
    refine q_ald_n cx dX9_readCosts_22 rfl (lv_at hl 1 rfl) ?_
    refine q_iconst cx dX9_readCosts_23 ?_
    refine q_bipush cx dX9_readCosts_24 rfl ?_
    refine q_cVi (As := [.int (q_i 0), .int (q_i 99)]) (rest := []) cx hB (fun _ h => h) hN hso kso (by decide) rfl (f_takeNumber l g hN hB.2.1 B so hso kso 0 (by decide) (by decide) 99 (by decide) (by decide) ba hba kba tn (by omega) (by omega) x210 (by omega) (by omega) z202 ex210 z203 z204 z206 g201 g208) q_cX9_81 q_dX8_takeNumber (by decide) rfl rfl hl.1 rfl (Nat.le_of_ble_eq_true rfl) dX9_readCosts_26 (fun y212 H locs f211 ry212 h213 hF hB => ?_)
    rcases h213 with h214 | h215
    · obtain ⟨qy212, z216, z217, t218, t219, t220, g221⟩ := h214
      have z222 : q_is (q_z f211 so 1) tn := Eq.trans (hF.z hso (by rw [kso]; rfl)) z202
      have z223 : q_is (q_z f211 rd 1) 1 := Eq.trans (hF.z hrd (by rw [krd]; rfl)) z205
      have z224 : q_ir (q_r f211 so 0) ba := Eq.trans (hF.r hso (by rw [kso]; rfl)) z206
      have z225 : q_ir (q_r f211 dr 0) nds := Eq.trans (hF.r hdr (by rw [kdr]; rfl)) z207
      have g226 : tk_tb f211 ba B tn := tk_tb_tr g208 (fun i9 => hF.z hba (by rw [kba]; rfl))
      have g227 : tk_ta K L f211 rd dr nds (tk_sc tA) (tk_has (tk_lk tA)) := tk_ta_tr g209 (hF.z hrd (by rw [krd]; rfl)) (hF.z hrd (by rw [krd]; rfl)) (hF.z hrd (by rw [krd]; rfl)) (hF.z hdr (by rw [kdr]; rfl)) (hF.z hdr (by rw [kdr]; rfl)) (fun a9 h9 k9 => hF.j h9 (by rw [k9]; rfl)) (fun a9 h9 k9 => hF.z h9 (by rw [k9]; rfl)) (fun i9 => hF.r hnds (by rw [knds]; rfl))
      subst qy212
      obtain ⟨x228, ex228⟩ : ∃ zz, q_is (q_z f211 so 8) zz := ⟨_, q_isr _⟩
      obtain ⟨lx228, ux228⟩ := q_isb ex228 (q_fib hB.2.1 hso kso (by decide) rfl)
      obtain ⟨-, l0x228, u0x228, -, -⟩ := tk_tc_n g221 ex228
      refine q_ifne (tgt := 34) cx ⟨by decide, by decide⟩ dX9_readCosts_29 (by decide) (fun c229 => ?_) (fun c229 => ?_)
      · refine q_ald_n cx dX9_readCosts_34 rfl (lv_at hl 2 rfl) ?_
        refine q_ald_n cx dX9_readCosts_35 rfl (lv_at hl 1 rfl) ?_
        obtain ⟨x230, ex230⟩ : ∃ zz, q_is (q_z f211 so 5) zz := ⟨_, q_isr _⟩
        refine q_gX9_85 cx hB hso kso ex230 dX9_readCosts_36 (fun lb231 ub231 => ?_)
        refine q_pX9_91_13 cx hB hdr kdr ⟨by omega, by omega⟩ (by omega) (by omega) rfl dX9_readCosts_39 (fun H locs f232 ef232 z233 hB => ?_)
        have z234 : q_is (q_z f232 so 1) tn := by rw [ef232, q_setz (Or.inr (by decide))]; exact z222
        have z235 : q_is (q_z f232 rd 1) 1 := by rw [ef232, q_setz (Or.inr (by decide))]; exact z223
        have z236 : q_is (q_z f232 so 2) 0 := by rw [ef232, q_setz (Or.inr (by decide))]; exact z216
        have z237 : q_is (q_z f232 so 3) (-1) := by rw [ef232, q_setz (Or.inr (by decide))]; exact z217
        have z238 : q_is (q_z f232 so 8) x228 := by rw [ef232, q_setz (Or.inr (by decide))]; exact ex228
        have z239 : q_is (q_z f232 so 5) x230 := by rw [ef232, q_setz (Or.inr (by decide))]; exact ex230
        have z240 : q_ir (q_r f232 so 0) ba := by rw [ef232, q_setr (Or.inr (by decide))]; exact z224
        have z241 : q_ir (q_r f232 dr 0) nds := by rw [ef232, q_setr (Or.inr (by decide))]; exact z225
        have g242 : tk_tb f232 ba B tn := tk_tb_tr g226 (fun i9 => by rw [ef232, q_setz (Or.inl (fun q => by rw [q, kdr] at kba; exact absurd kba (by decide)))])
        have g243 : tk_ta K L f232 rd dr nds (tk_sc tA) (tk_has (tk_lk tA)) := tk_ta_tr g227 (by rw [ef232, q_setz (Or.inr (by decide))]) (by rw [ef232, q_setz (Or.inr (by decide))]) (by rw [ef232, q_setz (Or.inr (by decide))]) (by rw [ef232, q_setz (Or.inr (by decide))]) (by rw [ef232, q_setz (Or.inr (by decide))]) (fun a9 h9 k9 => by rw [ef232, q_setj (Or.inl (fun q => by rw [q, kdr] at k9; exact absurd k9 (by decide)))]) (fun a9 h9 k9 => by rw [ef232, q_setz (Or.inl (fun q => by rw [q, kdr] at k9; exact absurd k9 (by decide)))]) (fun i9 => by rw [ef232, q_setr (Or.inl (fun q => by rw [q, kdr] at knds; exact absurd knds (by decide)))])
        have g244 : tk_tc f232 so B tn := tk_tc_tr g221 (by rw [ef232, q_setz (Or.inr (by decide))]) (by rw [ef232, q_setz (Or.inr (by decide))]) (by rw [ef232, q_setz (Or.inr (by decide))]) (by rw [ef232, q_setj (Or.inr (by decide))]) (by rw [ef232, q_setz (Or.inl (fun q => by rw [q, kdr] at kso; exact absurd kso (by decide)))])
        refine q_ald_n cx dX9_readCosts_42 rfl (lv_at hl 1 rfl) ?_
        refine q_iconst cx dX9_readCosts_43 ?_
        refine q_bipush cx dX9_readCosts_44 rfl ?_
        refine q_cVi (As := [.int (q_i 0), .int (q_i 99)]) (rest := []) cx hB (fun _ h => h) hN hso kso (by decide) rfl (f_takeNumber l g hN hB.2.1 B so hso kso 0 (by decide) (by decide) 99 (by decide) (by decide) ba hba kba tn (by omega) (by omega) x228 (by omega) (by omega) z234 z238 z236 z237 z240 g244 g242) q_cX9_81 q_dX8_takeNumber (by decide) rfl rfl hl.1 rfl (Nat.le_of_ble_eq_true rfl) dX9_readCosts_46 (fun y246 H locs f245 ry246 h247 hF hB => ?_)
        rcases h247 with h248 | h249
        · obtain ⟨qy246, z250, z251, t252, t253, t254, g255⟩ := h248
          have z256 : q_is (q_z f245 so 1) tn := Eq.trans (hF.z hso (by rw [kso]; rfl)) z234
          have z257 : q_is (q_z f245 rd 1) 1 := Eq.trans (hF.z hrd (by rw [krd]; rfl)) z235
          have z258 : q_is (q_z f245 dr 7) x230 := Eq.trans (hF.z hdr (by rw [kdr]; rfl)) z233
          have z259 : q_ir (q_r f245 so 0) ba := Eq.trans (hF.r hso (by rw [kso]; rfl)) z240
          have z260 : q_ir (q_r f245 dr 0) nds := Eq.trans (hF.r hdr (by rw [kdr]; rfl)) z241
          have g261 : tk_tb f245 ba B tn := tk_tb_tr g242 (fun i9 => hF.z hba (by rw [kba]; rfl))
          have g262 : tk_ta K L f245 rd dr nds (tk_sc tA) (tk_has (tk_lk tA)) := tk_ta_tr g243 (hF.z hrd (by rw [krd]; rfl)) (hF.z hrd (by rw [krd]; rfl)) (hF.z hrd (by rw [krd]; rfl)) (hF.z hdr (by rw [kdr]; rfl)) (hF.z hdr (by rw [kdr]; rfl)) (fun a9 h9 k9 => hF.j h9 (by rw [k9]; rfl)) (fun a9 h9 k9 => hF.z h9 (by rw [k9]; rfl)) (fun i9 => hF.r hnds (by rw [knds]; rfl))
          subst qy246
          obtain ⟨x263, ex263⟩ : ∃ zz, q_is (q_z f245 so 8) zz := ⟨_, q_isr _⟩
          obtain ⟨lx263, ux263⟩ := q_isb ex263 (q_fib hB.2.1 hso kso (by decide) rfl)
          obtain ⟨-, l0x263, u0x263, -, -⟩ := tk_tc_n g255 ex263
          refine q_ifne (tgt := 54) cx ⟨by decide, by decide⟩ dX9_readCosts_49 (by decide) (fun c264 => ?_) (fun c264 => ?_)
          · refine q_ald_n cx dX9_readCosts_54 rfl (lv_at hl 2 rfl) ?_
            refine q_ald_n cx dX9_readCosts_55 rfl (lv_at hl 1 rfl) ?_
            obtain ⟨x265, ex265⟩ : ∃ zz, q_is (q_z f245 so 5) zz := ⟨_, q_isr _⟩
            refine q_gX9_85 cx hB hso kso ex265 dX9_readCosts_56 (fun lb266 ub266 => ?_)
            refine q_pX9_94_13 cx hB hdr kdr ⟨by omega, by omega⟩ (by omega) (by omega) rfl dX9_readCosts_59 (fun H locs f267 ef267 z268 hB => ?_)
            have z269 : q_is (q_z f267 so 1) tn := by rw [ef267, q_setz (Or.inr (by decide))]; exact z256
            have z270 : q_is (q_z f267 rd 1) 1 := by rw [ef267, q_setz (Or.inr (by decide))]; exact z257
            have z271 : q_is (q_z f267 dr 7) x230 := by rw [ef267, q_setz (Or.inr (by decide))]; exact z258
            have z272 : q_is (q_z f267 so 2) 0 := by rw [ef267, q_setz (Or.inr (by decide))]; exact z250
            have z273 : q_is (q_z f267 so 3) (-1) := by rw [ef267, q_setz (Or.inr (by decide))]; exact z251
            have z274 : q_is (q_z f267 so 8) x263 := by rw [ef267, q_setz (Or.inl (fun q => by rw [q, kdr] at kso; exact absurd kso (by decide)))]; exact ex263
            have z275 : q_is (q_z f267 so 5) x265 := by rw [ef267, q_setz (Or.inr (by decide))]; exact ex265
            have z276 : q_ir (q_r f267 so 0) ba := by rw [ef267, q_setr (Or.inr (by decide))]; exact z259
            have z277 : q_ir (q_r f267 dr 0) nds := by rw [ef267, q_setr (Or.inr (by decide))]; exact z260
            have g278 : tk_tb f267 ba B tn := tk_tb_tr g261 (fun i9 => by rw [ef267, q_setz (Or.inl (fun q => by rw [q, kdr] at kba; exact absurd kba (by decide)))])
            have g279 : tk_ta K L f267 rd dr nds (tk_sc tA) (tk_has (tk_lk tA)) := tk_ta_tr g262 (by rw [ef267, q_setz (Or.inr (by decide))]) (by rw [ef267, q_setz (Or.inr (by decide))]) (by rw [ef267, q_setz (Or.inr (by decide))]) (by rw [ef267, q_setz (Or.inr (by decide))]) (by rw [ef267, q_setz (Or.inr (by decide))]) (fun a9 h9 k9 => by rw [ef267, q_setj (Or.inl (fun q => by rw [q, kdr] at k9; exact absurd k9 (by decide)))]) (fun a9 h9 k9 => by rw [ef267, q_setz (Or.inl (fun q => by rw [q, kdr] at k9; exact absurd k9 (by decide)))]) (fun i9 => by rw [ef267, q_setr (Or.inl (fun q => by rw [q, kdr] at knds; exact absurd knds (by decide)))])
            have g280 : tk_tc f267 so B tn := tk_tc_tr g255 (by rw [ef267, q_setz (Or.inl (fun q => by rw [q, kdr] at kso; exact absurd kso (by decide)))]) (by rw [ef267, q_setz (Or.inr (by decide))]) (by rw [ef267, q_setz (Or.inr (by decide))]) (by rw [ef267, q_setj (Or.inr (by decide))]) (by rw [ef267, q_setz (Or.inr (by decide))])
            refine q_ald_n cx dX9_readCosts_62 rfl (lv_at hl 1 rfl) ?_
            refine q_iconst cx dX9_readCosts_63 ?_
            refine q_bipush cx dX9_readCosts_64 rfl ?_
            refine q_cVi (As := [.int (q_i 0), .int (q_i 99)]) (rest := []) cx hB (fun _ h => h) hN hso kso (by decide) rfl (f_takeNumber l g hN hB.2.1 B so hso kso 0 (by decide) (by decide) 99 (by decide) (by decide) ba hba kba tn (by omega) (by omega) x263 (by omega) (by omega) z269 z274 z272 z273 z276 g280 g278) q_cX9_81 q_dX8_takeNumber (by decide) rfl rfl hl.1 rfl (Nat.le_of_ble_eq_true rfl) dX9_readCosts_66 (fun y282 H locs f281 ry282 h283 hF hB => ?_)
            rcases h283 with h284 | h285
            · obtain ⟨qy282, z286, z287, t288, t289, t290, g291⟩ := h284
              have z292 : q_is (q_z f281 so 1) tn := Eq.trans (hF.z hso (by rw [kso]; rfl)) z269
              have z293 : q_is (q_z f281 rd 1) 1 := Eq.trans (hF.z hrd (by rw [krd]; rfl)) z270
              have z294 : q_is (q_z f281 dr 7) x230 := Eq.trans (hF.z hdr (by rw [kdr]; rfl)) z271
              have z295 : q_is (q_z f281 dr 8) x265 := Eq.trans (hF.z hdr (by rw [kdr]; rfl)) z268
              have z296 : q_ir (q_r f281 so 0) ba := Eq.trans (hF.r hso (by rw [kso]; rfl)) z276
              have z297 : q_ir (q_r f281 dr 0) nds := Eq.trans (hF.r hdr (by rw [kdr]; rfl)) z277
              have g298 : tk_tb f281 ba B tn := tk_tb_tr g278 (fun i9 => hF.z hba (by rw [kba]; rfl))
              have g299 : tk_ta K L f281 rd dr nds (tk_sc tA) (tk_has (tk_lk tA)) := tk_ta_tr g279 (hF.z hrd (by rw [krd]; rfl)) (hF.z hrd (by rw [krd]; rfl)) (hF.z hrd (by rw [krd]; rfl)) (hF.z hdr (by rw [kdr]; rfl)) (hF.z hdr (by rw [kdr]; rfl)) (fun a9 h9 k9 => hF.j h9 (by rw [k9]; rfl)) (fun a9 h9 k9 => hF.z h9 (by rw [k9]; rfl)) (fun i9 => hF.r hnds (by rw [knds]; rfl))
              subst qy282
              obtain ⟨x300, ex300⟩ : ∃ zz, q_is (q_z f281 so 8) zz := ⟨_, q_isr _⟩
              obtain ⟨lx300, ux300⟩ := q_isb ex300 (q_fib hB.2.1 hso kso (by decide) rfl)
              obtain ⟨-, l0x300, u0x300, -, -⟩ := tk_tc_n g291 ex300
              refine q_ifne (tgt := 74) cx ⟨by decide, by decide⟩ dX9_readCosts_69 (by decide) (fun c301 => ?_) (fun c301 => ?_)
              · refine q_ald_n cx dX9_readCosts_74 rfl (lv_at hl 2 rfl) ?_
                refine q_ald_n cx dX9_readCosts_75 rfl (lv_at hl 1 rfl) ?_
                obtain ⟨x302, ex302⟩ : ∃ zz, q_is (q_z f281 so 5) zz := ⟨_, q_isr _⟩
                refine q_gX9_85 cx hB hso kso ex302 dX9_readCosts_76 (fun lb303 ub303 => ?_)
                refine q_pX9_97_13 cx hB hdr kdr ⟨by omega, by omega⟩ (by omega) (by omega) rfl dX9_readCosts_79 (fun H locs f304 ef304 z305 hB => ?_)
                have z306 : q_is (q_z f304 so 1) tn := by rw [ef304, q_setz (Or.inr (by decide))]; exact z292
                have z307 : q_is (q_z f304 rd 1) 1 := by rw [ef304, q_setz (Or.inr (by decide))]; exact z293
                have z308 : q_is (q_z f304 dr 7) x230 := by rw [ef304, q_setz (Or.inr (by decide))]; exact z294
                have z309 : q_is (q_z f304 dr 8) x265 := by rw [ef304, q_setz (Or.inr (by decide))]; exact z295
                have z310 : q_is (q_z f304 so 2) 0 := by rw [ef304, q_setz (Or.inr (by decide))]; exact z286
                have z311 : q_is (q_z f304 so 3) (-1) := by rw [ef304, q_setz (Or.inr (by decide))]; exact z287
                have z312 : q_is (q_z f304 so 8) x300 := by rw [ef304, q_setz (Or.inr (by decide))]; exact ex300
                have z313 : q_is (q_z f304 so 5) x302 := by rw [ef304, q_setz (Or.inr (by decide))]; exact ex302
                have z314 : q_ir (q_r f304 so 0) ba := by rw [ef304, q_setr (Or.inr (by decide))]; exact z296
                have z315 : q_ir (q_r f304 dr 0) nds := by rw [ef304, q_setr (Or.inr (by decide))]; exact z297
                have g316 : tk_tb f304 ba B tn := tk_tb_tr g298 (fun i9 => by rw [ef304, q_setz (Or.inl (fun q => by rw [q, kdr] at kba; exact absurd kba (by decide)))])
                have g317 : tk_ta K L f304 rd dr nds (tk_sc tA) (tk_has (tk_lk tA)) := tk_ta_tr g299 (by rw [ef304, q_setz (Or.inr (by decide))]) (by rw [ef304, q_setz (Or.inr (by decide))]) (by rw [ef304, q_setz (Or.inr (by decide))]) (by rw [ef304, q_setz (Or.inr (by decide))]) (by rw [ef304, q_setz (Or.inr (by decide))]) (fun a9 h9 k9 => by rw [ef304, q_setj (Or.inl (fun q => by rw [q, kdr] at k9; exact absurd k9 (by decide)))]) (fun a9 h9 k9 => by rw [ef304, q_setz (Or.inl (fun q => by rw [q, kdr] at k9; exact absurd k9 (by decide)))]) (fun i9 => by rw [ef304, q_setr (Or.inl (fun q => by rw [q, kdr] at knds; exact absurd knds (by decide)))])
                have g318 : tk_tc f304 so B tn := tk_tc_tr g291 (by rw [ef304, q_setz (Or.inr (by decide))]) (by rw [ef304, q_setz (Or.inr (by decide))]) (by rw [ef304, q_setz (Or.inl (fun q => by rw [q, kdr] at kso; exact absurd kso (by decide)))]) (by rw [ef304, q_setj (Or.inr (by decide))]) (by rw [ef304, q_setz (Or.inr (by decide))])
                refine q_iconst cx dX9_readCosts_82 ?_
                refine q_zret cx hr hlk hB dX9_readCosts_83 (by decide) (by decide) ?_
                exact (Or.inl ⟨rfl, z310, z311, ⟨(tk_sc tA), tk_okp (tk_costs_ok (tk_b2f hta.1.2.1 ex183 (by omega)) (Eq.trans (Eq.symm ex210) t200) (tk_okx t218 ex228) (tk_okx t252 ex263) (tk_okx t288 ex300)) z312, g317⟩, g318⟩)
              · exact absurd c301 (by omega)
            · obtain ⟨qy282, t319, g320⟩ := h285
              have z321 : q_is (q_z f281 so 1) tn := Eq.trans (hF.z hso (by rw [kso]; rfl)) z269
              have z322 : q_is (q_z f281 rd 1) 1 := Eq.trans (hF.z hrd (by rw [krd]; rfl)) z270
              have z323 : q_is (q_z f281 dr 7) x230 := Eq.trans (hF.z hdr (by rw [kdr]; rfl)) z271
              have z324 : q_is (q_z f281 dr 8) x265 := Eq.trans (hF.z hdr (by rw [kdr]; rfl)) z268
              have z325 : q_ir (q_r f281 so 0) ba := Eq.trans (hF.r hso (by rw [kso]; rfl)) z276
              have z326 : q_ir (q_r f281 dr 0) nds := Eq.trans (hF.r hdr (by rw [kdr]; rfl)) z277
              have g327 : tk_tb f281 ba B tn := tk_tb_tr g278 (fun i9 => hF.z hba (by rw [kba]; rfl))
              have g328 : tk_ta K L f281 rd dr nds (tk_sc tA) (tk_has (tk_lk tA)) := tk_ta_tr g279 (hF.z hrd (by rw [krd]; rfl)) (hF.z hrd (by rw [krd]; rfl)) (hF.z hrd (by rw [krd]; rfl)) (hF.z hdr (by rw [kdr]; rfl)) (hF.z hdr (by rw [kdr]; rfl)) (fun a9 h9 k9 => hF.j h9 (by rw [k9]; rfl)) (fun a9 h9 k9 => hF.z h9 (by rw [k9]; rfl)) (fun i9 => hF.r hnds (by rw [knds]; rfl))
              subst qy282
              obtain ⟨x329, ex329⟩ : ∃ zz, q_is (q_z f281 so 8) zz := ⟨_, q_isr _⟩
              obtain ⟨lx329, ux329⟩ := q_isb ex329 (q_fib hB.2.1 hso kso (by decide) rfl)
              obtain ⟨-, l0x329, u0x329, -, -⟩ := tk_tc_n g320 ex329
              refine q_ifne (tgt := 74) cx ⟨by decide, by decide⟩ dX9_readCosts_69 (by decide) (fun c330 => ?_) (fun c330 => ?_)
              · exact absurd c330 (by omega)
              · refine q_iconst cx dX9_readCosts_72 ?_
                refine q_zret cx hr hlk hB dX9_readCosts_73 (by decide) (by decide) ?_
                exact (Or.inr ⟨rfl, (tk_costs_e3 (tk_b2f hta.1.2.1 ex183 (by omega)) (Eq.trans (Eq.symm ex210) t200) (tk_okx t218 ex228) (tk_okx t252 ex263) t319), g320⟩)
          · exact absurd c264 (by omega)
        · obtain ⟨qy246, t331, g332⟩ := h249
          have z333 : q_is (q_z f245 so 1) tn := Eq.trans (hF.z hso (by rw [kso]; rfl)) z234
          have z334 : q_is (q_z f245 rd 1) 1 := Eq.trans (hF.z hrd (by rw [krd]; rfl)) z235
          have z335 : q_is (q_z f245 dr 7) x230 := Eq.trans (hF.z hdr (by rw [kdr]; rfl)) z233
          have z336 : q_ir (q_r f245 so 0) ba := Eq.trans (hF.r hso (by rw [kso]; rfl)) z240
          have z337 : q_ir (q_r f245 dr 0) nds := Eq.trans (hF.r hdr (by rw [kdr]; rfl)) z241
          have g338 : tk_tb f245 ba B tn := tk_tb_tr g242 (fun i9 => hF.z hba (by rw [kba]; rfl))
          have g339 : tk_ta K L f245 rd dr nds (tk_sc tA) (tk_has (tk_lk tA)) := tk_ta_tr g243 (hF.z hrd (by rw [krd]; rfl)) (hF.z hrd (by rw [krd]; rfl)) (hF.z hrd (by rw [krd]; rfl)) (hF.z hdr (by rw [kdr]; rfl)) (hF.z hdr (by rw [kdr]; rfl)) (fun a9 h9 k9 => hF.j h9 (by rw [k9]; rfl)) (fun a9 h9 k9 => hF.z h9 (by rw [k9]; rfl)) (fun i9 => hF.r hnds (by rw [knds]; rfl))
          subst qy246
          obtain ⟨x340, ex340⟩ : ∃ zz, q_is (q_z f245 so 8) zz := ⟨_, q_isr _⟩
          obtain ⟨lx340, ux340⟩ := q_isb ex340 (q_fib hB.2.1 hso kso (by decide) rfl)
          obtain ⟨-, l0x340, u0x340, -, -⟩ := tk_tc_n g332 ex340
          refine q_ifne (tgt := 54) cx ⟨by decide, by decide⟩ dX9_readCosts_49 (by decide) (fun c341 => ?_) (fun c341 => ?_)
          · exact absurd c341 (by omega)
          · refine q_iconst cx dX9_readCosts_52 ?_
            refine q_zret cx hr hlk hB dX9_readCosts_53 (by decide) (by decide) ?_
            exact (Or.inr ⟨rfl, (tk_costs_e2 (tk_b2f hta.1.2.1 ex183 (by omega)) (Eq.trans (Eq.symm ex210) t200) (tk_okx t218 ex228) t331), g332⟩)
      · exact absurd c229 (by omega)
    · obtain ⟨qy212, t342, g343⟩ := h215
      have z344 : q_is (q_z f211 so 1) tn := Eq.trans (hF.z hso (by rw [kso]; rfl)) z202
      have z345 : q_is (q_z f211 rd 1) 1 := Eq.trans (hF.z hrd (by rw [krd]; rfl)) z205
      have z346 : q_ir (q_r f211 so 0) ba := Eq.trans (hF.r hso (by rw [kso]; rfl)) z206
      have z347 : q_ir (q_r f211 dr 0) nds := Eq.trans (hF.r hdr (by rw [kdr]; rfl)) z207
      have g348 : tk_tb f211 ba B tn := tk_tb_tr g208 (fun i9 => hF.z hba (by rw [kba]; rfl))
      have g349 : tk_ta K L f211 rd dr nds (tk_sc tA) (tk_has (tk_lk tA)) := tk_ta_tr g209 (hF.z hrd (by rw [krd]; rfl)) (hF.z hrd (by rw [krd]; rfl)) (hF.z hrd (by rw [krd]; rfl)) (hF.z hdr (by rw [kdr]; rfl)) (hF.z hdr (by rw [kdr]; rfl)) (fun a9 h9 k9 => hF.j h9 (by rw [k9]; rfl)) (fun a9 h9 k9 => hF.z h9 (by rw [k9]; rfl)) (fun i9 => hF.r hnds (by rw [knds]; rfl))
      subst qy212
      obtain ⟨x350, ex350⟩ : ∃ zz, q_is (q_z f211 so 8) zz := ⟨_, q_isr _⟩
      obtain ⟨lx350, ux350⟩ := q_isb ex350 (q_fib hB.2.1 hso kso (by decide) rfl)
      obtain ⟨-, l0x350, u0x350, -, -⟩ := tk_tc_n g343 ex350
      refine q_ifne (tgt := 34) cx ⟨by decide, by decide⟩ dX9_readCosts_29 (by decide) (fun c351 => ?_) (fun c351 => ?_)
      · exact absurd c351 (by omega)
      · refine q_iconst cx dX9_readCosts_32 ?_
        refine q_zret cx hr hlk hB dX9_readCosts_33 (by decide) (by decide) ?_
        exact (Or.inr ⟨rfl, (tk_costs_e1 (tk_b2f hta.1.2.1 ex183 (by omega)) (Eq.trans (Eq.symm ex210) t200) t342), g343⟩)
  · refine q_ald_n cx dX9_readCosts_7 rfl (lv_at hl 1 rfl) ?_
    refine q_iconst cx dX9_readCosts_8 ?_
    refine q_cVi (As := [.int (q_i 3)]) (rest := []) cx hB (fun _ h => h) hN hso kso (by decide) rfl (f_fail l g hN hB.2.1 B so hso kso 3 (by decide) (by decide) ba hba kba tn (by omega) (by omega) ss (by omega) (by omega) hf0 hf1 hr0 htc htb) q_cX9_75 q_dX8_fail (by decide) rfl rfl hl.1 rfl (Nat.le_of_ble_eq_true rfl) dX9_readCosts_9 (fun y353 H locs f352 ry353 h354 hF hB => ?_)
    obtain ⟨qy353, z355, z356⟩ := h354
    have z357 : q_is (q_z f352 so 1) tn := Eq.trans (hF.z hso (by rw [kso]; rfl)) hf0
    have z358 : q_is (q_z f352 so 8) ss := Eq.trans (hF.z hso (by rw [kso]; rfl)) hf1
    have z359 : q_is (q_z f352 rd 1) x183 := Eq.trans (hF.z hrd (by rw [krd]; rfl)) ex183
    have z360 : q_ir (q_r f352 so 0) ba := Eq.trans (hF.r hso (by rw [kso]; rfl)) hr0
    have z361 : q_ir (q_r f352 dr 0) nds := Eq.trans (hF.r hdr (by rw [kdr]; rfl)) hr1
    have g362 : tk_tc f352 so B tn := tk_tc_tr htc (hF.z hso (by rw [kso]; rfl)) (hF.z hso (by rw [kso]; rfl)) (hF.z hso (by rw [kso]; rfl)) (hF.j hso (by rw [kso]; rfl)) (hF.z hso (by rw [kso]; rfl))
    have g363 : tk_tb f352 ba B tn := tk_tb_tr htb (fun i9 => hF.z hba (by rw [kba]; rfl))
    have g364 : tk_ta K L f352 rd dr nds tA (tk_has (tk_lk tA)) := tk_ta_tr hta (hF.z hrd (by rw [krd]; rfl)) (hF.z hrd (by rw [krd]; rfl)) (hF.z hrd (by rw [krd]; rfl)) (hF.z hdr (by rw [kdr]; rfl)) (hF.z hdr (by rw [kdr]; rfl)) (fun a9 h9 k9 => hF.j h9 (by rw [k9]; rfl)) (fun a9 h9 k9 => hF.z h9 (by rw [k9]; rfl)) (fun i9 => hF.r hnds (by rw [knds]; rfl))
    subst qy353
    refine q_zret cx hr hlk hB dX9_readCosts_12 (by decide) (by decide) ?_
    exact (Or.inr ⟨rfl, (tk_costs_told (tk_b2t hta.1.2.1 ex183 (by omega)) z355 z356), g362⟩)
set_option maxHeartbeats 4000000 in
set_option maxRecDepth 100000 in
theorem f_readMiss (l : Launch) (g : q_G) {K : Nat → Nat} {L : List Nat} (hN : L.Nodup) {f : Nat → va_E} (hT : q_Ty g K L f) (B : Nat → Int) (tA : tk_A) (rd : Nat) (hrd : rd ∈ L) (krd : K rd = 9) (so : Nat) (hso : so ∈ L) (kso : K so = 8) (dr : Nat) (hdr : dr ∈ L) (kdr : K dr = 13) (ba : Nat) (hba : ba ∈ L) (kba : K ba = 142) (nds : Nat) (hnds : nds ∈ L) (knds : K nds = 111) (tn : Int) (ltn : 0 ≤ tn) (utn : tn ≤ 600) (ss : Int) (lss : 0 ≤ ss) (uss : ss ≤ 600) (hf0 : q_is (q_z f so 1) tn) (hf1 : q_is (q_z f so 8) ss) (hf2 : q_is (q_z f so 2) 0) (hf3 : q_is (q_z f so 3) (-1)) (hr0 : q_ir (q_r f so 0) ba) (hr1 : q_ir (q_r f dr 0) nds) (htc : tk_tc f so B tn) (htb : tk_tb f ba B tn) (hta : tk_ta K L f rd dr nds tA (tk_has (tk_lk tA))) : q_Ct l g K L yX9_readMiss cX9_readMiss 3 (some .boolean) 4 84 [.ref rd, .ref so, .ref dr] f [(8, 2, 9), (9, 2, 2), (13, 10, 10)] (q_Pi (fun (z : Int) (f1 : Nat → va_E) => (z = 1 ∧ q_is (q_z f1 so 2) 0 ∧ q_is (q_z f1 so 3) (-1) ∧ (∃ A1 : tk_A, tk_miss B tn ss tA = tk_ok (q_z f1 so 8, A1) ∧ tk_ta K L f1 rd dr nds A1 (tk_has (tk_lk A1))) ∧ (tk_tc f1 so B tn)) ∨ (z = 0 ∧ (tk_miss B tn ss tA = tk_er (q_z f1 so 2) (q_z f1 so 3)) ∧ (tk_tc f1 so B tn)))) := by
  refine q_ofb (by decide +kernel) hN hT (Nat.le_of_ble_eq_true rfl) ?_
  intro p e s m below meth c ls cx hr hlk hB hl
  have hl : lv_has ls 3 [(0, .ref rd), (1, .ref so), (2, .ref dr)] := hl
  obtain ⟨H, hH⟩ : ∃ H : Heap, H = s.heap := ⟨_, rfl⟩
  obtain ⟨locs, hlocs⟩ : ∃ z : List Loc, z = [] := ⟨_, rfl⟩
  rw [← hH, ← hlocs] at hB
  rw [← hH, ← hlocs]
  refine q_ald_n cx dX9_readMiss_0 rfl (lv_at hl 0 rfl) ?_
  obtain ⟨x86, ex86⟩ : ∃ zz, q_is (q_z f rd 2) zz := ⟨_, q_isr _⟩
  refine q_gX9_18 cx hB hrd krd ex86 dX9_readMiss_1 (fun lb87 ub87 => ?_)
  refine q_ifeq (tgt := 13) cx ⟨by omega, by omega⟩ dX9_readMiss_4 (by decide) (fun c88 => ?_) (fun c88 => ?_)
  · refine q_ald_n cx dX9_readMiss_13 rfl (lv_at hl 0 rfl) ?_
    refine q_iconst cx dX9_readMiss_14 ?_
    refine q_pX9_18 cx hB hrd krd ⟨by decide, by decide⟩ (by decide) (by decide) rfl dX9_readMiss_15 (fun H locs f89 ef89 z90 hB => ?_)
    have z91 : q_is (q_z f89 so 1) tn := by rw [ef89, q_setz (Or.inr (by decide))]; exact hf0
    have z92 : q_is (q_z f89 so 8) ss := by rw [ef89, q_setz (Or.inr (by decide))]; exact hf1
    have z93 : q_is (q_z f89 so 2) 0 := by rw [ef89, q_setz (Or.inl (fun q => by rw [q, krd] at kso; exact absurd kso (by decide)))]; exact hf2
    have z94 : q_is (q_z f89 so 3) (-1) := by rw [ef89, q_setz (Or.inr (by decide))]; exact hf3
    have z95 : q_ir (q_r f89 so 0) ba := by rw [ef89, q_setr (Or.inr (by decide))]; exact hr0
    have z96 : q_ir (q_r f89 dr 0) nds := by rw [ef89, q_setr (Or.inr (by decide))]; exact hr1
    have g97 : tk_tc f89 so B tn := tk_tc_tr htc (by rw [ef89, q_setz (Or.inr (by decide))]) (by rw [ef89, q_setz (Or.inr (by decide))]) (by rw [ef89, q_setz (Or.inr (by decide))]) (by rw [ef89, q_setj (Or.inr (by decide))]) (by rw [ef89, q_setz (Or.inr (by decide))])
    have g98 : tk_tb f89 ba B tn := tk_tb_tr htb (fun i9 => by rw [ef89, q_setz (Or.inl (fun q => by rw [q, krd] at kba; exact absurd kba (by decide)))])
    have g99 : tk_ta K L f89 rd dr nds (tk_sm tA) (tk_has (tk_lk tA)) := tk_ta_sm hta (by rw [ef89, q_setz (Or.inr (by decide))]) (by rw [ef89, q_setz (Or.inr (by decide))]) z90 (by rw [ef89, q_setz (Or.inr (by decide))]) (by rw [ef89, q_setz (Or.inr (by decide))]) (fun a9 h9 k9 => by rw [ef89, q_setj (Or.inl (fun q => by rw [q, krd] at k9; exact absurd k9 (by decide)))]) (fun a9 h9 k9 => by rw [ef89, q_setz (Or.inl (fun q => by rw [q, krd] at k9; exact absurd k9 (by decide)))]) (fun i9 => by rw [ef89, q_setr (Or.inl (fun q => by rw [q, krd] at knds; exact absurd knds (by decide)))])
    refine q_ald_n cx dX9_readMiss_18 rfl (lv_at hl 1 rfl) ?_
    refine q_cVv (As := []) (rest := []) cx hB (fun _ h => h) hN hso kso (by decide) rfl (f_adv l g hN hB.2.1 B so hso kso ba hba kba tn (by omega) (by omega) ss (by omega) (by omega) z91 z92 z95 g97 g98) q_cX9_78 q_dX8_advance (by decide) rfl rfl hl.1 rfl (Nat.le_of_ble_eq_true rfl) dX9_readMiss_19 (fun H locs f100 h102 hF hB => ?_)
    obtain ⟨t103, g104⟩ := h102
    have z105 : q_is (q_z f100 so 1) tn := Eq.trans (hF.z hso (by rw [kso]; rfl)) z91
    have z106 : q_is (q_z f100 so 2) 0 := Eq.trans (hF.z hso (by rw [kso]; rfl)) z93
    have z107 : q_is (q_z f100 so 3) (-1) := Eq.trans (hF.z hso (by rw [kso]; rfl)) z94
    have z108 : q_is (q_z f100 rd 2) 1 := Eq.trans (hF.z hrd (by rw [krd]; rfl)) z90
    have z109 : q_ir (q_r f100 so 0) ba := Eq.trans (hF.r hso (by rw [kso]; rfl)) z95
    have z110 : q_ir (q_r f100 dr 0) nds := Eq.trans (hF.r hdr (by rw [kdr]; rfl)) z96
    have g111 : tk_tb f100 ba B tn := tk_tb_tr g98 (fun i9 => hF.z hba (by rw [kba]; rfl))
    have g112 : tk_ta K L f100 rd dr nds (tk_sm tA) (tk_has (tk_lk tA)) := tk_ta_tr g99 (hF.z hrd (by rw [krd]; rfl)) (hF.z hrd (by rw [krd]; rfl)) (hF.z hrd (by rw [krd]; rfl)) (hF.z hdr (by rw [kdr]; rfl)) (hF.z hdr (by rw [kdr]; rfl)) (fun a9 h9 k9 => hF.j h9 (by rw [k9]; rfl)) (fun a9 h9 k9 => hF.z h9 (by rw [k9]; rfl)) (fun i9 => hF.r hnds (by rw [knds]; rfl))
    obtain ⟨x113, ex113⟩ : ∃ zz, q_is (q_z f100 so 8) zz := ⟨_, q_isr _⟩
    obtain ⟨lx113, ux113⟩ := q_isb ex113 (q_fib hB.2.1 hso kso (by decide) rfl)
    obtain ⟨-, l0x113, u0x113, -, -⟩ := tk_tc_n g104 ex113
    refine q_ald_n cx dX9_readMiss_22 rfl (lv_at hl 1 rfl) ?_
    refine q_iconst cx dX9_readMiss_23 ?_
    refine q_bipush cx dX9_readMiss_24 rfl ?_
    refine q_cVi (As := [.int (q_i 1), .int (q_i 9)]) (rest := []) cx hB (fun _ h => h) hN hso kso (by decide) rfl (f_takeNumber l g hN hB.2.1 B so hso kso 1 (by decide) (by decide) 9 (by decide) (by decide) ba hba kba tn (by omega) (by omega) x113 (by omega) (by omega) z105 ex113 z106 z107 z109 g104 g111) q_cX9_81 q_dX8_takeNumber (by decide) rfl rfl hl.1 rfl (Nat.le_of_ble_eq_true rfl) dX9_readMiss_26 (fun y115 H locs f114 ry115 h116 hF hB => ?_)
    rcases h116 with h117 | h118
    · obtain ⟨qy115, z119, z120, t121, t122, t123, g124⟩ := h117
      have z125 : q_is (q_z f114 so 1) tn := Eq.trans (hF.z hso (by rw [kso]; rfl)) z105
      have z126 : q_is (q_z f114 rd 2) 1 := Eq.trans (hF.z hrd (by rw [krd]; rfl)) z108
      have z127 : q_ir (q_r f114 so 0) ba := Eq.trans (hF.r hso (by rw [kso]; rfl)) z109
      have z128 : q_ir (q_r f114 dr 0) nds := Eq.trans (hF.r hdr (by rw [kdr]; rfl)) z110
      have g129 : tk_tb f114 ba B tn := tk_tb_tr g111 (fun i9 => hF.z hba (by rw [kba]; rfl))
      have g130 : tk_ta K L f114 rd dr nds (tk_sm tA) (tk_has (tk_lk tA)) := tk_ta_tr g112 (hF.z hrd (by rw [krd]; rfl)) (hF.z hrd (by rw [krd]; rfl)) (hF.z hrd (by rw [krd]; rfl)) (hF.z hdr (by rw [kdr]; rfl)) (hF.z hdr (by rw [kdr]; rfl)) (fun a9 h9 k9 => hF.j h9 (by rw [k9]; rfl)) (fun a9 h9 k9 => hF.z h9 (by rw [k9]; rfl)) (fun i9 => hF.r hnds (by rw [knds]; rfl))
      subst qy115
      obtain ⟨x131, ex131⟩ : ∃ zz, q_is (q_z f114 so 8) zz := ⟨_, q_isr _⟩
      obtain ⟨lx131, ux131⟩ := q_isb ex131 (q_fib hB.2.1 hso kso (by decide) rfl)
      obtain ⟨-, l0x131, u0x131, -, -⟩ := tk_tc_n g124 ex131
      refine q_ifne (tgt := 34) cx ⟨by decide, by decide⟩ dX9_readMiss_29 (by decide) (fun c132 => ?_) (fun c132 => ?_)
      · refine q_ald_n cx dX9_readMiss_34 rfl (lv_at hl 2 rfl) ?_
        refine q_ald_n cx dX9_readMiss_35 rfl (lv_at hl 1 rfl) ?_
        obtain ⟨x133, ex133⟩ : ∃ zz, q_is (q_z f114 so 5) zz := ⟨_, q_isr _⟩
        refine q_gX9_85 cx hB hso kso ex133 dX9_readMiss_36 (fun lb134 ub134 => ?_)
        refine q_pX9_100_13 cx hB hdr kdr ⟨by omega, by omega⟩ (by omega) (by omega) rfl dX9_readMiss_39 (fun H locs f135 ef135 z136 hB => ?_)
        have z137 : q_is (q_z f135 so 1) tn := by rw [ef135, q_setz (Or.inr (by decide))]; exact z125
        have z138 : q_is (q_z f135 rd 2) 1 := by rw [ef135, q_setz (Or.inr (by decide))]; exact z126
        have z139 : q_is (q_z f135 so 2) 0 := by rw [ef135, q_setz (Or.inr (by decide))]; exact z119
        have z140 : q_is (q_z f135 so 3) (-1) := by rw [ef135, q_setz (Or.inr (by decide))]; exact z120
        have z141 : q_is (q_z f135 so 8) x131 := by rw [ef135, q_setz (Or.inr (by decide))]; exact ex131
        have z142 : q_is (q_z f135 so 5) x133 := by rw [ef135, q_setz (Or.inr (by decide))]; exact ex133
        have z143 : q_ir (q_r f135 so 0) ba := by rw [ef135, q_setr (Or.inr (by decide))]; exact z127
        have z144 : q_ir (q_r f135 dr 0) nds := by rw [ef135, q_setr (Or.inr (by decide))]; exact z128
        have g145 : tk_tb f135 ba B tn := tk_tb_tr g129 (fun i9 => by rw [ef135, q_setz (Or.inl (fun q => by rw [q, kdr] at kba; exact absurd kba (by decide)))])
        have g146 : tk_ta K L f135 rd dr nds (tk_sm tA) (tk_has (tk_lk tA)) := tk_ta_tr g130 (by rw [ef135, q_setz (Or.inr (by decide))]) (by rw [ef135, q_setz (Or.inr (by decide))]) (by rw [ef135, q_setz (Or.inr (by decide))]) (by rw [ef135, q_setz (Or.inr (by decide))]) (by rw [ef135, q_setz (Or.inr (by decide))]) (fun a9 h9 k9 => by rw [ef135, q_setj (Or.inl (fun q => by rw [q, kdr] at k9; exact absurd k9 (by decide)))]) (fun a9 h9 k9 => by rw [ef135, q_setz (Or.inl (fun q => by rw [q, kdr] at k9; exact absurd k9 (by decide)))]) (fun i9 => by rw [ef135, q_setr (Or.inl (fun q => by rw [q, kdr] at knds; exact absurd knds (by decide)))])
        have g147 : tk_tc f135 so B tn := tk_tc_tr g124 (by rw [ef135, q_setz (Or.inr (by decide))]) (by rw [ef135, q_setz (Or.inr (by decide))]) (by rw [ef135, q_setz (Or.inr (by decide))]) (by rw [ef135, q_setj (Or.inr (by decide))]) (by rw [ef135, q_setz (Or.inr (by decide))])
        refine q_iconst cx dX9_readMiss_42 ?_
        refine q_zret cx hr hlk hB dX9_readMiss_43 (by decide) (by decide) ?_
        exact (Or.inl ⟨rfl, z139, z140, ⟨(tk_sm tA), tk_okp (tk_miss_ok (tk_b2f hta.1.2.2 ex86 (by omega)) (Eq.trans (Eq.symm ex113) t103) (tk_okx t121 ex131)) z141, g146⟩, g147⟩)
      · exact absurd c132 (by omega)
    · obtain ⟨qy115, t148, g149⟩ := h118
      have z150 : q_is (q_z f114 so 1) tn := Eq.trans (hF.z hso (by rw [kso]; rfl)) z105
      have z151 : q_is (q_z f114 rd 2) 1 := Eq.trans (hF.z hrd (by rw [krd]; rfl)) z108
      have z152 : q_ir (q_r f114 so 0) ba := Eq.trans (hF.r hso (by rw [kso]; rfl)) z109
      have z153 : q_ir (q_r f114 dr 0) nds := Eq.trans (hF.r hdr (by rw [kdr]; rfl)) z110
      have g154 : tk_tb f114 ba B tn := tk_tb_tr g111 (fun i9 => hF.z hba (by rw [kba]; rfl))
      have g155 : tk_ta K L f114 rd dr nds (tk_sm tA) (tk_has (tk_lk tA)) := tk_ta_tr g112 (hF.z hrd (by rw [krd]; rfl)) (hF.z hrd (by rw [krd]; rfl)) (hF.z hrd (by rw [krd]; rfl)) (hF.z hdr (by rw [kdr]; rfl)) (hF.z hdr (by rw [kdr]; rfl)) (fun a9 h9 k9 => hF.j h9 (by rw [k9]; rfl)) (fun a9 h9 k9 => hF.z h9 (by rw [k9]; rfl)) (fun i9 => hF.r hnds (by rw [knds]; rfl))
      subst qy115
      obtain ⟨x156, ex156⟩ : ∃ zz, q_is (q_z f114 so 8) zz := ⟨_, q_isr _⟩
      obtain ⟨lx156, ux156⟩ := q_isb ex156 (q_fib hB.2.1 hso kso (by decide) rfl)
      obtain ⟨-, l0x156, u0x156, -, -⟩ := tk_tc_n g149 ex156
      refine q_ifne (tgt := 34) cx ⟨by decide, by decide⟩ dX9_readMiss_29 (by decide) (fun c157 => ?_) (fun c157 => ?_)
      · exact absurd c157 (by omega)
      · refine q_iconst cx dX9_readMiss_32 ?_
        refine q_zret cx hr hlk hB dX9_readMiss_33 (by decide) (by decide) ?_
        exact (Or.inr ⟨rfl, (tk_miss_e1 (tk_b2f hta.1.2.2 ex86 (by omega)) (Eq.trans (Eq.symm ex113) t103) t148), g149⟩)
  · refine q_ald_n cx dX9_readMiss_7 rfl (lv_at hl 1 rfl) ?_
    refine q_iconst cx dX9_readMiss_8 ?_
    refine q_cVi (As := [.int (q_i 3)]) (rest := []) cx hB (fun _ h => h) hN hso kso (by decide) rfl (f_fail l g hN hB.2.1 B so hso kso 3 (by decide) (by decide) ba hba kba tn (by omega) (by omega) ss (by omega) (by omega) hf0 hf1 hr0 htc htb) q_cX9_75 q_dX8_fail (by decide) rfl rfl hl.1 rfl (Nat.le_of_ble_eq_true rfl) dX9_readMiss_9 (fun y159 H locs f158 ry159 h160 hF hB => ?_)
    obtain ⟨qy159, z161, z162⟩ := h160
    have z163 : q_is (q_z f158 so 1) tn := Eq.trans (hF.z hso (by rw [kso]; rfl)) hf0
    have z164 : q_is (q_z f158 so 8) ss := Eq.trans (hF.z hso (by rw [kso]; rfl)) hf1
    have z165 : q_is (q_z f158 rd 2) x86 := Eq.trans (hF.z hrd (by rw [krd]; rfl)) ex86
    have z166 : q_ir (q_r f158 so 0) ba := Eq.trans (hF.r hso (by rw [kso]; rfl)) hr0
    have z167 : q_ir (q_r f158 dr 0) nds := Eq.trans (hF.r hdr (by rw [kdr]; rfl)) hr1
    have g168 : tk_tc f158 so B tn := tk_tc_tr htc (hF.z hso (by rw [kso]; rfl)) (hF.z hso (by rw [kso]; rfl)) (hF.z hso (by rw [kso]; rfl)) (hF.j hso (by rw [kso]; rfl)) (hF.z hso (by rw [kso]; rfl))
    have g169 : tk_tb f158 ba B tn := tk_tb_tr htb (fun i9 => hF.z hba (by rw [kba]; rfl))
    have g170 : tk_ta K L f158 rd dr nds tA (tk_has (tk_lk tA)) := tk_ta_tr hta (hF.z hrd (by rw [krd]; rfl)) (hF.z hrd (by rw [krd]; rfl)) (hF.z hrd (by rw [krd]; rfl)) (hF.z hdr (by rw [kdr]; rfl)) (hF.z hdr (by rw [kdr]; rfl)) (fun a9 h9 k9 => hF.j h9 (by rw [k9]; rfl)) (fun a9 h9 k9 => hF.z h9 (by rw [k9]; rfl)) (fun i9 => hF.r hnds (by rw [knds]; rfl))
    subst qy159
    refine q_zret cx hr hlk hB dX9_readMiss_12 (by decide) (by decide) ?_
    exact (Or.inr ⟨rfl, (tk_miss_told (tk_b2t hta.1.2.2 ex86 (by omega)) z161 z162), g168⟩)
