set_option maxHeartbeats 4000000 in
set_option maxRecDepth 100000 in
theorem f_readStatement (l : Launch) (g : q_G) (ad : Nat → Nat) {K : Nat → Nat} {L : List Nat} (hN : L.Nodup) {f : Nat → va_E} (hT : q_Ty g K L f) (hfl : l.stackTraces = false) (B : Nat → Int) (tA : tk_A) (rd : Nat) (hrd : rd ∈ L) (krd : K rd = 9) (so : Nat) (hso : so ∈ L) (kso : K so = 8) (dr : Nat) (hdr : dr ∈ L) (kdr : K dr = 13) (ba : Nat) (hba : ba ∈ L) (kba : K ba = 142) (nds : Nat) (hnds : nds ∈ L) (knds : K nds = 111) (tn : Int) (ltn : 0 ≤ tn) (utn : tn ≤ 600) (ss : Int) (lss : 0 ≤ ss) (uss : ss ≤ 600) (hf0 : q_is (q_z f so 1) tn) (hf1 : q_is (q_z f so 8) ss) (hf2 : q_is (q_z f so 2) 0) (hf3 : q_is (q_z f so 3) (-1)) (hr0 : q_ir (q_r f so 0) ba) (hr1 : q_ir (q_r f dr 0) nds) (htc : tk_tc f so B tn) (htb : tk_tb f ba B tn) (hta : tk_ta K L f rd dr nds tA (tk_has (tk_lk tA))) : q_Xt l g ad K L yX9_readStatement cX9_readStatement 3 (some .boolean) 7 154 0 0 [.ref rd, .ref so, .ref dr] f [(8, 2, 9), (9, 0, 2), (13, 3, 4), (13, 6, 10), (17, 0, 8), (21, 0, 4)] (q_Pi (fun (z : Int) (f1 : Nat → va_E) => (z = 1 ∧ q_is (q_z f1 so 2) 0 ∧ q_is (q_z f1 so 3) (-1) ∧ (∃ A1 : tk_A, tk_st B tn ss tA = tk_ok (q_z f1 so 8, A1) ∧ tk_ta K L f1 rd dr nds A1 (tk_has (tk_lk A1))) ∧ (tk_tc f1 so B tn)) ∨ (z = 0 ∧ (tk_st B tn ss tA = tk_er (q_z f1 so 2) (q_z f1 so 3)) ∧ (tk_tc f1 so B tn)))) (fun (_ : String) (_ : Nat → va_E) => False) := by
  refine q_xofb (by decide +kernel) hN hT (Nat.le_of_ble_eq_true rfl) ?_
  intro p e s m below meth c ls cx hr hlk htab hX hB hl
  have hl : lv_has ls 3 [(0, .ref rd), (1, .ref so), (2, .ref dr)] := hl
  obtain ⟨H, hH⟩ : ∃ H : Heap, H = s.heap := ⟨_, rfl⟩
  obtain ⟨locs, hlocs⟩ : ∃ z : List Loc, z = [] := ⟨_, rfl⟩
  rw [← hH, ← hlocs] at hB
  rw [← hH, ← hlocs]
  refine q_ald_n cx dX9_readStatement_0 rfl (lv_at hl 1 rfl) ?_
  refine va_ldcS (q := ad 0) cx.1 cx.2.1 cx.2.2.2.1 ((hX.2.2.2.2.2.2.2 0 (by decide)).1) dX9_readStatement_1 ?_
  refine q_cXV (As := [.ref (ad 0)]) (rest := []) cx hX hB (fun _ h => h) (fun _ h _ => h) hN hso kso (by decide) rfl (f_isWord_0 l g ad hN hB.2.1 hfl B so hso kso ba hba kba tn (by omega) (by omega) ss (by omega) (by omega) hf0 hf1 hr0 htc htb) q_cX9_48 q_dX8_isWord (by decide) rfl rfl hl.1 rfl (Nat.le_of_ble_eq_true rfl) dX9_readStatement_3 (fun E9 ce9 q9 H locs f172 hex hF hB hcell hcv hcl => ?_) (fun v9 H locs f169 h171 hF hB => ?_)
  · exact hex.elim
  · obtain ⟨y170, rfl, ry170, h171⟩ := h171
    refine W.eq (g2 := F0 m 6 ls [.int (q_i y170)]) rfl ?_
    rcases h171 with h173 | h174
    · obtain ⟨rfl, qy170, t175⟩ := h173
      subst qy170
      refine q_ifeq (tgt := 16) cx ⟨by decide, by decide⟩ dX9_readStatement_6 (by decide) (fun c176 => ?_) (fun c176 => ?_)
      · exact absurd c176 (by omega)
      · refine q_ald_n cx dX9_readStatement_9 rfl (lv_at hl 0 rfl) ?_
        refine q_ald_n cx dX9_readStatement_10 rfl (lv_at hl 1 rfl) ?_
        refine q_ald_n cx dX9_readStatement_11 rfl (lv_at hl 2 rfl) ?_
        refine q_cVi (As := [.ref so, .ref dr]) (rest := []) cx hB (fun _ h => h) hN hrd krd (by decide) rfl (f_readYear l g hN hB.2.1 B tA rd hrd krd so hso kso dr hdr kdr ba hba kba nds hnds knds tn (by omega) (by omega) ss (by omega) (by omega) hf0 hf1 hf2 hf3 hr0 hr1 htc htb hta) q_cX9_52 q_dX9_readYear (by decide) rfl rfl hl.1 rfl (Nat.le_of_ble_eq_true rfl) dX9_readStatement_12 (fun y178 H locs f177 ry178 h179 hF hB => ?_)
        rcases h179 with h180 | h181
        · obtain ⟨qy178, z182, z183, t184, g185⟩ := h180
          have z186 : q_is (q_z f177 so 1) tn := Eq.trans (hF.z hso (by rw [kso]; rfl)) hf0
          have z187 : q_ir (q_r f177 so 0) ba := Eq.trans (hF.r hso (by rw [kso]; rfl)) hr0
          have z188 : q_ir (q_r f177 dr 0) nds := Eq.trans (hF.r hdr (by rw [kdr]; rfl)) hr1
          have g189 : tk_tb f177 ba B tn := tk_tb_tr htb (fun i9 => hF.z hba (by rw [kba]; rfl))
          subst qy178
          obtain ⟨x190, ex190⟩ : ∃ zz, q_is (q_z f177 so 8) zz := ⟨_, q_isr _⟩
          obtain ⟨lx190, ux190⟩ := q_isb ex190 (q_fib hB.2.1 hso kso (by decide) rfl)
          obtain ⟨-, l0x190, u0x190, -, -⟩ := tk_tc_n g185 ex190
          refine W.widen (k := 0) (n := 0) (by decide) (by decide) ?_
          refine vx_ret ?_
          refine q_zret cx hr hlk hB dX9_readStatement_15 (by decide) (by decide) ?_
          exact (Or.inl ⟨rfl, z182, z183, (tk_ex_eq (tk_st_1 t175) t184), g185⟩)
        · obtain ⟨qy178, t191, g192⟩ := h181
          have z193 : q_is (q_z f177 so 1) tn := Eq.trans (hF.z hso (by rw [kso]; rfl)) hf0
          have z194 : q_ir (q_r f177 so 0) ba := Eq.trans (hF.r hso (by rw [kso]; rfl)) hr0
          have z195 : q_ir (q_r f177 dr 0) nds := Eq.trans (hF.r hdr (by rw [kdr]; rfl)) hr1
          have g196 : tk_tb f177 ba B tn := tk_tb_tr htb (fun i9 => hF.z hba (by rw [kba]; rfl))
          subst qy178
          obtain ⟨x197, ex197⟩ : ∃ zz, q_is (q_z f177 so 8) zz := ⟨_, q_isr _⟩
          obtain ⟨lx197, ux197⟩ := q_isb ex197 (q_fib hB.2.1 hso kso (by decide) rfl)
          obtain ⟨-, l0x197, u0x197, -, -⟩ := tk_tc_n g192 ex197
          refine W.widen (k := 0) (n := 0) (by decide) (by decide) ?_
          refine vx_ret ?_
          refine q_zret cx hr hlk hB dX9_readStatement_15 (by decide) (by decide) ?_
          exact (Or.inr ⟨rfl, (Eq.trans (tk_st_1 t175) t191), g192⟩)
    · obtain ⟨rfl, qy170, t198⟩ := h174
      subst qy170
      refine q_ifeq (tgt := 16) cx ⟨by decide, by decide⟩ dX9_readStatement_6 (by decide) (fun c199 => ?_) (fun c199 => ?_)
      · refine q_ald_n cx dX9_readStatement_16 rfl (lv_at hl 1 rfl) ?_
        refine va_ldcS (q := ad 1) cx.1 cx.2.1 cx.2.2.2.1 ((hX.2.2.2.2.2.2.2 1 (by decide)).1) dX9_readStatement_17 ?_
        refine q_cXV (As := [.ref (ad 1)]) (rest := []) cx hX hB (fun _ h => h) (fun _ h _ => h) hN hso kso (by decide) rfl (f_isWord_1 l g ad hN hB.2.1 hfl B so hso kso ba hba kba tn (by omega) (by omega) ss (by omega) (by omega) hf0 hf1 hr0 htc htb) q_cX9_48 q_dX8_isWord (by decide) rfl rfl hl.1 rfl (Nat.le_of_ble_eq_true rfl) dX9_readStatement_19 (fun E9 ce9 q9 H locs f203 hex hF hB hcell hcv hcl => ?_) (fun v9 H locs f200 h202 hF hB => ?_)
        · exact hex.elim
        · obtain ⟨y201, rfl, ry201, h202⟩ := h202
          refine W.eq (g2 := F0 m 22 ls [.int (q_i y201)]) rfl ?_
          rcases h202 with h204 | h205
          · obtain ⟨rfl, qy201, t206⟩ := h204
            subst qy201
            refine q_ifeq (tgt := 32) cx ⟨by decide, by decide⟩ dX9_readStatement_22 (by decide) (fun c207 => ?_) (fun c207 => ?_)
            · exact absurd c207 (by omega)
            · refine q_ald_n cx dX9_readStatement_25 rfl (lv_at hl 0 rfl) ?_
              refine q_ald_n cx dX9_readStatement_26 rfl (lv_at hl 1 rfl) ?_
              refine q_ald_n cx dX9_readStatement_27 rfl (lv_at hl 2 rfl) ?_
              refine q_cVi (As := [.ref so, .ref dr]) (rest := []) cx hB (fun _ h => h) hN hrd krd (by decide) rfl (f_readCosts l g hN hB.2.1 B tA rd hrd krd so hso kso dr hdr kdr ba hba kba nds hnds knds tn (by omega) (by omega) ss (by omega) (by omega) hf0 hf1 hf2 hf3 hr0 hr1 htc htb hta) q_cX9_57 q_dX9_readCosts (by decide) rfl rfl hl.1 rfl (Nat.le_of_ble_eq_true rfl) dX9_readStatement_28 (fun y209 H locs f208 ry209 h210 hF hB => ?_)
              rcases h210 with h211 | h212
              · obtain ⟨qy209, z213, z214, t215, g216⟩ := h211
                have z217 : q_is (q_z f208 so 1) tn := Eq.trans (hF.z hso (by rw [kso]; rfl)) hf0
                have z218 : q_ir (q_r f208 so 0) ba := Eq.trans (hF.r hso (by rw [kso]; rfl)) hr0
                have z219 : q_ir (q_r f208 dr 0) nds := Eq.trans (hF.r hdr (by rw [kdr]; rfl)) hr1
                have g220 : tk_tb f208 ba B tn := tk_tb_tr htb (fun i9 => hF.z hba (by rw [kba]; rfl))
                subst qy209
                obtain ⟨x221, ex221⟩ : ∃ zz, q_is (q_z f208 so 8) zz := ⟨_, q_isr _⟩
                obtain ⟨lx221, ux221⟩ := q_isb ex221 (q_fib hB.2.1 hso kso (by decide) rfl)
                obtain ⟨-, l0x221, u0x221, -, -⟩ := tk_tc_n g216 ex221
                refine W.widen (k := 0) (n := 0) (by decide) (by decide) ?_
                refine vx_ret ?_
                refine q_zret cx hr hlk hB dX9_readStatement_31 (by decide) (by decide) ?_
                exact (Or.inl ⟨rfl, z213, z214, (tk_ex_eq (tk_st_2 t198 t206) t215), g216⟩)
              · obtain ⟨qy209, t222, g223⟩ := h212
                have z224 : q_is (q_z f208 so 1) tn := Eq.trans (hF.z hso (by rw [kso]; rfl)) hf0
                have z225 : q_ir (q_r f208 so 0) ba := Eq.trans (hF.r hso (by rw [kso]; rfl)) hr0
                have z226 : q_ir (q_r f208 dr 0) nds := Eq.trans (hF.r hdr (by rw [kdr]; rfl)) hr1
                have g227 : tk_tb f208 ba B tn := tk_tb_tr htb (fun i9 => hF.z hba (by rw [kba]; rfl))
                subst qy209
                obtain ⟨x228, ex228⟩ : ∃ zz, q_is (q_z f208 so 8) zz := ⟨_, q_isr _⟩
                obtain ⟨lx228, ux228⟩ := q_isb ex228 (q_fib hB.2.1 hso kso (by decide) rfl)
                obtain ⟨-, l0x228, u0x228, -, -⟩ := tk_tc_n g223 ex228
                refine W.widen (k := 0) (n := 0) (by decide) (by decide) ?_
                refine vx_ret ?_
                refine q_zret cx hr hlk hB dX9_readStatement_31 (by decide) (by decide) ?_
                exact (Or.inr ⟨rfl, (Eq.trans (tk_st_2 t198 t206) t222), g223⟩)
          · obtain ⟨rfl, qy201, t229⟩ := h205
            subst qy201
            refine q_ifeq (tgt := 32) cx ⟨by decide, by decide⟩ dX9_readStatement_22 (by decide) (fun c230 => ?_) (fun c230 => ?_)
            · refine q_ald_n cx dX9_readStatement_32 rfl (lv_at hl 1 rfl) ?_
              refine va_ldcS (q := ad 2) cx.1 cx.2.1 cx.2.2.2.1 ((hX.2.2.2.2.2.2.2 2 (by decide)).1) dX9_readStatement_33 ?_
              refine q_cXV (As := [.ref (ad 2)]) (rest := []) cx hX hB (fun _ h => h) (fun _ h _ => h) hN hso kso (by decide) rfl (f_isWord_2 l g ad hN hB.2.1 hfl B so hso kso ba hba kba tn (by omega) (by omega) ss (by omega) (by omega) hf0 hf1 hr0 htc htb) q_cX9_48 q_dX8_isWord (by decide) rfl rfl hl.1 rfl (Nat.le_of_ble_eq_true rfl) dX9_readStatement_35 (fun E9 ce9 q9 H locs f234 hex hF hB hcell hcv hcl => ?_) (fun v9 H locs f231 h233 hF hB => ?_)
              · exact hex.elim
              · obtain ⟨y232, rfl, ry232, h233⟩ := h233
                refine W.eq (g2 := F0 m 38 ls [.int (q_i y232)]) rfl ?_
                rcases h233 with h235 | h236
                · obtain ⟨rfl, qy232, t237⟩ := h235
                  subst qy232
                  refine q_ifeq (tgt := 48) cx ⟨by decide, by decide⟩ dX9_readStatement_38 (by decide) (fun c238 => ?_) (fun c238 => ?_)
                  · exact absurd c238 (by omega)
                  · refine q_ald_n cx dX9_readStatement_41 rfl (lv_at hl 0 rfl) ?_
                    refine q_ald_n cx dX9_readStatement_42 rfl (lv_at hl 1 rfl) ?_
                    refine q_ald_n cx dX9_readStatement_43 rfl (lv_at hl 2 rfl) ?_
                    refine q_cVi (As := [.ref so, .ref dr]) (rest := []) cx hB (fun _ h => h) hN hrd krd (by decide) rfl (f_readMiss l g hN hB.2.1 B tA rd hrd krd so hso kso dr hdr kdr ba hba kba nds hnds knds tn (by omega) (by omega) ss (by omega) (by omega) hf0 hf1 hf2 hf3 hr0 hr1 htc htb hta) q_cX9_62 q_dX9_readMiss (by decide) rfl rfl hl.1 rfl (Nat.le_of_ble_eq_true rfl) dX9_readStatement_44 (fun y240 H locs f239 ry240 h241 hF hB => ?_)
                    rcases h241 with h242 | h243
                    · obtain ⟨qy240, z244, z245, t246, g247⟩ := h242
                      have z248 : q_is (q_z f239 so 1) tn := Eq.trans (hF.z hso (by rw [kso]; rfl)) hf0
                      have z249 : q_ir (q_r f239 so 0) ba := Eq.trans (hF.r hso (by rw [kso]; rfl)) hr0
                      have z250 : q_ir (q_r f239 dr 0) nds := Eq.trans (hF.r hdr (by rw [kdr]; rfl)) hr1
                      have g251 : tk_tb f239 ba B tn := tk_tb_tr htb (fun i9 => hF.z hba (by rw [kba]; rfl))
                      subst qy240
                      obtain ⟨x252, ex252⟩ : ∃ zz, q_is (q_z f239 so 8) zz := ⟨_, q_isr _⟩
                      obtain ⟨lx252, ux252⟩ := q_isb ex252 (q_fib hB.2.1 hso kso (by decide) rfl)
                      obtain ⟨-, l0x252, u0x252, -, -⟩ := tk_tc_n g247 ex252
                      refine W.widen (k := 0) (n := 0) (by decide) (by decide) ?_
                      refine vx_ret ?_
                      refine q_zret cx hr hlk hB dX9_readStatement_47 (by decide) (by decide) ?_
                      exact (Or.inl ⟨rfl, z244, z245, (tk_ex_eq (tk_st_3 t198 t229 t237) t246), g247⟩)
                    · obtain ⟨qy240, t253, g254⟩ := h243
                      have z255 : q_is (q_z f239 so 1) tn := Eq.trans (hF.z hso (by rw [kso]; rfl)) hf0
                      have z256 : q_ir (q_r f239 so 0) ba := Eq.trans (hF.r hso (by rw [kso]; rfl)) hr0
                      have z257 : q_ir (q_r f239 dr 0) nds := Eq.trans (hF.r hdr (by rw [kdr]; rfl)) hr1
                      have g258 : tk_tb f239 ba B tn := tk_tb_tr htb (fun i9 => hF.z hba (by rw [kba]; rfl))
                      subst qy240
                      obtain ⟨x259, ex259⟩ : ∃ zz, q_is (q_z f239 so 8) zz := ⟨_, q_isr _⟩
                      obtain ⟨lx259, ux259⟩ := q_isb ex259 (q_fib hB.2.1 hso kso (by decide) rfl)
                      obtain ⟨-, l0x259, u0x259, -, -⟩ := tk_tc_n g254 ex259
                      refine W.widen (k := 0) (n := 0) (by decide) (by decide) ?_
                      refine vx_ret ?_
                      refine q_zret cx hr hlk hB dX9_readStatement_47 (by decide) (by decide) ?_
                      exact (Or.inr ⟨rfl, (Eq.trans (tk_st_3 t198 t229 t237) t253), g254⟩)
                · obtain ⟨rfl, qy232, t260⟩ := h236
                  subst qy232
                  refine q_ifeq (tgt := 48) cx ⟨by decide, by decide⟩ dX9_readStatement_38 (by decide) (fun c261 => ?_) (fun c261 => ?_)
                  · refine q_ald_n cx dX9_readStatement_48 rfl (lv_at hl 1 rfl) ?_
                    refine va_ldcS (q := ad 3) cx.1 cx.2.1 cx.2.2.2.1 ((hX.2.2.2.2.2.2.2 3 (by decide)).1) dX9_readStatement_49 ?_
                    refine q_cXV (As := [.ref (ad 3)]) (rest := []) cx hX hB (fun _ h => h) (fun _ h _ => h) hN hso kso (by decide) rfl (f_isWord_3 l g ad hN hB.2.1 hfl B so hso kso ba hba kba tn (by omega) (by omega) ss (by omega) (by omega) hf0 hf1 hr0 htc htb) q_cX9_48 q_dX8_isWord (by decide) rfl rfl hl.1 rfl (Nat.le_of_ble_eq_true rfl) dX9_readStatement_51 (fun E9 ce9 q9 H locs f265 hex hF hB hcell hcv hcl => ?_) (fun v9 H locs f262 h264 hF hB => ?_)
                    · exact hex.elim
                    · obtain ⟨y263, rfl, ry263, h264⟩ := h264
                      refine W.eq (g2 := F0 m 54 ls [.int (q_i y263)]) rfl ?_
                      rcases h264 with h266 | h267
                      · obtain ⟨rfl, qy263, t268⟩ := h266
                        subst qy263
                        refine q_ifeq (tgt := 64) cx ⟨by decide, by decide⟩ dX9_readStatement_54 (by decide) (fun c269 => ?_) (fun c269 => ?_)
                        · exact absurd c269 (by omega)
                        · refine q_ald_n cx dX9_readStatement_57 rfl (lv_at hl 0 rfl) ?_
                          refine q_ald_n cx dX9_readStatement_58 rfl (lv_at hl 1 rfl) ?_
                          refine q_ald_n cx dX9_readStatement_59 rfl (lv_at hl 2 rfl) ?_
                          refine q_cXV (As := [.ref so, .ref dr]) (rest := []) cx hX hB (fun _ h => h) (fun _ h _ => h) hN hrd krd (by decide) rfl (f_readNode l g ad hN hB.2.1 hfl B tA rd hrd krd so hso kso dr hdr kdr ba hba kba nds hnds knds tn (by omega) (by omega) ss (by omega) (by omega) hf0 hf1 hf2 hf3 hr0 hr1 htc htb hta) q_cX9_67 q_dX9_readNode (by decide) rfl rfl hl.1 rfl (Nat.le_of_ble_eq_true rfl) dX9_readStatement_60 (fun E9 ce9 q9 H locs f273 hex hF hB hcell hcv hcl => ?_) (fun v9 H locs f270 h272 hF hB => ?_)
                          · exact hex.elim
                          · obtain ⟨y271, rfl, ry271, h272⟩ := h272
                            refine W.eq (g2 := F0 m 63 ls [.int (q_i y271)]) rfl ?_
                            rcases h272 with h274 | h275
                            · obtain ⟨qy271, z276, z277, t278, g279⟩ := h274
                              have z280 : q_is (q_z f270 so 1) tn := Eq.trans (hF.z hso (by rw [kso]; rfl)) hf0
                              have z281 : q_ir (q_r f270 so 0) ba := Eq.trans (hF.r hso (by rw [kso]; rfl)) hr0
                              have z282 : q_ir (q_r f270 dr 0) nds := Eq.trans (hF.r hdr (by rw [kdr]; rfl)) hr1
                              have g283 : tk_tb f270 ba B tn := tk_tb_tr htb (fun i9 => hF.z hba (by rw [kba]; rfl))
                              subst qy271
                              obtain ⟨x284, ex284⟩ : ∃ zz, q_is (q_z f270 so 8) zz := ⟨_, q_isr _⟩
                              obtain ⟨lx284, ux284⟩ := q_isb ex284 (q_fib hB.2.1 hso kso (by decide) rfl)
                              obtain ⟨-, l0x284, u0x284, -, -⟩ := tk_tc_n g279 ex284
                              refine W.widen (k := 0) (n := 0) (by decide) (by decide) ?_
                              refine vx_ret ?_
                              refine q_zret cx hr hlk hB dX9_readStatement_63 (by decide) (by decide) ?_
                              exact (Or.inl ⟨rfl, z276, z277, (tk_ex_eq (tk_st_4 t198 t229 t260 t268) t278), g279⟩)
                            · obtain ⟨qy271, t285, g286⟩ := h275
                              have z287 : q_is (q_z f270 so 1) tn := Eq.trans (hF.z hso (by rw [kso]; rfl)) hf0
                              have z288 : q_ir (q_r f270 so 0) ba := Eq.trans (hF.r hso (by rw [kso]; rfl)) hr0
                              have z289 : q_ir (q_r f270 dr 0) nds := Eq.trans (hF.r hdr (by rw [kdr]; rfl)) hr1
                              have g290 : tk_tb f270 ba B tn := tk_tb_tr htb (fun i9 => hF.z hba (by rw [kba]; rfl))
                              subst qy271
                              obtain ⟨x291, ex291⟩ : ∃ zz, q_is (q_z f270 so 8) zz := ⟨_, q_isr _⟩
                              obtain ⟨lx291, ux291⟩ := q_isb ex291 (q_fib hB.2.1 hso kso (by decide) rfl)
                              obtain ⟨-, l0x291, u0x291, -, -⟩ := tk_tc_n g286 ex291
                              refine W.widen (k := 0) (n := 0) (by decide) (by decide) ?_
                              refine vx_ret ?_
                              refine q_zret cx hr hlk hB dX9_readStatement_63 (by decide) (by decide) ?_
                              exact (Or.inr ⟨rfl, (Eq.trans (tk_st_4 t198 t229 t260 t268) t285), g286⟩)
                      · obtain ⟨rfl, qy263, t292⟩ := h267
                        subst qy263
                        refine q_ifeq (tgt := 64) cx ⟨by decide, by decide⟩ dX9_readStatement_54 (by decide) (fun c293 => ?_) (fun c293 => ?_)
                        · refine q_ald_n cx dX9_readStatement_64 rfl (lv_at hl 1 rfl) ?_
                          refine va_ldcS (q := ad 4) cx.1 cx.2.1 cx.2.2.2.1 ((hX.2.2.2.2.2.2.2 4 (by decide)).1) dX9_readStatement_65 ?_
                          refine q_cXV (As := [.ref (ad 4)]) (rest := []) cx hX hB (fun _ h => h) (fun _ h _ => h) hN hso kso (by decide) rfl (f_isWord_4 l g ad hN hB.2.1 hfl B so hso kso ba hba kba tn (by omega) (by omega) ss (by omega) (by omega) hf0 hf1 hr0 htc htb) q_cX9_48 q_dX8_isWord (by decide) rfl rfl hl.1 rfl (Nat.le_of_ble_eq_true rfl) dX9_readStatement_67 (fun E9 ce9 q9 H locs f297 hex hF hB hcell hcv hcl => ?_) (fun v9 H locs f294 h296 hF hB => ?_)
                          · exact hex.elim
                          · obtain ⟨y295, rfl, ry295, h296⟩ := h296
                            refine W.eq (g2 := F0 m 70 ls [.int (q_i y295)]) rfl ?_
                            rcases h296 with h298 | h299
                            · obtain ⟨rfl, qy295, t300⟩ := h298
                              subst qy295
                              refine q_ifeq (tgt := 80) cx ⟨by decide, by decide⟩ dX9_readStatement_70 (by decide) (fun c301 => ?_) (fun c301 => ?_)
                              · exact absurd c301 (by omega)
                              · refine q_ald_n cx dX9_readStatement_73 rfl (lv_at hl 0 rfl) ?_
                                refine q_ald_n cx dX9_readStatement_74 rfl (lv_at hl 1 rfl) ?_
                                refine q_ald_n cx dX9_readStatement_75 rfl (lv_at hl 2 rfl) ?_
                                refine q_cVi (As := [.ref so, .ref dr]) (rest := []) cx hB (fun _ h => h) hN hrd krd (by decide) rfl (f_readLink l g hN hB.2.1 B tA rd hrd krd so hso kso dr hdr kdr ba hba kba nds hnds knds tn (by omega) (by omega) ss (by omega) (by omega) hf0 hf1 hf2 hf3 hr0 hr1 htc htb hta) q_cX9_72 q_dX9_readLink (by decide) rfl rfl hl.1 rfl (Nat.le_of_ble_eq_true rfl) dX9_readStatement_76 (fun y303 H locs f302 ry303 h304 hF hB => ?_)
                                rcases h304 with h305 | h306
                                · obtain ⟨qy303, z307, z308, t309, g310⟩ := h305
                                  have z311 : q_is (q_z f302 so 1) tn := Eq.trans (hF.z hso (by rw [kso]; rfl)) hf0
                                  have z312 : q_ir (q_r f302 so 0) ba := Eq.trans (hF.r hso (by rw [kso]; rfl)) hr0
                                  have z313 : q_ir (q_r f302 dr 0) nds := Eq.trans (hF.r hdr (by rw [kdr]; rfl)) hr1
                                  have g314 : tk_tb f302 ba B tn := tk_tb_tr htb (fun i9 => hF.z hba (by rw [kba]; rfl))
                                  subst qy303
                                  obtain ⟨x315, ex315⟩ : ∃ zz, q_is (q_z f302 so 8) zz := ⟨_, q_isr _⟩
                                  obtain ⟨lx315, ux315⟩ := q_isb ex315 (q_fib hB.2.1 hso kso (by decide) rfl)
                                  obtain ⟨-, l0x315, u0x315, -, -⟩ := tk_tc_n g310 ex315
                                  refine W.widen (k := 0) (n := 0) (by decide) (by decide) ?_
                                  refine vx_ret ?_
                                  refine q_zret cx hr hlk hB dX9_readStatement_79 (by decide) (by decide) ?_
                                  exact (Or.inl ⟨rfl, z307, z308, (tk_ex_eq (tk_st_5 t198 t229 t260 t292 t300) t309), g310⟩)
                                · obtain ⟨qy303, t316, g317⟩ := h306
                                  have z318 : q_is (q_z f302 so 1) tn := Eq.trans (hF.z hso (by rw [kso]; rfl)) hf0
                                  have z319 : q_ir (q_r f302 so 0) ba := Eq.trans (hF.r hso (by rw [kso]; rfl)) hr0
                                  have z320 : q_ir (q_r f302 dr 0) nds := Eq.trans (hF.r hdr (by rw [kdr]; rfl)) hr1
                                  have g321 : tk_tb f302 ba B tn := tk_tb_tr htb (fun i9 => hF.z hba (by rw [kba]; rfl))
                                  subst qy303
                                  obtain ⟨x322, ex322⟩ : ∃ zz, q_is (q_z f302 so 8) zz := ⟨_, q_isr _⟩
                                  obtain ⟨lx322, ux322⟩ := q_isb ex322 (q_fib hB.2.1 hso kso (by decide) rfl)
                                  obtain ⟨-, l0x322, u0x322, -, -⟩ := tk_tc_n g317 ex322
                                  refine W.widen (k := 0) (n := 0) (by decide) (by decide) ?_
                                  refine vx_ret ?_
                                  refine q_zret cx hr hlk hB dX9_readStatement_79 (by decide) (by decide) ?_
                                  exact (Or.inr ⟨rfl, (Eq.trans (tk_st_5 t198 t229 t260 t292 t300) t316), g317⟩)
                            · obtain ⟨rfl, qy295, t323⟩ := h299
                              subst qy295
                              refine q_ifeq (tgt := 80) cx ⟨by decide, by decide⟩ dX9_readStatement_70 (by decide) (fun c324 => ?_) (fun c324 => ?_)
                              · refine q_ald_n cx dX9_readStatement_80 rfl (lv_at hl 1 rfl) ?_
                                refine q_iconst cx dX9_readStatement_81 ?_
                                refine q_cVi (As := [.int (q_i 1)]) (rest := []) cx hB (fun _ h => h) hN hso kso (by decide) rfl (f_fail l g hN hB.2.1 B so hso kso 1 (by decide) (by decide) ba hba kba tn (by omega) (by omega) ss (by omega) (by omega) hf0 hf1 hr0 htc htb) q_cX9_75 q_dX8_fail (by decide) rfl rfl hl.1 rfl (Nat.le_of_ble_eq_true rfl) dX9_readStatement_82 (fun y326 H locs f325 ry326 h327 hF hB => ?_)
                                obtain ⟨qy326, z328, z329⟩ := h327
                                have z330 : q_is (q_z f325 so 1) tn := Eq.trans (hF.z hso (by rw [kso]; rfl)) hf0
                                have z331 : q_is (q_z f325 so 8) ss := Eq.trans (hF.z hso (by rw [kso]; rfl)) hf1
                                have z332 : q_ir (q_r f325 so 0) ba := Eq.trans (hF.r hso (by rw [kso]; rfl)) hr0
                                have z333 : q_ir (q_r f325 dr 0) nds := Eq.trans (hF.r hdr (by rw [kdr]; rfl)) hr1
                                have g334 : tk_tc f325 so B tn := tk_tc_tr htc (hF.z hso (by rw [kso]; rfl)) (hF.z hso (by rw [kso]; rfl)) (hF.z hso (by rw [kso]; rfl)) (hF.j hso (by rw [kso]; rfl)) (hF.z hso (by rw [kso]; rfl))
                                have g335 : tk_tb f325 ba B tn := tk_tb_tr htb (fun i9 => hF.z hba (by rw [kba]; rfl))
                                have g336 : tk_ta K L f325 rd dr nds tA (tk_has (tk_lk tA)) := tk_ta_tr hta (hF.z hrd (by rw [krd]; rfl)) (hF.z hrd (by rw [krd]; rfl)) (hF.z hrd (by rw [krd]; rfl)) (hF.z hdr (by rw [kdr]; rfl)) (hF.z hdr (by rw [kdr]; rfl)) (fun a9 h9 k9 => hF.j h9 (by rw [k9]; rfl)) (fun a9 h9 k9 => hF.z h9 (by rw [k9]; rfl)) (fun i9 => hF.r hnds (by rw [knds]; rfl))
                                subst qy326
                                refine W.widen (k := 0) (n := 0) (by decide) (by decide) ?_
                                refine vx_ret ?_
                                refine q_zret cx hr hlk hB dX9_readStatement_85 (by decide) (by decide) ?_
                                exact (Or.inr ⟨rfl, (tk_st_0 t198 t229 t260 t292 t323 z328 z329), g334⟩)
                              · exact absurd c324 (by omega)
                        · exact absurd c293 (by omega)
                  · exact absurd c261 (by omega)
            · exact absurd c230 (by omega)
      · exact absurd c199 (by omega)
set_option maxHeartbeats 4000000 in
set_option maxRecDepth 100000 in
theorem f_readAll (l : Launch) (g : q_G) (ad : Nat → Nat) {K : Nat → Nat} {L : List Nat} (hN : L.Nodup) {f : Nat → va_E} (hT : q_Ty g K L f) (hfl : l.stackTraces = false) (B : Nat → Int) (rd : Nat) (hrd : rd ∈ L) (krd : K rd = 9) (so : Nat) (hso : so ∈ L) (kso : K so = 8) (dr : Nat) (hdr : dr ∈ L) (kdr : K dr = 13) (ba : Nat) (hba : ba ∈ L) (kba : K ba = 142) (nds : Nat) (hnds : nds ∈ L) (knds : K nds = 111) (tn : Int) (ltn : 0 ≤ tn) (utn : tn ≤ 600) (hf0 : q_is (q_z f so 1) tn) (hr0 : q_ir (q_r f so 0) ba) (hr1 : q_ir (q_r f dr 0) nds) (htb : tk_tb f ba B tn) (hij : tk_ij K L f nds) : q_Xt l g ad K L yX9_readAll cX9_readAll 4 (some .boolean) 8 176 0 0 [.ref rd, .ref so, .ref dr] f [(8, 2, 9), (9, 0, 2), (13, 3, 12), (17, 0, 8), (21, 0, 4)] (q_Pi (fun (z : Int) (f1 : Nat → va_E) => (z = 1 ∧ q_is (q_z f1 so 2) 0 ∧ q_is (q_z f1 so 3) (-1) ∧ (∃ A1 : tk_A, tk_T B tn (tk_S B tn 0) tk_A0 = tk_ok A1 ∧ tk_ta K L f1 rd dr nds A1 (tk_has (tk_lk A1)))) ∨ (z = 0 ∧ (tk_T B tn (tk_S B tn 0) tk_A0 = tk_er (q_z f1 so 2) (q_z f1 so 3))))) (fun (_ : String) (_ : Nat → va_E) => False) := by
  refine q_xofb (by decide +kernel) hN hT (Nat.le_of_ble_eq_true rfl) ?_
  intro p e s m below meth c ls cx hr hlk htab hX hB hl
  have hl : lv_has ls 4 [(0, .ref rd), (1, .ref so), (2, .ref dr)] := hl
  have J25 : ∀ (n : Nat) (f25 : Nat → va_E) (v25_3 : Int) (lv25_3 : 0 ≤ v25_3) (uv25_3 : v25_3 ≤ 600) (w25_so_2 : Int) (lw25_so_2 : 0 ≤ w25_so_2) (uw25_so_2 : w25_so_2 ≤ 0) (w25_so_3 : Int) (lw25_so_3 : (-1) ≤ w25_so_3) (uw25_so_3 : w25_so_3 ≤ (-1)) (w25_so_8 : Int) (lw25_so_8 : 0 ≤ w25_so_8) (uw25_so_8 : w25_so_8 ≤ 600) (hj_so_1 : q_is (q_z f25 so 1) tn) (hj_so_2 : q_is (q_z f25 so 2) w25_so_2) (hj_so_3 : q_is (q_z f25 so 3) w25_so_3) (hj_so_8 : q_is (q_z f25 so 8) w25_so_8) (hq_so_0 : q_ir (q_r f25 so 0) ba) (hq_dr_0 : q_ir (q_r f25 dr 0) nds) (hij25 : tk_ij K L f25 nds) (htb25 : tk_tb f25 ba B tn) (htc25 : tk_tc f25 so B tn) (hrl25_0 : 0 ≤ 1 * w25_so_8 + -1 * v25_3 + 0) (hrl25_1 : 0 ≤ 1 * tn + -1 * w25_so_8 + 0) (hal : ∃ A1 : tk_A, tk_T B tn (tk_S B tn 0) tk_A0 = tk_T B tn w25_so_8 A1 ∧ tk_ta K L f25 rd dr nds A1 (tk_has (tk_lk A1))) (hmu : (Int.toNat (2147483647 - v25_3)) < n) (H : Heap) (locs : List Loc) (hB : q_B g K L (fun q => q ∈ L) [(8, 2, 9), (9, 0, 2), (13, 3, 12), (17, 0, 8), (21, 0, 4)] f f25 s H locs) (ls : Array Slot) (hl : lv_has ls 4 [(0, .ref rd), (1, .ref so), (2, .ref dr), (3, .int (q_i v25_3))]), W p l e { frames := 8, cells := 0, slots := 0, locals := 176 } s m ([.ref rd, .ref so, .ref dr] : List Value).toArray below meth c H locs 0 0 (vx_MQ below (q_Q g K L [(8, 2, 9), (9, 0, 2), (13, 3, 12), (17, 0, 8), (21, 0, 4)] f (q_Pi (fun (z : Int) (f1 : Nat → va_E) => (z = 1 ∧ q_is (q_z f1 so 2) 0 ∧ q_is (q_z f1 so 3) (-1) ∧ (∃ A1 : tk_A, tk_T B tn (tk_S B tn 0) tk_A0 = tk_ok A1 ∧ tk_ta K L f1 rd dr nds A1 (tk_has (tk_lk A1)))) ∨ (z = 0 ∧ (tk_T B tn (tk_S B tn 0) tk_A0 = tk_er (q_z f1 so 2) (q_z f1 so 3)))))) (q_XC g K L [(8, 2, 9), (9, 0, 2), (13, 3, 12), (17, 0, 8), (21, 0, 4)] f (fun (_ : String) (_ : Nat → va_E) => False)) ([.ref rd, .ref so, .ref dr] : List Value).toArray s 0 0 (fun q => q ∈ L)) (F0 m 25 ls []) := by
    intro n
    induction n with
    | zero =>
      intro f25 v25_3 lv25_3 uv25_3 w25_so_2 lw25_so_2 uw25_so_2 w25_so_3 lw25_so_3 uw25_so_3 w25_so_8 lw25_so_8 uw25_so_8 hj_so_1 hj_so_2 hj_so_3 hj_so_8 hq_so_0 hq_dr_0 hij25 htb25 htc25 hrl25_0 hrl25_1 hal hmu
      exact absurd hmu (Nat.not_lt_zero _)
    | succ n ih25 =>
      intro f25 v25_3 lv25_3 uv25_3 w25_so_2 lw25_so_2 uw25_so_2 w25_so_3 lw25_so_3 uw25_so_3 w25_so_8 lw25_so_8 uw25_so_8 hj_so_1 hj_so_2 hj_so_3 hj_so_8 hq_so_0 hq_dr_0 hij25 htb25 htc25 hrl25_0 hrl25_1 hal hmu H locs hB ls hl
      refine q_ild_n cx dX9_readAll_25 rfl (lv_at hl 3 rfl) ?_
      obtain ⟨A9, hA9, hta9⟩ := hal
      refine q_sipush cx dX9_readAll_26 rfl ?_
      refine q_icgt (tgt := 65) cx ⟨by omega, by omega⟩ ⟨by decide, by decide⟩ dX9_readAll_29 (by decide) (fun c2108 => ?_) (fun c2108 => ?_)
      · exact absurd c2108 (by omega)
      · refine q_ald_n cx dX9_readAll_32 rfl (lv_at hl 1 rfl) ?_
        refine q_cVi (As := []) (rest := []) cx hB (fun _ h => h) hN hso kso (by decide) rfl (f_isAtEnd l g hN hB.2.1 B so hso kso ba hba kba tn (by omega) (by omega) w25_so_8 (by omega) (by omega) hj_so_1 hj_so_8 hq_so_0 htc25 htb25) q_cX9_31 q_dX8_isAtEnd (by decide) rfl rfl hl.1 rfl (Nat.le_of_ble_eq_true rfl) dX9_readAll_33 (fun y2110 H locs f2109 ry2110 h2111 hF hB => ?_)
        rcases h2111 with h2112 | h2113
        · obtain ⟨rfl, qy2110, t2114⟩ := h2112
          subst qy2110
          refine q_ifne (tgt := 65) cx ⟨by decide, by decide⟩ dX9_readAll_36 (by decide) (fun c2115 => ?_) (fun c2115 => ?_)
          · refine q_ald_n cx dX9_readAll_65 rfl (lv_at hl 2 rfl) ?_
            refine q_cVv (As := []) (rest := []) cx hB (fun _ h => h) hN hdr kdr (by decide) rfl (g_X10_foldDays_1 l g hN hB.2.1 dr hdr kdr) q_cX9_43 q_dX10_foldDays (by decide) rfl rfl hl.1 rfl (Nat.le_of_ble_eq_true rfl) dX9_readAll_66 (fun H locs f2116 h2118 hF hB => ?_)
            have z2119 : q_is (q_z f2116 so 1) tn := Eq.trans (hF.z hso (by rw [kso]; rfl)) hj_so_1
            have z2120 : q_is (q_z f2116 so 2) w25_so_2 := Eq.trans (hF.z hso (by rw [kso]; rfl)) hj_so_2
            have z2121 : q_is (q_z f2116 so 3) w25_so_3 := Eq.trans (hF.z hso (by rw [kso]; rfl)) hj_so_3
            have z2122 : q_is (q_z f2116 so 8) w25_so_8 := Eq.trans (hF.z hso (by rw [kso]; rfl)) hj_so_8
            have z2123 : q_ir (q_r f2116 so 0) ba := Eq.trans (hF.r hso (by rw [kso]; rfl)) hq_so_0
            have z2124 : q_ir (q_r f2116 dr 0) nds := Eq.trans (hF.r hdr (by rw [kdr]; rfl)) hq_dr_0
            have g2125 : tk_tb f2116 ba B tn := tk_tb_tr htb25 (fun i9 => hF.z hba (by rw [kba]; rfl))
            have g2126 : tk_ij K L f2116 nds := tk_ij_tr hij25 (fun i9 => hF.r hnds (by rw [knds]; rfl))
            have g2127 : tk_tc f2116 so B tn := tk_tc_tr htc25 (hF.z hso (by rw [kso]; rfl)) (hF.z hso (by rw [kso]; rfl)) (hF.z hso (by rw [kso]; rfl)) (hF.j hso (by rw [kso]; rfl)) (hF.z hso (by rw [kso]; rfl))
            have g2128 : tk_ta K L f2116 rd dr nds A9 (tk_has (tk_lk A9)) := tk_ta_tr hta9 (hF.z hrd (by rw [krd]; rfl)) (hF.z hrd (by rw [krd]; rfl)) (hF.z hrd (by rw [krd]; rfl)) (hF.z hdr (by rw [kdr]; rfl)) (hF.z hdr (by rw [kdr]; rfl)) (fun a9 h9 k9 => hF.j h9 (by rw [k9]; rfl)) (fun a9 h9 k9 => hF.z h9 (by rw [k9]; rfl)) (fun i9 => hF.r hnds (by rw [knds]; rfl))
            refine q_iconst cx dX9_readAll_69 ?_
            refine W.widen (k := 0) (n := 0) (by decide) (by decide) ?_
            refine vx_ret ?_
            refine q_zret cx hr hlk hB dX9_readAll_70 (by decide) (by decide) ?_
            exact (Or.inl ⟨rfl, (Eq.trans z2120 (by omega)), (Eq.trans z2121 (by omega)), ⟨A9, hA9.trans (tk_T_end t2114), g2128⟩⟩)
          · exact absurd c2115 (by omega)
        · obtain ⟨rfl, qy2110, t2129⟩ := h2113
          subst qy2110
          refine q_ifne (tgt := 65) cx ⟨by decide, by decide⟩ dX9_readAll_36 (by decide) (fun c2130 => ?_) (fun c2130 => ?_)
          · exact absurd c2130 (by omega)
          · refine q_ald_n cx dX9_readAll_39 rfl (lv_at hl 0 rfl) ?_
            refine q_ald_n cx dX9_readAll_40 rfl (lv_at hl 1 rfl) ?_
            refine q_ald_n cx dX9_readAll_41 rfl (lv_at hl 2 rfl) ?_
            refine q_cXV (As := [.ref so, .ref dr]) (rest := []) cx hX hB (fun _ h => h) (fun _ h _ => h) hN hrd krd (by decide) rfl (f_readStatement l g ad hN hB.2.1 hfl B A9 rd hrd krd so hso kso dr hdr kdr ba hba kba nds hnds knds tn (by omega) (by omega) w25_so_8 (by omega) (by omega) hj_so_1 hj_so_8 (Eq.trans hj_so_2 (by omega)) (Eq.trans hj_so_3 (by omega)) hq_so_0 hq_dr_0 htc25 htb25 hta9) q_cX9_35 q_dX9_readStatement (by decide) rfl rfl hl.1 rfl (Nat.le_of_ble_eq_true rfl) dX9_readAll_42 (fun E9 ce9 q9 H locs f2134 hex hF hB hcell hcv hcl => ?_) (fun v9 H locs f2131 h2133 hF hB => ?_)
            · exact hex.elim
            · obtain ⟨y2132, rfl, ry2132, h2133⟩ := h2133
              refine W.eq (g2 := F0 m 45 ls [.int (q_i y2132)]) rfl ?_
              rcases h2133 with h2135 | h2136
              · obtain ⟨qy2132, z2137, z2138, t2139, g2140⟩ := h2135
                have z2141 : q_is (q_z f2131 so 1) tn := Eq.trans (hF.z hso (by rw [kso]; rfl)) hj_so_1
                have z2142 : q_ir (q_r f2131 so 0) ba := Eq.trans (hF.r hso (by rw [kso]; rfl)) hq_so_0
                have z2143 : q_ir (q_r f2131 dr 0) nds := Eq.trans (hF.r hdr (by rw [kdr]; rfl)) hq_dr_0
                have g2144 : tk_tb f2131 ba B tn := tk_tb_tr htb25 (fun i9 => hF.z hba (by rw [kba]; rfl))
                have g2145 : tk_ij K L f2131 nds := tk_ij_tr hij25 (fun i9 => hF.r hnds (by rw [knds]; rfl))
                subst qy2132
                obtain ⟨x2146, ex2146⟩ : ∃ zz, q_is (q_z f2131 so 8) zz := ⟨_, q_isr _⟩
                obtain ⟨lx2146, ux2146⟩ := q_isb ex2146 (q_fib hB.2.1 hso kso (by decide) rfl)
                obtain ⟨-, l0x2146, u0x2146, -, -⟩ := tk_tc_n g2140 ex2146
                obtain ⟨A8, hA8, hta8⟩ := t2139
                refine q_ifeq (tgt := 57) cx ⟨by decide, by decide⟩ dX9_readAll_45 (by decide) (fun c2147 => ?_) (fun c2147 => ?_)
                · exact absurd c2147 (by omega)
                · refine q_ald_n cx dX9_readAll_48 rfl (lv_at hl 1 rfl) ?_
                  refine q_bipush cx dX9_readAll_49 rfl ?_
                  refine q_cVi (As := [.int (q_i 59)]) (rest := []) cx hB (fun _ h => h) hN hso kso (by decide) rfl (f_takeMark l g hN hB.2.1 B so hso kso 59 (by decide) (by decide) ba hba kba tn (by omega) (by omega) x2146 (by omega) (by omega) z2141 ex2146 z2137 z2138 z2142 g2140 g2144) q_cX9_39 q_dX8_takeMark (by decide) rfl rfl hl.1 rfl (Nat.le_of_ble_eq_true rfl) dX9_readAll_51 (fun y2149 H locs f2148 ry2149 h2150 hF hB => ?_)
                  rcases h2150 with h2151 | h2152
                  · obtain ⟨qy2149, z2153, z2154, t2155, g2156⟩ := h2151
                    have z2157 : q_is (q_z f2148 so 1) tn := Eq.trans (hF.z hso (by rw [kso]; rfl)) z2141
                    have z2158 : q_ir (q_r f2148 so 0) ba := Eq.trans (hF.r hso (by rw [kso]; rfl)) z2142
                    have z2159 : q_ir (q_r f2148 dr 0) nds := Eq.trans (hF.r hdr (by rw [kdr]; rfl)) z2143
                    have g2160 : tk_tb f2148 ba B tn := tk_tb_tr g2144 (fun i9 => hF.z hba (by rw [kba]; rfl))
                    have g2161 : tk_ij K L f2148 nds := tk_ij_tr g2145 (fun i9 => hF.r hnds (by rw [knds]; rfl))
                    have g2162 : tk_ta K L f2148 rd dr nds A8 (tk_has (tk_lk A8)) := tk_ta_tr hta8 (hF.z hrd (by rw [krd]; rfl)) (hF.z hrd (by rw [krd]; rfl)) (hF.z hrd (by rw [krd]; rfl)) (hF.z hdr (by rw [kdr]; rfl)) (hF.z hdr (by rw [kdr]; rfl)) (fun a9 h9 k9 => hF.j h9 (by rw [k9]; rfl)) (fun a9 h9 k9 => hF.z h9 (by rw [k9]; rfl)) (fun i9 => hF.r hnds (by rw [knds]; rfl))
                    subst qy2149
                    obtain ⟨x2163, ex2163⟩ : ∃ zz, q_is (q_z f2148 so 8) zz := ⟨_, q_isr _⟩
                    obtain ⟨lx2163, ux2163⟩ := q_isb ex2163 (q_fib hB.2.1 hso kso (by decide) rfl)
                    obtain ⟨-, l0x2163, u0x2163, -, -⟩ := tk_tc_n g2156 ex2163
                    refine q_ifne (tgt := 59) cx ⟨by decide, by decide⟩ dX9_readAll_54 (by decide) (fun c2164 => ?_) (fun c2164 => ?_)
                    · have hlt9 := tk_stm_in (tk_stm_ok (tk_okq hA8 ex2146) (tk_okx t2155 ex2163)) (by omega) (by omega)
                      have hlt8 : w25_so_8 < x2163 := hlt9.1
                      refine q_iinc (lv' := [(3, .int (q_i (v25_3 + 1))), (0, .ref rd), (1, .ref so), (2, .ref dr)]) cx dX9_readAll_59 hl (k := 3) rfl (by decide) rfl (fun ls hl => ?_)
                      refine lv_goto (tgt := 25) cx.1 cx.2.1 dX9_readAll_62 (by decide) ?_
                      exact ih25 f2148 (v25_3 + 1) (by omega) (by omega) 0 (by decide) (by decide) (-1) (by decide) (by decide) x2163 (by omega) (by omega) z2157 z2153 z2154 ex2163 z2158 z2159 g2161 g2160 g2156 (by omega) (by omega) ⟨A8, hA9.trans (tk_T_ok (by omega) (by omega) t2129 (tk_stm_ok (tk_okq hA8 ex2146) (tk_okx t2155 ex2163))), g2162⟩ (by omega) H locs hB ls (lv_sub hl [1, 2, 3, 0] rfl)
                    · exact absurd c2164 (by omega)
                  · obtain ⟨qy2149, t2165, g2166⟩ := h2152
                    have z2167 : q_is (q_z f2148 so 1) tn := Eq.trans (hF.z hso (by rw [kso]; rfl)) z2141
                    have z2168 : q_ir (q_r f2148 so 0) ba := Eq.trans (hF.r hso (by rw [kso]; rfl)) z2142
                    have z2169 : q_ir (q_r f2148 dr 0) nds := Eq.trans (hF.r hdr (by rw [kdr]; rfl)) z2143
                    have g2170 : tk_tb f2148 ba B tn := tk_tb_tr g2144 (fun i9 => hF.z hba (by rw [kba]; rfl))
                    have g2171 : tk_ij K L f2148 nds := tk_ij_tr g2145 (fun i9 => hF.r hnds (by rw [knds]; rfl))
                    have g2172 : tk_ta K L f2148 rd dr nds A8 (tk_has (tk_lk A8)) := tk_ta_tr hta8 (hF.z hrd (by rw [krd]; rfl)) (hF.z hrd (by rw [krd]; rfl)) (hF.z hrd (by rw [krd]; rfl)) (hF.z hdr (by rw [kdr]; rfl)) (hF.z hdr (by rw [kdr]; rfl)) (fun a9 h9 k9 => hF.j h9 (by rw [k9]; rfl)) (fun a9 h9 k9 => hF.z h9 (by rw [k9]; rfl)) (fun i9 => hF.r hnds (by rw [knds]; rfl))
                    subst qy2149
                    obtain ⟨x2173, ex2173⟩ : ∃ zz, q_is (q_z f2148 so 8) zz := ⟨_, q_isr _⟩
                    obtain ⟨lx2173, ux2173⟩ := q_isb ex2173 (q_fib hB.2.1 hso kso (by decide) rfl)
                    obtain ⟨-, l0x2173, u0x2173, -, -⟩ := tk_tc_n g2166 ex2173
                    refine q_ifne (tgt := 59) cx ⟨by decide, by decide⟩ dX9_readAll_54 (by decide) (fun c2174 => ?_) (fun c2174 => ?_)
                    · exact absurd c2174 (by omega)
                    · refine q_iconst cx dX9_readAll_57 ?_
                      refine W.widen (k := 0) (n := 0) (by decide) (by decide) ?_
                      refine vx_ret ?_
                      refine q_zret cx hr hlk hB dX9_readAll_58 (by decide) (by decide) ?_
                      exact (Or.inr ⟨rfl, (hA9.trans (tk_T_er t2129 (tk_stm_e2 (tk_okq hA8 ex2146) t2165)))⟩)
              · obtain ⟨qy2132, t2175, g2176⟩ := h2136
                have z2177 : q_is (q_z f2131 so 1) tn := Eq.trans (hF.z hso (by rw [kso]; rfl)) hj_so_1
                have z2178 : q_ir (q_r f2131 so 0) ba := Eq.trans (hF.r hso (by rw [kso]; rfl)) hq_so_0
                have z2179 : q_ir (q_r f2131 dr 0) nds := Eq.trans (hF.r hdr (by rw [kdr]; rfl)) hq_dr_0
                have g2180 : tk_tb f2131 ba B tn := tk_tb_tr htb25 (fun i9 => hF.z hba (by rw [kba]; rfl))
                have g2181 : tk_ij K L f2131 nds := tk_ij_tr hij25 (fun i9 => hF.r hnds (by rw [knds]; rfl))
                subst qy2132
                obtain ⟨x2182, ex2182⟩ : ∃ zz, q_is (q_z f2131 so 8) zz := ⟨_, q_isr _⟩
                obtain ⟨lx2182, ux2182⟩ := q_isb ex2182 (q_fib hB.2.1 hso kso (by decide) rfl)
                obtain ⟨-, l0x2182, u0x2182, -, -⟩ := tk_tc_n g2176 ex2182
                refine q_ifeq (tgt := 57) cx ⟨by decide, by decide⟩ dX9_readAll_45 (by decide) (fun c2183 => ?_) (fun c2183 => ?_)
                · refine q_iconst cx dX9_readAll_57 ?_
                  refine W.widen (k := 0) (n := 0) (by decide) (by decide) ?_
                  refine vx_ret ?_
                  refine q_zret cx hr hlk hB dX9_readAll_58 (by decide) (by decide) ?_
                  exact (Or.inr ⟨rfl, (hA9.trans (tk_T_er t2129 (tk_stm_e1 t2175)))⟩)
                · exact absurd c2183 (by omega)
  obtain ⟨H, hH⟩ : ∃ H : Heap, H = s.heap := ⟨_, rfl⟩
  obtain ⟨locs, hlocs⟩ : ∃ z : List Loc, z = [] := ⟨_, rfl⟩
  rw [← hH, ← hlocs] at hB
  rw [← hH, ← hlocs]
  refine q_ald_n cx dX9_readAll_0 rfl (lv_at hl 0 rfl) ?_
  refine q_iconst cx dX9_readAll_1 ?_
  refine q_pX9_9 cx hB hrd krd ⟨by decide, by decide⟩ (by decide) (by decide) rfl dX9_readAll_2 (fun H locs f2184 ef2184 z2185 hB => ?_)
  have z2186 : q_is (q_z f2184 so 1) tn := by rw [ef2184, q_setz (Or.inr (by decide))]; exact hf0
  have z2187 : q_ir (q_r f2184 so 0) ba := by rw [ef2184, q_setr (Or.inl (fun q => by rw [q, krd] at kso; exact absurd kso (by decide)))]; exact hr0
  have z2188 : q_ir (q_r f2184 dr 0) nds := by rw [ef2184, q_setr (Or.inl (fun q => by rw [q, krd] at kdr; exact absurd kdr (by decide)))]; exact hr1
  have g2189 : tk_tb f2184 ba B tn := tk_tb_tr htb (fun i9 => by rw [ef2184, q_setz (Or.inl (fun q => by rw [q, krd] at kba; exact absurd kba (by decide)))])
  have g2190 : tk_ij K L f2184 nds := tk_ij_tr hij (fun i9 => by rw [ef2184, q_setr (Or.inl (fun q => by rw [q, krd] at knds; exact absurd knds (by decide)))])
  refine q_ald_n cx dX9_readAll_5 rfl (lv_at hl 0 rfl) ?_
  refine q_iconst cx dX9_readAll_6 ?_
  refine q_pX9_15 cx hB hrd krd ⟨by decide, by decide⟩ (by decide) (by decide) rfl dX9_readAll_7 (fun H locs f2191 ef2191 z2192 hB => ?_)
  have z2193 : q_is (q_z f2191 so 1) tn := by rw [ef2191, q_setz (Or.inl (fun q => by rw [q, krd] at kso; exact absurd kso (by decide)))]; exact z2186
  have z2194 : q_is (q_z f2191 rd 0) 0 := by rw [ef2191, q_setz (Or.inr (by decide))]; exact z2185
  have z2195 : q_ir (q_r f2191 so 0) ba := by rw [ef2191, q_setr (Or.inr (by decide))]; exact z2187
  have z2196 : q_ir (q_r f2191 dr 0) nds := by rw [ef2191, q_setr (Or.inr (by decide))]; exact z2188
  have g2197 : tk_tb f2191 ba B tn := tk_tb_tr g2189 (fun i9 => by rw [ef2191, q_setz (Or.inl (fun q => by rw [q, krd] at kba; exact absurd kba (by decide)))])
  have g2198 : tk_ij K L f2191 nds := tk_ij_tr g2190 (fun i9 => by rw [ef2191, q_setr (Or.inl (fun q => by rw [q, krd] at knds; exact absurd knds (by decide)))])
  refine q_ald_n cx dX9_readAll_10 rfl (lv_at hl 0 rfl) ?_
  refine q_iconst cx dX9_readAll_11 ?_
  refine q_pX9_18 cx hB hrd krd ⟨by decide, by decide⟩ (by decide) (by decide) rfl dX9_readAll_12 (fun H locs f2199 ef2199 z2200 hB => ?_)
  have z2201 : q_is (q_z f2199 so 1) tn := by rw [ef2199, q_setz (Or.inr (by decide))]; exact z2193
  have z2202 : q_is (q_z f2199 rd 0) 0 := by rw [ef2199, q_setz (Or.inr (by decide))]; exact z2194
  have z2203 : q_is (q_z f2199 rd 1) 0 := by rw [ef2199, q_setz (Or.inr (by decide))]; exact z2192
  have z2204 : q_ir (q_r f2199 so 0) ba := by rw [ef2199, q_setr (Or.inr (by decide))]; exact z2195
  have z2205 : q_ir (q_r f2199 dr 0) nds := by rw [ef2199, q_setr (Or.inr (by decide))]; exact z2196
  have g2206 : tk_tb f2199 ba B tn := tk_tb_tr g2197 (fun i9 => by rw [ef2199, q_setz (Or.inl (fun q => by rw [q, krd] at kba; exact absurd kba (by decide)))])
  have g2207 : tk_ij K L f2199 nds := tk_ij_tr g2198 (fun i9 => by rw [ef2199, q_setr (Or.inl (fun q => by rw [q, krd] at knds; exact absurd knds (by decide)))])
  refine q_ald_n cx dX9_readAll_15 rfl (lv_at hl 2 rfl) ?_
  refine q_cVv (As := []) (rest := []) cx hB (fun _ h => h) hN hdr kdr (by decide) rfl (f_makeEmpty l g hN hB.2.1 dr hdr kdr) q_cX9_21 q_dX10_makeEmpty (by decide) rfl rfl hl.1 rfl (Nat.le_of_ble_eq_true rfl) dX9_readAll_16 (fun H locs f2208 h2210 hF hB => ?_)
  obtain ⟨z2211, z2212⟩ := h2210
  have z2213 : q_is (q_z f2208 so 1) tn := Eq.trans (hF.z hso (by rw [kso]; rfl)) z2201
  have z2214 : q_is (q_z f2208 rd 0) 0 := Eq.trans (hF.z hrd (by rw [krd]; rfl)) z2202
  have z2215 : q_is (q_z f2208 rd 1) 0 := Eq.trans (hF.z hrd (by rw [krd]; rfl)) z2203
  have z2216 : q_is (q_z f2208 rd 2) 0 := Eq.trans (hF.z hrd (by rw [krd]; rfl)) z2200
  have z2217 : q_ir (q_r f2208 so 0) ba := Eq.trans (hF.r hso (by rw [kso]; rfl)) z2204
  have z2218 : q_ir (q_r f2208 dr 0) nds := Eq.trans (hF.r hdr (by rw [kdr]; rfl)) z2205
  have g2219 : tk_tb f2208 ba B tn := tk_tb_tr g2206 (fun i9 => hF.z hba (by rw [kba]; rfl))
  have g2220 : tk_ij K L f2208 nds := tk_ij_tr g2207 (fun i9 => hF.r hnds (by rw [knds]; rfl))
  refine q_ald_n cx dX9_readAll_19 rfl (lv_at hl 1 rfl) ?_
  refine q_cVv (As := []) (rest := []) cx hB (fun _ h => h) hN hso kso (by decide) rfl (f_begin l g hN hB.2.1 B so hso kso ba hba kba tn (by omega) (by omega) z2213 z2217 g2219) q_cX9_26 q_dX8_begin (by decide) rfl rfl hl.1 rfl (Nat.le_of_ble_eq_true rfl) dX9_readAll_20 (fun H locs f2221 h2223 hF hB => ?_)
  obtain ⟨z2224, z2225, t2226, g2227⟩ := h2223
  have z2228 : q_is (q_z f2221 so 1) tn := Eq.trans (hF.z hso (by rw [kso]; rfl)) z2213
  have z2229 : q_is (q_z f2221 rd 0) 0 := Eq.trans (hF.z hrd (by rw [krd]; rfl)) z2214
  have z2230 : q_is (q_z f2221 rd 1) 0 := Eq.trans (hF.z hrd (by rw [krd]; rfl)) z2215
  have z2231 : q_is (q_z f2221 rd 2) 0 := Eq.trans (hF.z hrd (by rw [krd]; rfl)) z2216
  have z2232 : q_is (q_z f2221 dr 3) 0 := Eq.trans (hF.z hdr (by rw [kdr]; rfl)) z2211
  have z2233 : q_is (q_z f2221 dr 4) 0 := Eq.trans (hF.z hdr (by rw [kdr]; rfl)) z2212
  have z2234 : q_ir (q_r f2221 so 0) ba := Eq.trans (hF.r hso (by rw [kso]; rfl)) z2217
  have z2235 : q_ir (q_r f2221 dr 0) nds := Eq.trans (hF.r hdr (by rw [kdr]; rfl)) z2218
  have g2236 : tk_tb f2221 ba B tn := tk_tb_tr g2219 (fun i9 => hF.z hba (by rw [kba]; rfl))
  have g2237 : tk_ij K L f2221 nds := tk_ij_tr g2220 (fun i9 => hF.r hnds (by rw [knds]; rfl))
  obtain ⟨x2238, ex2238⟩ : ∃ zz, q_is (q_z f2221 so 8) zz := ⟨_, q_isr _⟩
  obtain ⟨lx2238, ux2238⟩ := q_isb ex2238 (q_fib hB.2.1 hso kso (by decide) rfl)
  obtain ⟨-, l0x2238, u0x2238, -, -⟩ := tk_tc_n g2227 ex2238
  have hta0 : tk_ta K L f2221 rd dr nds tk_A0 (tk_has (tk_lk tk_A0)) := tk_ta_0 g2237 z2229 z2230 z2231 z2232 z2233
  refine q_iconst cx dX9_readAll_23 ?_
  refine lv_istore_n (lv' := [(3, .int (q_i 0)), (0, .ref rd), (1, .ref so), (2, .ref dr)]) cx.1 cx.2.1 dX9_readAll_24 rfl hl (by decide) rfl (fun ls hl => ?_)
  exact J25 ((Int.toNat (2147483647 - 0)) + 1) f2221 0 (by decide) (by decide) 0 (by decide) (by decide) (-1) (by decide) (by decide) x2238 (by omega) (by omega) z2228 z2224 z2225 ex2238 z2234 z2235 g2237 g2236 g2227 (by omega) (by omega) ⟨tk_A0, congrArg (fun q9 => tk_T B tn q9 tk_A0) (Eq.symm (Eq.trans (Eq.symm ex2238) t2226)), hta0⟩ (Nat.lt_succ_self _) H locs hB ls (lv_sub hl [1, 2, 3, 0] rfl)
