set_option maxHeartbeats 4000000 in
set_option maxRecDepth 100000 in
theorem f_meetOrMiss0 (l : Launch) (g : q_G) {K : Nat → Nat} {L : List Nat} (hN : L.Nodup) {f : Nat → va_E} (hT : q_Ty g K L f) (d0 : Nat → Nat) (s0 : tw_S) (v0 : Nat) (hv0 : v0 ∈ L) (kv0 : K v0 = 10) (p0 : Nat) (hp0 : p0 ∈ L) (kp0 : K p0 = 3) (n0 : Nat) (hn0 : n0 ∈ L) (kn0 : K n0 = 110) (l0 : Nat) (hl0 : l0 ∈ L) (kl0 : K l0 = 120) (m0 : Nat) (hm0 : m0 ∈ L) (km0 : K m0 = 130) (li : Int) (lli : 0 ≤ li) (uli : li ≤ 15) (hr0 : q_ir (q_r f v0 0) n0) (hr1 : q_ir (q_r f v0 1) l0) (hr2 : q_ir (q_r f v0 2) m0) (hp0 : p0 = d0 (11 + Int.toNat li)) (hw0 : tw_vw K L 10 5 3 4 f v0 n0 l0 m0 d0 s0) : q_Ct l g K L yX10_meetOrMiss cX10_meetOrMiss 7 none 2 44 [.ref v0, .ref p0] f [(3, 2, 4), (5, 3, 3), (10, 12, 12)] (q_Pv (fun (f1 : Nat → va_E) => (tw_vw K L 10 5 3 4 f1 v0 n0 l0 m0 d0 (tw_mm s0 li)))) := by
  refine q_ofb (by decide +kernel) hN hT (Nat.le_of_ble_eq_true rfl) ?_
  intro p e s m below meth c ls cx hr hlk hB hl
  have hl : lv_has ls 7 [(0, .ref v0), (1, .ref p0)] := hl
  obtain ⟨H, hH⟩ : ∃ H : Heap, H = s.heap := ⟨_, rfl⟩
  obtain ⟨locs, hlocs⟩ : ∃ z : List Loc, z = [] := ⟨_, rfl⟩
  rw [← hH, ← hlocs] at hB
  rw [← hH, ← hlocs]
  refine q_ald_n cx dX10_meetOrMiss_0 rfl (lv_at hl 0 rfl) ?_
  refine q_ald_n cx dX10_meetOrMiss_1 rfl (lv_at hl 1 rfl) ?_
  obtain ⟨x177, ex177⟩ : ∃ zz, q_is (q_z f p0 0) zz := ⟨_, q_isr _⟩
  obtain ⟨lx177, ux177⟩ := q_isb ex177 (q_fib hB.2.1 hp0 kp0 (by decide) rfl)
  obtain ⟨x178, ex178, nx178⟩ : ∃ zz, q_is (q_z f p0 0) zz ∧ zz = x177 := ⟨_, ex177, rfl⟩
  have sx178 : q_is x178 (s0 (11 + Int.toNat li) 0) := tw_g hw0 hp0 (by omega) (by omega) ex178
  refine q_gX10_116 cx hB hp0 kp0 ex178 dX10_meetOrMiss_2 (fun lb179 ub179 => ?_)
  refine q_cVr (As := [.int (q_i x178)]) (rest := []) cx hB (fun _ h => h) hN hv0 kv0 (by decide) rfl (f_nodeAt0 l g hN hB.2.1 d0 s0 v0 hv0 kv0 x178 (by omega) (by omega) n0 hn0 kn0 l0 hl0 kl0 m0 hm0 km0 hr0 hr1 hr2 hw0) q_cX10_66 q_dX10_nodeAt (by decide) rfl rfl hl.1 rfl (Nat.le_of_ble_eq_true rfl) dX10_meetOrMiss_5 (fun y181 H locs f180 h182 hF hB => ?_)
  obtain ⟨rfl, hy181, ky181, t183⟩ := h182
  refine lv_astore_n (lv' := [(2, .ref y181), (0, .ref v0), (1, .ref p0)]) cx.1 cx.2.1 dX10_meetOrMiss_8 rfl hl (by decide) rfl (fun ls hl => ?_)
  refine q_ald_n cx dX10_meetOrMiss_9 rfl (lv_at hl 1 rfl) ?_
  refine q_ald_n cx dX10_meetOrMiss_10 rfl (lv_at hl 2 rfl) ?_
  obtain ⟨x184, ex184⟩ : ∃ zz, q_is (q_z f p0 1) zz := ⟨_, q_isr _⟩
  obtain ⟨lx184, ux184⟩ := q_isb ex184 (q_fib hB.2.1 hp0 kp0 (by decide) rfl)
  obtain ⟨x185, ex185, nx185⟩ : ∃ zz, q_is (q_z f p0 1) zz ∧ zz = x184 := ⟨_, ex184, rfl⟩
  have sx185 : q_is x185 (s0 (11 + Int.toNat li) 1) := tw_g hw0 hp0 (by omega) (by omega) ex185
  refine q_gX10_119 cx hB hp0 kp0 ex185 dX10_meetOrMiss_11 (fun lb186 ub186 => ?_)
  refine q_cVr (As := [.int (q_i x185)]) (rest := []) cx hB (fun _ h => h) hN hv0 kv0 (by decide) rfl (f_nodeAt0 l g hN hB.2.1 d0 s0 v0 hv0 kv0 x185 (by omega) (by omega) n0 hn0 kn0 l0 hl0 kl0 m0 hm0 km0 hr0 hr1 hr2 hw0) q_cX10_66 q_dX10_nodeAt (by decide) rfl rfl hl.1 rfl (Nat.le_of_ble_eq_true rfl) dX10_meetOrMiss_14 (fun y188 H locs f187 h189 hF hB => ?_)
  obtain ⟨rfl, hy188, ky188, t190⟩ := h189
  refine lv_astore_n (lv' := [(3, .ref y188), (2, .ref y181), (0, .ref v0), (1, .ref p0)]) cx.1 cx.2.1 dX10_meetOrMiss_17 rfl hl (by decide) rfl (fun ls hl => ?_)
  refine q_ald_n cx dX10_meetOrMiss_18 rfl (lv_at hl 1 rfl) ?_
  obtain ⟨x191, ex191⟩ : ∃ zz, q_is (q_z f y181 4) zz := ⟨_, q_isr _⟩
  obtain ⟨lx191, ux191⟩ := q_isb ex191 (q_fib hB.2.1 hy181 ky181 (by decide) rfl)
  obtain ⟨x192, ex192, nx192⟩ : ∃ zz, q_is (q_z f y181 4) zz ∧ zz = x191 := ⟨_, ex191, rfl⟩
  have sx192 : q_is x192 (s0 (1 + Int.toNat x178) 4) := tw_g hw0 t183 (by omega) (by omega) ex192
  refine q_gX10_101 cx hB hy181 ky181 ex192 dX10_meetOrMiss_19 (fun lb193 ub193 => ?_)
  refine q_ifeq (tgt := 32) cx ⟨by omega, by omega⟩ dX10_meetOrMiss_22 (by decide) (fun c194 => ?_) (fun c194 => ?_)
  · refine q_vret cx hr hlk hB dX10_meetOrMiss_32 ?_
    exact (tw_cg hw0 (by have t0_ : x178 = s0 (11 + Int.toNat li) 0 := sx178; have t1_ : x185 = s0 (11 + Int.toNat li) 1 := sx185; have t2_ : x192 = s0 (1 + Int.toNat (s0 (11 + Int.toNat li) 0)) 4 := Eq.trans sx192 (by simp only [t0_]); (try simp only [t0_, t1_, t2_]); unfold tw_mm tw_mm2 tw_mm3; (repeat' split) <;> first | rfl | (exfalso; omega)))
  · refine q_ald_n cx dX10_meetOrMiss_25 rfl (lv_at hl 0 rfl) ?_
    obtain ⟨x195, ex195⟩ : ∃ zz, q_is (q_z f y188 4) zz := ⟨_, q_isr _⟩
    obtain ⟨lx195, ux195⟩ := q_isb ex195 (q_fib hB.2.1 hy188 ky188 (by decide) rfl)
    obtain ⟨x196, ex196, nx196⟩ : ∃ zz, q_is (q_z f y188 4) zz ∧ zz = x195 := ⟨_, ex195, rfl⟩
    have sx196 : q_is x196 (s0 (1 + Int.toNat x185) 4) := tw_g hw0 t190 (by omega) (by omega) ex196
    refine q_gX10_101 cx hB hy188 ky188 ex196 dX10_meetOrMiss_26 (fun lb197 ub197 => ?_)
    refine q_ifne (tgt := 33) cx ⟨by omega, by omega⟩ dX10_meetOrMiss_29 (by decide) (fun c198 => ?_) (fun c198 => ?_)
    · refine q_ald_n cx dX10_meetOrMiss_33 rfl (lv_at hl 2 rfl) ?_
      obtain ⟨x199, ex199⟩ : ∃ zz, q_is (q_z f v0 13) zz := ⟨_, q_isr _⟩
      obtain ⟨lx199, ux199⟩ := q_isb ex199 (q_fib hB.2.1 hv0 kv0 (by decide) rfl)
      obtain ⟨x200, ex200, nx200⟩ : ∃ zz, q_is (q_z f v0 13) zz ∧ zz = x199 := ⟨_, ex199, rfl⟩
      have sx200 : q_is x200 (s0 0 13) := tw_g hw0 (tw_v0 hw0) (by omega) (by omega) ex200
      refine q_gX10_262 cx hB hv0 kv0 ex200 dX10_meetOrMiss_34 (fun lb201 ub201 => ?_)
      refine q_ald_n cx dX10_meetOrMiss_37 rfl (lv_at hl 3 rfl) ?_
      obtain ⟨x202, ex202, nx202⟩ : ∃ zz, q_is (q_z f p0 0) zz ∧ zz = x177 := ⟨_, ex177, rfl⟩
      have sx202 : q_is x202 (s0 (11 + Int.toNat li) 0) := tw_g hw0 hp0 (by omega) (by omega) ex202
      refine q_gX10_116 cx hB hp0 kp0 ex202 dX10_meetOrMiss_38 (fun lb203 ub203 => ?_)
      refine q_cSi (As := [.int (q_i x200), .int (q_i x202)]) (rest := []) cx hB (fun _ h => h) hN (f_has l g hN hB.2.1 x200 (by omega) (by omega) x202 (by omega) (by omega)) q_cX10_181 q_dX10_has (by decide) rfl rfl hl.1 rfl (Nat.le_of_ble_eq_true rfl) dX10_meetOrMiss_41 (fun y205 H locs f204 ry205 h206 hF hB => ?_)
      rcases h206 with h207 | h208
      · obtain ⟨rfl, qy205, t209⟩ := h207
        subst qy205
        refine lv_istore (lv' := [(4, .int (q_i 1)), (3, .ref y188), (2, .ref y181), (0, .ref v0), (1, .ref p0)]) cx.1 cx.2.1 dX10_meetOrMiss_44 hl (by decide) rfl (fun ls hl => ?_)
        refine q_ald_n cx dX10_meetOrMiss_46 rfl (lv_at hl 3 rfl) ?_
        obtain ⟨x210, ex210, nx210⟩ : ∃ zz, q_is (q_z f v0 13) zz ∧ zz = x199 := ⟨_, ex199, rfl⟩
        have sx210 : q_is x210 (s0 0 13) := tw_g hw0 (tw_v0 hw0) (by omega) (by omega) ex210
        refine q_gX10_262 cx hB hv0 kv0 ex210 dX10_meetOrMiss_47 (fun lb211 ub211 => ?_)
        refine q_ald_n cx dX10_meetOrMiss_50 rfl (lv_at hl 4 rfl) ?_
        obtain ⟨x212, ex212, nx212⟩ : ∃ zz, q_is (q_z f p0 1) zz ∧ zz = x184 := ⟨_, ex184, rfl⟩
        have sx212 : q_is x212 (s0 (11 + Int.toNat li) 1) := tw_g hw0 hp0 (by omega) (by omega) ex212
        refine q_gX10_119 cx hB hp0 kp0 ex212 dX10_meetOrMiss_51 (fun lb213 ub213 => ?_)
        refine q_cSi (As := [.int (q_i x210), .int (q_i x212)]) (rest := []) cx hB (fun _ h => h) hN (f_has l g hN hB.2.1 x210 (by omega) (by omega) x212 (by omega) (by omega)) q_cX10_181 q_dX10_has (by decide) rfl rfl hl.1 rfl (Nat.le_of_ble_eq_true rfl) dX10_meetOrMiss_54 (fun y215 H locs f214 ry215 h216 hF hB => ?_)
        rcases h216 with h217 | h218
        · obtain ⟨rfl, qy215, t219⟩ := h217
          subst qy215
          refine lv_istore (lv' := [(5, .int (q_i 1)), (4, .int (q_i 1)), (3, .ref y188), (2, .ref y181), (0, .ref v0), (1, .ref p0)]) cx.1 cx.2.1 dX10_meetOrMiss_57 hl (by decide) rfl (fun ls hl => ?_)
          refine lv_iload cx.1 cx.2.1 dX10_meetOrMiss_59 (lv_at hl 1 rfl) ?_
          refine q_ifeq (tgt := 87) cx ⟨by decide, by decide⟩ dX10_meetOrMiss_61 (by decide) (fun c220 => ?_) (fun c220 => ?_)
          · exact absurd c220 (by omega)
          · refine lv_iload cx.1 cx.2.1 dX10_meetOrMiss_64 (lv_at hl 0 rfl) ?_
            refine q_ifeq (tgt := 87) cx ⟨by decide, by decide⟩ dX10_meetOrMiss_66 (by decide) (fun c221 => ?_) (fun c221 => ?_)
            · exact absurd c221 (by omega)
            · refine q_ald_n cx dX10_meetOrMiss_69 rfl (lv_at hl 5 rfl) ?_
              refine lv_dup cx.1 cx.2.1 dX10_meetOrMiss_70 rfl ?_
              obtain ⟨x222, ex222⟩ : ∃ zz, q_is (q_z f p0 3) zz := ⟨_, q_isr _⟩
              obtain ⟨lx222, ux222⟩ := q_isb ex222 (q_fib hB.2.1 hp0 kp0 (by decide) rfl)
              obtain ⟨x223, ex223, nx223⟩ : ∃ zz, q_is (q_z f p0 3) zz ∧ zz = x222 := ⟨_, ex222, rfl⟩
              have sx223 : q_is x223 (s0 (11 + Int.toNat li) 3) := tw_g hw0 hp0 (by omega) (by omega) ex223
              refine q_gX10_125 cx hB hp0 kp0 ex223 dX10_meetOrMiss_71 (fun lb224 ub224 => ?_)
              refine q_iconst cx dX10_meetOrMiss_74 ?_
              refine q_iadd cx dX10_meetOrMiss_75 ?_
              refine q_any (fun y225 ry225 ey225 => ?_)
              refine q_pX10_125 cx hB hp0 kp0 ⟨by omega, by omega⟩ (by omega) (by omega) rfl dX10_meetOrMiss_76 (fun H locs f226 ef226 z227 hB => ?_)
              have z228 : q_is (q_z f226 p0 0) x177 := by rw [ef226, q_setz (Or.inr (by decide))]; exact ex177
              have z229 : q_is (q_z f226 p0 1) x184 := by rw [ef226, q_setz (Or.inr (by decide))]; exact ex184
              have z230 : q_is (q_z f226 y181 4) x191 := by rw [ef226, q_setz (Or.inr (by decide))]; exact ex191
              have z231 : q_is (q_z f226 y188 4) x195 := by rw [ef226, q_setz (Or.inr (by decide))]; exact ex195
              have z232 : q_is (q_z f226 v0 13) x199 := by rw [ef226, q_setz (Or.inr (by decide))]; exact ex199
              have z233 : q_ir (q_r f226 v0 0) n0 := by rw [ef226, q_setr (Or.inr (by decide))]; exact hr0
              have z234 : q_ir (q_r f226 v0 1) l0 := by rw [ef226, q_setr (Or.inr (by decide))]; exact hr1
              have z235 : q_ir (q_r f226 v0 2) m0 := by rw [ef226, q_setr (Or.inr (by decide))]; exact hr2
              have g236 : tw_vw K L 10 5 3 4 f226 v0 n0 l0 m0 d0 (tw_u s0 (11 + Int.toNat li) 3 y225) := tw_vw_s hw0 hp0 (by omega) (by omega) ef226 z227 (fun i9 => by rw [ef226, q_setr (Or.inl (fun q => by rw [q, kp0] at kn0; exact absurd kn0 (by decide)))]) (fun i9 => by rw [ef226, q_setr (Or.inl (fun q => by rw [q, kp0] at kl0; exact absurd kl0 (by decide)))]) (fun i9 => by rw [ef226, q_setr (Or.inl (fun q => by rw [q, kp0] at km0; exact absurd km0 (by decide)))])
              refine q_ald_n cx dX10_meetOrMiss_79 rfl (lv_at hl 5 rfl) ?_
              refine q_iconst cx dX10_meetOrMiss_80 ?_
              refine q_pX10_122 cx hB hp0 kp0 ⟨by decide, by decide⟩ (by decide) (by decide) rfl dX10_meetOrMiss_81 (fun H locs f237 ef237 z238 hB => ?_)
              have z239 : q_is (q_z f237 p0 0) x177 := by rw [ef237, q_setz (Or.inr (by decide))]; exact z228
              have z240 : q_is (q_z f237 p0 1) x184 := by rw [ef237, q_setz (Or.inr (by decide))]; exact z229
              have z241 : q_is (q_z f237 y181 4) x191 := by rw [ef237, q_setz (Or.inr (by decide))]; exact z230
              have z242 : q_is (q_z f237 y188 4) x195 := by rw [ef237, q_setz (Or.inr (by decide))]; exact z231
              have z243 : q_is (q_z f237 v0 13) x199 := by rw [ef237, q_setz (Or.inr (by decide))]; exact z232
              have z244 : q_is (q_z f237 p0 3) y225 := by rw [ef237, q_setz (Or.inr (by decide))]; exact z227
              have z245 : q_ir (q_r f237 v0 0) n0 := by rw [ef237, q_setr (Or.inr (by decide))]; exact z233
              have z246 : q_ir (q_r f237 v0 1) l0 := by rw [ef237, q_setr (Or.inr (by decide))]; exact z234
              have z247 : q_ir (q_r f237 v0 2) m0 := by rw [ef237, q_setr (Or.inl (fun q => by rw [q, kp0] at kv0; exact absurd kv0 (by decide)))]; exact z235
              have g248 : tw_vw K L 10 5 3 4 f237 v0 n0 l0 m0 d0 (tw_u (tw_u s0 (11 + Int.toNat li) 3 y225) (11 + Int.toNat li) 2 0) := tw_vw_s g236 hp0 (by omega) (by omega) ef237 z238 (fun i9 => by rw [ef237, q_setr (Or.inl (fun q => by rw [q, kp0] at kn0; exact absurd kn0 (by decide)))]) (fun i9 => by rw [ef237, q_setr (Or.inl (fun q => by rw [q, kp0] at kl0; exact absurd kl0 (by decide)))]) (fun i9 => by rw [ef237, q_setr (Or.inl (fun q => by rw [q, kp0] at km0; exact absurd km0 (by decide)))])
              refine lv_goto (tgt := 138) cx.1 cx.2.1 dX10_meetOrMiss_84 (by decide) ?_
              refine q_vret cx hr hlk hB dX10_meetOrMiss_138 ?_
              exact (tw_cg g248 (by have t0_ : x178 = s0 (11 + Int.toNat li) 0 := sx178; have t1_ : x185 = s0 (11 + Int.toNat li) 1 := sx185; have t2_ : x192 = s0 (1 + Int.toNat (s0 (11 + Int.toNat li) 0)) 4 := Eq.trans sx192 (by simp only [t0_]); have t3_ : x196 = s0 (1 + Int.toNat (s0 (11 + Int.toNat li) 1)) 4 := Eq.trans sx196 (by simp only [t1_]); have t4_ : x200 = s0 0 13 := sx200; have t5_ : x202 = s0 (11 + Int.toNat li) 0 := sx202; have t6_ : x210 = s0 0 13 := sx210; have t7_ : x212 = s0 (11 + Int.toNat li) 1 := sx212; have t8_ : x223 = s0 (11 + Int.toNat li) 3 := sx223; have t9_ : y225 = tw_w ((s0 (11 + Int.toNat li) 3) + 1) := Eq.trans (tw_w_of ry225 ey225) (by simp only [t8_]); have u0_ : tw_hz (s0 0 13) (s0 (11 + Int.toNat li) 0) = 1 := (by have e9 := t209; simp only [t4_, t5_] at e9; exact e9); have u1_ : tw_hz (s0 0 13) (s0 (11 + Int.toNat li) 1) = 1 := (by have e9 := t219; simp only [t6_, t7_] at e9; exact e9); (try simp only [t0_, t1_, t2_, t3_, t4_, t5_, t6_, t7_, t8_, t9_]); unfold tw_mm tw_mm2 tw_mm3; (repeat' split) <;> first | rfl | (exfalso; omega)))
        · obtain ⟨rfl, qy215, t249⟩ := h218
          subst qy215
          refine lv_istore (lv' := [(5, .int (q_i 0)), (4, .int (q_i 1)), (3, .ref y188), (2, .ref y181), (0, .ref v0), (1, .ref p0)]) cx.1 cx.2.1 dX10_meetOrMiss_57 hl (by decide) rfl (fun ls hl => ?_)
          refine lv_iload cx.1 cx.2.1 dX10_meetOrMiss_59 (lv_at hl 1 rfl) ?_
          refine q_ifeq (tgt := 87) cx ⟨by decide, by decide⟩ dX10_meetOrMiss_61 (by decide) (fun c250 => ?_) (fun c250 => ?_)
          · exact absurd c250 (by omega)
          · refine lv_iload cx.1 cx.2.1 dX10_meetOrMiss_64 (lv_at hl 0 rfl) ?_
            refine q_ifeq (tgt := 87) cx ⟨by decide, by decide⟩ dX10_meetOrMiss_66 (by decide) (fun c251 => ?_) (fun c251 => ?_)
            · refine lv_iload cx.1 cx.2.1 dX10_meetOrMiss_87 (lv_at hl 1 rfl) ?_
              refine q_ifne (tgt := 97) cx ⟨by decide, by decide⟩ dX10_meetOrMiss_89 (by decide) (fun c252 => ?_) (fun c252 => ?_)
              · refine lv_iload cx.1 cx.2.1 dX10_meetOrMiss_97 (lv_at hl 1 rfl) ?_
                refine q_ifeq (tgt := 109) cx ⟨by decide, by decide⟩ dX10_meetOrMiss_99 (by decide) (fun c253 => ?_) (fun c253 => ?_)
                · exact absurd c253 (by omega)
                · refine q_ald_n cx dX10_meetOrMiss_102 rfl (lv_at hl 3 rfl) ?_
                  obtain ⟨x254, ex254⟩ : ∃ zz, q_is (q_z f y181 9) zz := ⟨_, q_isr _⟩
                  obtain ⟨lx254, ux254⟩ := q_isb ex254 (q_fib hB.2.1 hy181 ky181 (by decide) rfl)
                  obtain ⟨x255, ex255, nx255⟩ : ∃ zz, q_is (q_z f y181 9) zz ∧ zz = x254 := ⟨_, ex254, rfl⟩
                  have sx255 : q_is x255 (s0 (1 + Int.toNat x178) 9) := tw_g hw0 t183 (by omega) (by omega) ex255
                  refine q_gX10_265 cx hB hy181 ky181 ex255 dX10_meetOrMiss_103 (fun lb256 ub256 => ?_)
                  refine lv_goto (tgt := 113) cx.1 cx.2.1 dX10_meetOrMiss_106 (by decide) ?_
                  refine lv_istore (lv' := [(6, .int (q_i x255)), (5, .int (q_i 0)), (4, .int (q_i 1)), (3, .ref y188), (2, .ref y181), (0, .ref v0), (1, .ref p0)]) cx.1 cx.2.1 dX10_meetOrMiss_113 hl (by decide) rfl (fun ls hl => ?_)
                  refine lv_iload cx.1 cx.2.1 dX10_meetOrMiss_115 (lv_at hl 0 rfl) ?_
                  refine q_ald_n cx dX10_meetOrMiss_117 rfl (lv_at hl 4 rfl) ?_
                  obtain ⟨x257, ex257⟩ : ∃ zz, q_is (q_z f y181 2) zz := ⟨_, q_isr _⟩
                  obtain ⟨lx257, ux257⟩ := q_isb ex257 (q_fib hB.2.1 hy181 ky181 (by decide) rfl)
                  obtain ⟨x258, ex258, nx258⟩ : ∃ zz, q_is (q_z f y181 2) zz ∧ zz = x257 := ⟨_, ex257, rfl⟩
                  have sx258 : q_is x258 (s0 (1 + Int.toNat x178) 2) := tw_g hw0 t183 (by omega) (by omega) ex258
                  refine q_gX10_95 cx hB hy181 ky181 ex258 dX10_meetOrMiss_118 (fun lb259 ub259 => ?_)
                  refine q_iceq (tgt := 133) cx ⟨by omega, by omega⟩ ⟨by omega, by omega⟩ dX10_meetOrMiss_121 (by decide) (fun c260 => ?_) (fun c260 => ?_)
                  · refine q_ald_n cx dX10_meetOrMiss_133 rfl (lv_at hl 5 rfl) ?_
                    refine q_ald_n cx dX10_meetOrMiss_134 rfl (lv_at hl 6 rfl) ?_
                    refine q_cVv (As := [.ref p0]) (rest := []) cx hB (fun _ h => h) hN hv0 kv0 (by decide) rfl (f_miss0 l g hN hB.2.1 d0 s0 v0 hv0 kv0 p0 hp0 kp0 n0 hn0 kn0 l0 hl0 kl0 m0 hm0 km0 li (by omega) (by omega) hr0 hr1 hr2 hp0 hw0) q_cX10_268 q_dX10_miss (by decide) rfl rfl hl.1 rfl (Nat.le_of_ble_eq_true rfl) dX10_meetOrMiss_135 (fun H locs f261 h263 hF hB => ?_)
                    have g264 := h263
                    have z265 : q_is (q_z f261 p0 0) x177 := Eq.trans (hF.z hp0 (by rw [kp0]; rfl)) ex177
                    have z266 : q_is (q_z f261 p0 1) x184 := Eq.trans (hF.z hp0 (by rw [kp0]; rfl)) ex184
                    have z267 : q_is (q_z f261 y181 4) x191 := Eq.trans (hF.z hy181 (by rw [ky181]; rfl)) ex191
                    have z268 : q_is (q_z f261 y188 4) x195 := Eq.trans (hF.z hy188 (by rw [ky188]; rfl)) ex195
                    have z269 : q_is (q_z f261 v0 13) x199 := Eq.trans (hF.z hv0 (by rw [kv0]; rfl)) ex199
                    have z270 : q_is (q_z f261 y181 9) x254 := Eq.trans (hF.z hy181 (by rw [ky181]; rfl)) ex254
                    have z271 : q_is (q_z f261 y181 2) x257 := Eq.trans (hF.z hy181 (by rw [ky181]; rfl)) ex257
                    have z272 : q_ir (q_r f261 v0 0) n0 := Eq.trans (hF.r hv0 (by rw [kv0]; rfl)) hr0
                    have z273 : q_ir (q_r f261 v0 1) l0 := Eq.trans (hF.r hv0 (by rw [kv0]; rfl)) hr1
                    have z274 : q_ir (q_r f261 v0 2) m0 := Eq.trans (hF.r hv0 (by rw [kv0]; rfl)) hr2
                    refine q_vret cx hr hlk hB dX10_meetOrMiss_138 ?_
                    exact (tw_cg g264 (by have t0_ : x178 = s0 (11 + Int.toNat li) 0 := sx178; have t1_ : x185 = s0 (11 + Int.toNat li) 1 := sx185; have t2_ : x192 = s0 (1 + Int.toNat (s0 (11 + Int.toNat li) 0)) 4 := Eq.trans sx192 (by simp only [t0_]); have t3_ : x196 = s0 (1 + Int.toNat (s0 (11 + Int.toNat li) 1)) 4 := Eq.trans sx196 (by simp only [t1_]); have t4_ : x200 = s0 0 13 := sx200; have t5_ : x202 = s0 (11 + Int.toNat li) 0 := sx202; have t6_ : x210 = s0 0 13 := sx210; have t7_ : x212 = s0 (11 + Int.toNat li) 1 := sx212; have t8_ : x255 = s0 (1 + Int.toNat (s0 (11 + Int.toNat li) 0)) 9 := Eq.trans sx255 (by simp only [t0_]); have t9_ : x258 = s0 (1 + Int.toNat (s0 (11 + Int.toNat li) 0)) 2 := Eq.trans sx258 (by simp only [t0_]); have u0_ : tw_hz (s0 0 13) (s0 (11 + Int.toNat li) 0) = 1 := (by have e9 := t209; simp only [t4_, t5_] at e9; exact e9); have u1_ : tw_hz (s0 0 13) (s0 (11 + Int.toNat li) 1) = 0 := (by have e9 := t249; simp only [t6_, t7_] at e9; exact e9); (try simp only [t0_, t1_, t2_, t3_, t4_, t5_, t6_, t7_, t8_, t9_]); unfold tw_mm tw_mm2 tw_mm3; (repeat' split) <;> first | rfl | (exfalso; omega)))
                  · refine lv_iload cx.1 cx.2.1 dX10_meetOrMiss_124 (lv_at hl 0 rfl) ?_
                    refine q_ald_n cx dX10_meetOrMiss_126 rfl (lv_at hl 3 rfl) ?_
                    obtain ⟨x275, ex275⟩ : ∃ zz, q_is (q_z f y188 2) zz := ⟨_, q_isr _⟩
                    obtain ⟨lx275, ux275⟩ := q_isb ex275 (q_fib hB.2.1 hy188 ky188 (by decide) rfl)
                    obtain ⟨x276, ex276, nx276⟩ : ∃ zz, q_is (q_z f y188 2) zz ∧ zz = x275 := ⟨_, ex275, rfl⟩
                    have sx276 : q_is x276 (s0 (1 + Int.toNat x185) 2) := tw_g hw0 t190 (by omega) (by omega) ex276
                    refine q_gX10_95 cx hB hy188 ky188 ex276 dX10_meetOrMiss_127 (fun lb277 ub277 => ?_)
                    refine q_icne (tgt := 138) cx ⟨by omega, by omega⟩ ⟨by omega, by omega⟩ dX10_meetOrMiss_130 (by decide) (fun c278 => ?_) (fun c278 => ?_)
                    · refine q_vret cx hr hlk hB dX10_meetOrMiss_138 ?_
                      exact (tw_cg hw0 (by have t0_ : x178 = s0 (11 + Int.toNat li) 0 := sx178; have t1_ : x185 = s0 (11 + Int.toNat li) 1 := sx185; have t2_ : x192 = s0 (1 + Int.toNat (s0 (11 + Int.toNat li) 0)) 4 := Eq.trans sx192 (by simp only [t0_]); have t3_ : x196 = s0 (1 + Int.toNat (s0 (11 + Int.toNat li) 1)) 4 := Eq.trans sx196 (by simp only [t1_]); have t4_ : x200 = s0 0 13 := sx200; have t5_ : x202 = s0 (11 + Int.toNat li) 0 := sx202; have t6_ : x210 = s0 0 13 := sx210; have t7_ : x212 = s0 (11 + Int.toNat li) 1 := sx212; have t8_ : x255 = s0 (1 + Int.toNat (s0 (11 + Int.toNat li) 0)) 9 := Eq.trans sx255 (by simp only [t0_]); have t9_ : x258 = s0 (1 + Int.toNat (s0 (11 + Int.toNat li) 0)) 2 := Eq.trans sx258 (by simp only [t0_]); have t10_ : x276 = s0 (1 + Int.toNat (s0 (11 + Int.toNat li) 1)) 2 := Eq.trans sx276 (by simp only [t1_]); have u0_ : tw_hz (s0 0 13) (s0 (11 + Int.toNat li) 0) = 1 := (by have e9 := t209; simp only [t4_, t5_] at e9; exact e9); have u1_ : tw_hz (s0 0 13) (s0 (11 + Int.toNat li) 1) = 0 := (by have e9 := t249; simp only [t6_, t7_] at e9; exact e9); (try simp only [t0_, t1_, t2_, t3_, t4_, t5_, t6_, t7_, t8_, t9_, t10_]); unfold tw_mm tw_mm2 tw_mm3; (repeat' split) <;> first | rfl | (exfalso; omega)))
                    · refine q_ald_n cx dX10_meetOrMiss_133 rfl (lv_at hl 5 rfl) ?_
                      refine q_ald_n cx dX10_meetOrMiss_134 rfl (lv_at hl 6 rfl) ?_
                      refine q_cVv (As := [.ref p0]) (rest := []) cx hB (fun _ h => h) hN hv0 kv0 (by decide) rfl (f_miss0 l g hN hB.2.1 d0 s0 v0 hv0 kv0 p0 hp0 kp0 n0 hn0 kn0 l0 hl0 kl0 m0 hm0 km0 li (by omega) (by omega) hr0 hr1 hr2 hp0 hw0) q_cX10_268 q_dX10_miss (by decide) rfl rfl hl.1 rfl (Nat.le_of_ble_eq_true rfl) dX10_meetOrMiss_135 (fun H locs f279 h281 hF hB => ?_)
                      have g282 := h281
                      have z283 : q_is (q_z f279 p0 0) x177 := Eq.trans (hF.z hp0 (by rw [kp0]; rfl)) ex177
                      have z284 : q_is (q_z f279 p0 1) x184 := Eq.trans (hF.z hp0 (by rw [kp0]; rfl)) ex184
                      have z285 : q_is (q_z f279 y181 4) x191 := Eq.trans (hF.z hy181 (by rw [ky181]; rfl)) ex191
                      have z286 : q_is (q_z f279 y188 4) x195 := Eq.trans (hF.z hy188 (by rw [ky188]; rfl)) ex195
                      have z287 : q_is (q_z f279 v0 13) x199 := Eq.trans (hF.z hv0 (by rw [kv0]; rfl)) ex199
                      have z288 : q_is (q_z f279 y181 9) x254 := Eq.trans (hF.z hy181 (by rw [ky181]; rfl)) ex254
                      have z289 : q_is (q_z f279 y181 2) x257 := Eq.trans (hF.z hy181 (by rw [ky181]; rfl)) ex257
                      have z290 : q_is (q_z f279 y188 2) x275 := Eq.trans (hF.z hy188 (by rw [ky188]; rfl)) ex275
                      have z291 : q_ir (q_r f279 v0 0) n0 := Eq.trans (hF.r hv0 (by rw [kv0]; rfl)) hr0
                      have z292 : q_ir (q_r f279 v0 1) l0 := Eq.trans (hF.r hv0 (by rw [kv0]; rfl)) hr1
                      have z293 : q_ir (q_r f279 v0 2) m0 := Eq.trans (hF.r hv0 (by rw [kv0]; rfl)) hr2
                      refine q_vret cx hr hlk hB dX10_meetOrMiss_138 ?_
                      exact (tw_cg g282 (by have t0_ : x178 = s0 (11 + Int.toNat li) 0 := sx178; have t1_ : x185 = s0 (11 + Int.toNat li) 1 := sx185; have t2_ : x192 = s0 (1 + Int.toNat (s0 (11 + Int.toNat li) 0)) 4 := Eq.trans sx192 (by simp only [t0_]); have t3_ : x196 = s0 (1 + Int.toNat (s0 (11 + Int.toNat li) 1)) 4 := Eq.trans sx196 (by simp only [t1_]); have t4_ : x200 = s0 0 13 := sx200; have t5_ : x202 = s0 (11 + Int.toNat li) 0 := sx202; have t6_ : x210 = s0 0 13 := sx210; have t7_ : x212 = s0 (11 + Int.toNat li) 1 := sx212; have t8_ : x255 = s0 (1 + Int.toNat (s0 (11 + Int.toNat li) 0)) 9 := Eq.trans sx255 (by simp only [t0_]); have t9_ : x258 = s0 (1 + Int.toNat (s0 (11 + Int.toNat li) 0)) 2 := Eq.trans sx258 (by simp only [t0_]); have t10_ : x276 = s0 (1 + Int.toNat (s0 (11 + Int.toNat li) 1)) 2 := Eq.trans sx276 (by simp only [t1_]); have u0_ : tw_hz (s0 0 13) (s0 (11 + Int.toNat li) 0) = 1 := (by have e9 := t209; simp only [t4_, t5_] at e9; exact e9); have u1_ : tw_hz (s0 0 13) (s0 (11 + Int.toNat li) 1) = 0 := (by have e9 := t249; simp only [t6_, t7_] at e9; exact e9); (try simp only [t0_, t1_, t2_, t3_, t4_, t5_, t6_, t7_, t8_, t9_, t10_]); unfold tw_mm tw_mm2 tw_mm3; (repeat' split) <;> first | rfl | (exfalso; omega)))
              · exact absurd c252 (by omega)
            · exact absurd c251 (by omega)
      · obtain ⟨rfl, qy205, t294⟩ := h208
        subst qy205
        refine lv_istore (lv' := [(4, .int (q_i 0)), (3, .ref y188), (2, .ref y181), (0, .ref v0), (1, .ref p0)]) cx.1 cx.2.1 dX10_meetOrMiss_44 hl (by decide) rfl (fun ls hl => ?_)
        refine q_ald_n cx dX10_meetOrMiss_46 rfl (lv_at hl 3 rfl) ?_
        obtain ⟨x295, ex295, nx295⟩ : ∃ zz, q_is (q_z f v0 13) zz ∧ zz = x199 := ⟨_, ex199, rfl⟩
        have sx295 : q_is x295 (s0 0 13) := tw_g hw0 (tw_v0 hw0) (by omega) (by omega) ex295
        refine q_gX10_262 cx hB hv0 kv0 ex295 dX10_meetOrMiss_47 (fun lb296 ub296 => ?_)
        refine q_ald_n cx dX10_meetOrMiss_50 rfl (lv_at hl 4 rfl) ?_
        obtain ⟨x297, ex297, nx297⟩ : ∃ zz, q_is (q_z f p0 1) zz ∧ zz = x184 := ⟨_, ex184, rfl⟩
        have sx297 : q_is x297 (s0 (11 + Int.toNat li) 1) := tw_g hw0 hp0 (by omega) (by omega) ex297
        refine q_gX10_119 cx hB hp0 kp0 ex297 dX10_meetOrMiss_51 (fun lb298 ub298 => ?_)
        refine q_cSi (As := [.int (q_i x295), .int (q_i x297)]) (rest := []) cx hB (fun _ h => h) hN (f_has l g hN hB.2.1 x295 (by omega) (by omega) x297 (by omega) (by omega)) q_cX10_181 q_dX10_has (by decide) rfl rfl hl.1 rfl (Nat.le_of_ble_eq_true rfl) dX10_meetOrMiss_54 (fun y300 H locs f299 ry300 h301 hF hB => ?_)
        rcases h301 with h302 | h303
        · obtain ⟨rfl, qy300, t304⟩ := h302
          subst qy300
          refine lv_istore (lv' := [(5, .int (q_i 1)), (4, .int (q_i 0)), (3, .ref y188), (2, .ref y181), (0, .ref v0), (1, .ref p0)]) cx.1 cx.2.1 dX10_meetOrMiss_57 hl (by decide) rfl (fun ls hl => ?_)
          refine lv_iload cx.1 cx.2.1 dX10_meetOrMiss_59 (lv_at hl 1 rfl) ?_
          refine q_ifeq (tgt := 87) cx ⟨by decide, by decide⟩ dX10_meetOrMiss_61 (by decide) (fun c305 => ?_) (fun c305 => ?_)
          · refine lv_iload cx.1 cx.2.1 dX10_meetOrMiss_87 (lv_at hl 1 rfl) ?_
            refine q_ifne (tgt := 97) cx ⟨by decide, by decide⟩ dX10_meetOrMiss_89 (by decide) (fun c306 => ?_) (fun c306 => ?_)
            · exact absurd c306 (by omega)
            · refine lv_iload cx.1 cx.2.1 dX10_meetOrMiss_92 (lv_at hl 0 rfl) ?_
              refine q_ifeq (tgt := 138) cx ⟨by decide, by decide⟩ dX10_meetOrMiss_94 (by decide) (fun c307 => ?_) (fun c307 => ?_)
              · exact absurd c307 (by omega)
              · refine lv_iload cx.1 cx.2.1 dX10_meetOrMiss_97 (lv_at hl 1 rfl) ?_
                refine q_ifeq (tgt := 109) cx ⟨by decide, by decide⟩ dX10_meetOrMiss_99 (by decide) (fun c308 => ?_) (fun c308 => ?_)
                · refine q_ald_n cx dX10_meetOrMiss_109 rfl (lv_at hl 2 rfl) ?_
                  obtain ⟨x309, ex309⟩ : ∃ zz, q_is (q_z f y188 9) zz := ⟨_, q_isr _⟩
                  obtain ⟨lx309, ux309⟩ := q_isb ex309 (q_fib hB.2.1 hy188 ky188 (by decide) rfl)
                  obtain ⟨x310, ex310, nx310⟩ : ∃ zz, q_is (q_z f y188 9) zz ∧ zz = x309 := ⟨_, ex309, rfl⟩
                  have sx310 : q_is x310 (s0 (1 + Int.toNat x185) 9) := tw_g hw0 t190 (by omega) (by omega) ex310
                  refine q_gX10_265 cx hB hy188 ky188 ex310 dX10_meetOrMiss_110 (fun lb311 ub311 => ?_)
                  refine lv_istore (lv' := [(6, .int (q_i x310)), (5, .int (q_i 1)), (4, .int (q_i 0)), (3, .ref y188), (2, .ref y181), (0, .ref v0), (1, .ref p0)]) cx.1 cx.2.1 dX10_meetOrMiss_113 hl (by decide) rfl (fun ls hl => ?_)
                  refine lv_iload cx.1 cx.2.1 dX10_meetOrMiss_115 (lv_at hl 0 rfl) ?_
                  refine q_ald_n cx dX10_meetOrMiss_117 rfl (lv_at hl 4 rfl) ?_
                  obtain ⟨x312, ex312⟩ : ∃ zz, q_is (q_z f y181 2) zz := ⟨_, q_isr _⟩
                  obtain ⟨lx312, ux312⟩ := q_isb ex312 (q_fib hB.2.1 hy181 ky181 (by decide) rfl)
                  obtain ⟨x313, ex313, nx313⟩ : ∃ zz, q_is (q_z f y181 2) zz ∧ zz = x312 := ⟨_, ex312, rfl⟩
                  have sx313 : q_is x313 (s0 (1 + Int.toNat x178) 2) := tw_g hw0 t183 (by omega) (by omega) ex313
                  refine q_gX10_95 cx hB hy181 ky181 ex313 dX10_meetOrMiss_118 (fun lb314 ub314 => ?_)
                  refine q_iceq (tgt := 133) cx ⟨by omega, by omega⟩ ⟨by omega, by omega⟩ dX10_meetOrMiss_121 (by decide) (fun c315 => ?_) (fun c315 => ?_)
                  · refine q_ald_n cx dX10_meetOrMiss_133 rfl (lv_at hl 5 rfl) ?_
                    refine q_ald_n cx dX10_meetOrMiss_134 rfl (lv_at hl 6 rfl) ?_
                    refine q_cVv (As := [.ref p0]) (rest := []) cx hB (fun _ h => h) hN hv0 kv0 (by decide) rfl (f_miss0 l g hN hB.2.1 d0 s0 v0 hv0 kv0 p0 hp0 kp0 n0 hn0 kn0 l0 hl0 kl0 m0 hm0 km0 li (by omega) (by omega) hr0 hr1 hr2 hp0 hw0) q_cX10_268 q_dX10_miss (by decide) rfl rfl hl.1 rfl (Nat.le_of_ble_eq_true rfl) dX10_meetOrMiss_135 (fun H locs f316 h318 hF hB => ?_)
                    have g319 := h318
                    have z320 : q_is (q_z f316 p0 0) x177 := Eq.trans (hF.z hp0 (by rw [kp0]; rfl)) ex177
                    have z321 : q_is (q_z f316 p0 1) x184 := Eq.trans (hF.z hp0 (by rw [kp0]; rfl)) ex184
                    have z322 : q_is (q_z f316 y181 4) x191 := Eq.trans (hF.z hy181 (by rw [ky181]; rfl)) ex191
                    have z323 : q_is (q_z f316 y188 4) x195 := Eq.trans (hF.z hy188 (by rw [ky188]; rfl)) ex195
                    have z324 : q_is (q_z f316 v0 13) x199 := Eq.trans (hF.z hv0 (by rw [kv0]; rfl)) ex199
                    have z325 : q_is (q_z f316 y188 9) x309 := Eq.trans (hF.z hy188 (by rw [ky188]; rfl)) ex309
                    have z326 : q_is (q_z f316 y181 2) x312 := Eq.trans (hF.z hy181 (by rw [ky181]; rfl)) ex312
                    have z327 : q_ir (q_r f316 v0 0) n0 := Eq.trans (hF.r hv0 (by rw [kv0]; rfl)) hr0
                    have z328 : q_ir (q_r f316 v0 1) l0 := Eq.trans (hF.r hv0 (by rw [kv0]; rfl)) hr1
                    have z329 : q_ir (q_r f316 v0 2) m0 := Eq.trans (hF.r hv0 (by rw [kv0]; rfl)) hr2
                    refine q_vret cx hr hlk hB dX10_meetOrMiss_138 ?_
                    exact (tw_cg g319 (by have t0_ : x178 = s0 (11 + Int.toNat li) 0 := sx178; have t1_ : x185 = s0 (11 + Int.toNat li) 1 := sx185; have t2_ : x192 = s0 (1 + Int.toNat (s0 (11 + Int.toNat li) 0)) 4 := Eq.trans sx192 (by simp only [t0_]); have t3_ : x196 = s0 (1 + Int.toNat (s0 (11 + Int.toNat li) 1)) 4 := Eq.trans sx196 (by simp only [t1_]); have t4_ : x200 = s0 0 13 := sx200; have t5_ : x202 = s0 (11 + Int.toNat li) 0 := sx202; have t6_ : x295 = s0 0 13 := sx295; have t7_ : x297 = s0 (11 + Int.toNat li) 1 := sx297; have t8_ : x310 = s0 (1 + Int.toNat (s0 (11 + Int.toNat li) 1)) 9 := Eq.trans sx310 (by simp only [t1_]); have t9_ : x313 = s0 (1 + Int.toNat (s0 (11 + Int.toNat li) 0)) 2 := Eq.trans sx313 (by simp only [t0_]); have u0_ : tw_hz (s0 0 13) (s0 (11 + Int.toNat li) 0) = 0 := (by have e9 := t294; simp only [t4_, t5_] at e9; exact e9); have u1_ : tw_hz (s0 0 13) (s0 (11 + Int.toNat li) 1) = 1 := (by have e9 := t304; simp only [t6_, t7_] at e9; exact e9); (try simp only [t0_, t1_, t2_, t3_, t4_, t5_, t6_, t7_, t8_, t9_]); unfold tw_mm tw_mm2 tw_mm3; (repeat' split) <;> first | rfl | (exfalso; omega)))
                  · refine lv_iload cx.1 cx.2.1 dX10_meetOrMiss_124 (lv_at hl 0 rfl) ?_
                    refine q_ald_n cx dX10_meetOrMiss_126 rfl (lv_at hl 3 rfl) ?_
                    obtain ⟨x330, ex330⟩ : ∃ zz, q_is (q_z f y188 2) zz := ⟨_, q_isr _⟩
                    obtain ⟨lx330, ux330⟩ := q_isb ex330 (q_fib hB.2.1 hy188 ky188 (by decide) rfl)
                    obtain ⟨x331, ex331, nx331⟩ : ∃ zz, q_is (q_z f y188 2) zz ∧ zz = x330 := ⟨_, ex330, rfl⟩
                    have sx331 : q_is x331 (s0 (1 + Int.toNat x185) 2) := tw_g hw0 t190 (by omega) (by omega) ex331
                    refine q_gX10_95 cx hB hy188 ky188 ex331 dX10_meetOrMiss_127 (fun lb332 ub332 => ?_)
                    refine q_icne (tgt := 138) cx ⟨by omega, by omega⟩ ⟨by omega, by omega⟩ dX10_meetOrMiss_130 (by decide) (fun c333 => ?_) (fun c333 => ?_)
                    · refine q_vret cx hr hlk hB dX10_meetOrMiss_138 ?_
                      exact (tw_cg hw0 (by have t0_ : x178 = s0 (11 + Int.toNat li) 0 := sx178; have t1_ : x185 = s0 (11 + Int.toNat li) 1 := sx185; have t2_ : x192 = s0 (1 + Int.toNat (s0 (11 + Int.toNat li) 0)) 4 := Eq.trans sx192 (by simp only [t0_]); have t3_ : x196 = s0 (1 + Int.toNat (s0 (11 + Int.toNat li) 1)) 4 := Eq.trans sx196 (by simp only [t1_]); have t4_ : x200 = s0 0 13 := sx200; have t5_ : x202 = s0 (11 + Int.toNat li) 0 := sx202; have t6_ : x295 = s0 0 13 := sx295; have t7_ : x297 = s0 (11 + Int.toNat li) 1 := sx297; have t8_ : x310 = s0 (1 + Int.toNat (s0 (11 + Int.toNat li) 1)) 9 := Eq.trans sx310 (by simp only [t1_]); have t9_ : x313 = s0 (1 + Int.toNat (s0 (11 + Int.toNat li) 0)) 2 := Eq.trans sx313 (by simp only [t0_]); have t10_ : x331 = s0 (1 + Int.toNat (s0 (11 + Int.toNat li) 1)) 2 := Eq.trans sx331 (by simp only [t1_]); have u0_ : tw_hz (s0 0 13) (s0 (11 + Int.toNat li) 0) = 0 := (by have e9 := t294; simp only [t4_, t5_] at e9; exact e9); have u1_ : tw_hz (s0 0 13) (s0 (11 + Int.toNat li) 1) = 1 := (by have e9 := t304; simp only [t6_, t7_] at e9; exact e9); (try simp only [t0_, t1_, t2_, t3_, t4_, t5_, t6_, t7_, t8_, t9_, t10_]); unfold tw_mm tw_mm2 tw_mm3; (repeat' split) <;> first | rfl | (exfalso; omega)))
                    · refine q_ald_n cx dX10_meetOrMiss_133 rfl (lv_at hl 5 rfl) ?_
                      refine q_ald_n cx dX10_meetOrMiss_134 rfl (lv_at hl 6 rfl) ?_
                      refine q_cVv (As := [.ref p0]) (rest := []) cx hB (fun _ h => h) hN hv0 kv0 (by decide) rfl (f_miss0 l g hN hB.2.1 d0 s0 v0 hv0 kv0 p0 hp0 kp0 n0 hn0 kn0 l0 hl0 kl0 m0 hm0 km0 li (by omega) (by omega) hr0 hr1 hr2 hp0 hw0) q_cX10_268 q_dX10_miss (by decide) rfl rfl hl.1 rfl (Nat.le_of_ble_eq_true rfl) dX10_meetOrMiss_135 (fun H locs f334 h336 hF hB => ?_)
                      have g337 := h336
                      have z338 : q_is (q_z f334 p0 0) x177 := Eq.trans (hF.z hp0 (by rw [kp0]; rfl)) ex177
                      have z339 : q_is (q_z f334 p0 1) x184 := Eq.trans (hF.z hp0 (by rw [kp0]; rfl)) ex184
                      have z340 : q_is (q_z f334 y181 4) x191 := Eq.trans (hF.z hy181 (by rw [ky181]; rfl)) ex191
                      have z341 : q_is (q_z f334 y188 4) x195 := Eq.trans (hF.z hy188 (by rw [ky188]; rfl)) ex195
                      have z342 : q_is (q_z f334 v0 13) x199 := Eq.trans (hF.z hv0 (by rw [kv0]; rfl)) ex199
                      have z343 : q_is (q_z f334 y188 9) x309 := Eq.trans (hF.z hy188 (by rw [ky188]; rfl)) ex309
                      have z344 : q_is (q_z f334 y181 2) x312 := Eq.trans (hF.z hy181 (by rw [ky181]; rfl)) ex312
                      have z345 : q_is (q_z f334 y188 2) x330 := Eq.trans (hF.z hy188 (by rw [ky188]; rfl)) ex330
                      have z346 : q_ir (q_r f334 v0 0) n0 := Eq.trans (hF.r hv0 (by rw [kv0]; rfl)) hr0
                      have z347 : q_ir (q_r f334 v0 1) l0 := Eq.trans (hF.r hv0 (by rw [kv0]; rfl)) hr1
                      have z348 : q_ir (q_r f334 v0 2) m0 := Eq.trans (hF.r hv0 (by rw [kv0]; rfl)) hr2
                      refine q_vret cx hr hlk hB dX10_meetOrMiss_138 ?_
                      exact (tw_cg g337 (by have t0_ : x178 = s0 (11 + Int.toNat li) 0 := sx178; have t1_ : x185 = s0 (11 + Int.toNat li) 1 := sx185; have t2_ : x192 = s0 (1 + Int.toNat (s0 (11 + Int.toNat li) 0)) 4 := Eq.trans sx192 (by simp only [t0_]); have t3_ : x196 = s0 (1 + Int.toNat (s0 (11 + Int.toNat li) 1)) 4 := Eq.trans sx196 (by simp only [t1_]); have t4_ : x200 = s0 0 13 := sx200; have t5_ : x202 = s0 (11 + Int.toNat li) 0 := sx202; have t6_ : x295 = s0 0 13 := sx295; have t7_ : x297 = s0 (11 + Int.toNat li) 1 := sx297; have t8_ : x310 = s0 (1 + Int.toNat (s0 (11 + Int.toNat li) 1)) 9 := Eq.trans sx310 (by simp only [t1_]); have t9_ : x313 = s0 (1 + Int.toNat (s0 (11 + Int.toNat li) 0)) 2 := Eq.trans sx313 (by simp only [t0_]); have t10_ : x331 = s0 (1 + Int.toNat (s0 (11 + Int.toNat li) 1)) 2 := Eq.trans sx331 (by simp only [t1_]); have u0_ : tw_hz (s0 0 13) (s0 (11 + Int.toNat li) 0) = 0 := (by have e9 := t294; simp only [t4_, t5_] at e9; exact e9); have u1_ : tw_hz (s0 0 13) (s0 (11 + Int.toNat li) 1) = 1 := (by have e9 := t304; simp only [t6_, t7_] at e9; exact e9); (try simp only [t0_, t1_, t2_, t3_, t4_, t5_, t6_, t7_, t8_, t9_, t10_]); unfold tw_mm tw_mm2 tw_mm3; (repeat' split) <;> first | rfl | (exfalso; omega)))
                · exact absurd c308 (by omega)
          · exact absurd c305 (by omega)
        · obtain ⟨rfl, qy300, t349⟩ := h303
          subst qy300
          refine lv_istore (lv' := [(5, .int (q_i 0)), (4, .int (q_i 0)), (3, .ref y188), (2, .ref y181), (0, .ref v0), (1, .ref p0)]) cx.1 cx.2.1 dX10_meetOrMiss_57 hl (by decide) rfl (fun ls hl => ?_)
          refine lv_iload cx.1 cx.2.1 dX10_meetOrMiss_59 (lv_at hl 1 rfl) ?_
          refine q_ifeq (tgt := 87) cx ⟨by decide, by decide⟩ dX10_meetOrMiss_61 (by decide) (fun c350 => ?_) (fun c350 => ?_)
          · refine lv_iload cx.1 cx.2.1 dX10_meetOrMiss_87 (lv_at hl 1 rfl) ?_
            refine q_ifne (tgt := 97) cx ⟨by decide, by decide⟩ dX10_meetOrMiss_89 (by decide) (fun c351 => ?_) (fun c351 => ?_)
            · exact absurd c351 (by omega)
            · refine lv_iload cx.1 cx.2.1 dX10_meetOrMiss_92 (lv_at hl 0 rfl) ?_
              refine q_ifeq (tgt := 138) cx ⟨by decide, by decide⟩ dX10_meetOrMiss_94 (by decide) (fun c352 => ?_) (fun c352 => ?_)
              · refine q_vret cx hr hlk hB dX10_meetOrMiss_138 ?_
                exact (tw_cg hw0 (by have t0_ : x178 = s0 (11 + Int.toNat li) 0 := sx178; have t1_ : x185 = s0 (11 + Int.toNat li) 1 := sx185; have t2_ : x192 = s0 (1 + Int.toNat (s0 (11 + Int.toNat li) 0)) 4 := Eq.trans sx192 (by simp only [t0_]); have t3_ : x196 = s0 (1 + Int.toNat (s0 (11 + Int.toNat li) 1)) 4 := Eq.trans sx196 (by simp only [t1_]); have t4_ : x200 = s0 0 13 := sx200; have t5_ : x202 = s0 (11 + Int.toNat li) 0 := sx202; have t6_ : x295 = s0 0 13 := sx295; have t7_ : x297 = s0 (11 + Int.toNat li) 1 := sx297; have u0_ : tw_hz (s0 0 13) (s0 (11 + Int.toNat li) 0) = 0 := (by have e9 := t294; simp only [t4_, t5_] at e9; exact e9); have u1_ : tw_hz (s0 0 13) (s0 (11 + Int.toNat li) 1) = 0 := (by have e9 := t349; simp only [t6_, t7_] at e9; exact e9); (try simp only [t0_, t1_, t2_, t3_, t4_, t5_, t6_, t7_]); unfold tw_mm tw_mm2 tw_mm3; (repeat' split) <;> first | rfl | (exfalso; omega)))
              · exact absurd c352 (by omega)
          · exact absurd c350 (by omega)
    · refine q_vret cx hr hlk hB dX10_meetOrMiss_32 ?_
      exact (tw_cg hw0 (by have t0_ : x178 = s0 (11 + Int.toNat li) 0 := sx178; have t1_ : x185 = s0 (11 + Int.toNat li) 1 := sx185; have t2_ : x192 = s0 (1 + Int.toNat (s0 (11 + Int.toNat li) 0)) 4 := Eq.trans sx192 (by simp only [t0_]); have t3_ : x196 = s0 (1 + Int.toNat (s0 (11 + Int.toNat li) 1)) 4 := Eq.trans sx196 (by simp only [t1_]); (try simp only [t0_, t1_, t2_, t3_]); unfold tw_mm tw_mm2 tw_mm3; (repeat' split) <;> first | rfl | (exfalso; omega)))
set_option maxHeartbeats 4000000 in
set_option maxRecDepth 100000 in
theorem f_moveTo0 (l : Launch) (g : q_G) {K : Nat → Nat} {L : List Nat} (hN : L.Nodup) {f : Nat → va_E} (hT : q_Ty g K L f) (d0 : Nat → Nat) (s0 : tw_S) (v0 : Nat) (hv0 : v0 ∈ L) (kv0 : K v0 = 10) (p0 : Nat) (hp0 : p0 ∈ L) (kp0 : K p0 = 4) (p1 : Int) (lp1 : 0 ≤ p1) (up1 : p1 ≤ 9) (n0 : Nat) (hn0 : n0 ∈ L) (kn0 : K n0 = 110) (l0 : Nat) (hl0 : l0 ∈ L) (kl0 : K l0 = 120) (m0 : Nat) (hm0 : m0 ∈ L) (km0 : K m0 = 130) (li : Int) (lli : 0 ≤ li) (uli : li ≤ 60) (hr0 : q_ir (q_r f v0 0) n0) (hr1 : q_ir (q_r f v0 1) l0) (hr2 : q_ir (q_r f v0 2) m0) (hp0 : p0 = d0 (27 + Int.toNat li)) (hw0 : tw_vw K L 10 5 3 4 f v0 n0 l0 m0 d0 s0) : q_Ct l g K L yX10_moveTo cX10_moveTo 3 none 0 0 [.ref v0, .ref p0, .int (q_i p1)] f [(4, 2, 3), (4, 5, 6)] (q_Pv (fun (f1 : Nat → va_E) => (tw_vw K L 10 5 3 4 f1 v0 n0 l0 m0 d0 (tw_mv s0 li p1)))) := by
  refine q_ofb (by decide +kernel) hN hT (Nat.le_of_ble_eq_true rfl) ?_
  intro p e s m below meth c ls cx hr hlk hB hl
  have hl : lv_has ls 3 [(0, .ref v0), (1, .ref p0), (2, .int (q_i p1))] := hl
  obtain ⟨H, hH⟩ : ∃ H : Heap, H = s.heap := ⟨_, rfl⟩
  obtain ⟨locs, hlocs⟩ : ∃ z : List Loc, z = [] := ⟨_, rfl⟩
  rw [← hH, ← hlocs] at hB
  rw [← hH, ← hlocs]
  refine q_ald_n cx dX10_moveTo_0 rfl (lv_at hl 1 rfl) ?_
  refine q_ild_n cx dX10_moveTo_1 rfl (lv_at hl 2 rfl) ?_
  refine q_pX10_137 cx hB hp0 kp0 ⟨by omega, by omega⟩ (by omega) (by omega) rfl dX10_moveTo_2 (fun H locs f45 ef45 z46 hB => ?_)
  have z47 : q_ir (q_r f45 v0 0) n0 := by rw [ef45, q_setr (Or.inr (by decide))]; exact hr0
  have z48 : q_ir (q_r f45 v0 1) l0 := by rw [ef45, q_setr (Or.inr (by decide))]; exact hr1
  have z49 : q_ir (q_r f45 v0 2) m0 := by rw [ef45, q_setr (Or.inl (fun q => by rw [q, kp0] at kv0; exact absurd kv0 (by decide)))]; exact hr2
  have g50 : tw_vw K L 10 5 3 4 f45 v0 n0 l0 m0 d0 (tw_u s0 (27 + Int.toNat li) 2 p1) := tw_vw_s hw0 hp0 (by omega) (by omega) ef45 z46 (fun i9 => by rw [ef45, q_setr (Or.inl (fun q => by rw [q, kp0] at kn0; exact absurd kn0 (by decide)))]) (fun i9 => by rw [ef45, q_setr (Or.inl (fun q => by rw [q, kp0] at kl0; exact absurd kl0 (by decide)))]) (fun i9 => by rw [ef45, q_setr (Or.inl (fun q => by rw [q, kp0] at km0; exact absurd km0 (by decide)))])
  refine q_ald_n cx dX10_moveTo_5 rfl (lv_at hl 1 rfl) ?_
  refine lv_dup cx.1 cx.2.1 dX10_moveTo_6 rfl ?_
  obtain ⟨x51, ex51⟩ : ∃ zz, q_is (q_z f45 p0 6) zz := ⟨_, q_isr _⟩
  obtain ⟨lx51, ux51⟩ := q_isb ex51 (q_fib hB.2.1 hp0 kp0 (by decide) rfl)
  obtain ⟨x52, ex52, nx52⟩ : ∃ zz, q_is (q_z f45 p0 6) zz ∧ zz = x51 := ⟨_, ex51, rfl⟩
  have sx52 : q_is x52 ((tw_u s0 (27 + Int.toNat li) 2 p1) (27 + Int.toNat li) 6) := tw_g g50 hp0 (by omega) (by omega) ex52
  refine q_gX10_149 cx hB hp0 kp0 ex52 dX10_moveTo_7 (fun lb53 ub53 => ?_)
  refine q_iconst cx dX10_moveTo_10 ?_
  refine q_iadd cx dX10_moveTo_11 ?_
  refine q_any (fun y54 ry54 ey54 => ?_)
  refine q_pX10_149 cx hB hp0 kp0 ⟨by omega, by omega⟩ (by omega) (by omega) rfl dX10_moveTo_12 (fun H locs f55 ef55 z56 hB => ?_)
  have z57 : q_is (q_z f55 p0 2) p1 := by rw [ef55, q_setz (Or.inr (by decide))]; exact z46
  have z58 : q_ir (q_r f55 v0 0) n0 := by rw [ef55, q_setr (Or.inr (by decide))]; exact z47
  have z59 : q_ir (q_r f55 v0 1) l0 := by rw [ef55, q_setr (Or.inr (by decide))]; exact z48
  have z60 : q_ir (q_r f55 v0 2) m0 := by rw [ef55, q_setr (Or.inr (by decide))]; exact z49
  have g61 : tw_vw K L 10 5 3 4 f55 v0 n0 l0 m0 d0 (tw_u (tw_u s0 (27 + Int.toNat li) 2 p1) (27 + Int.toNat li) 6 y54) := tw_vw_s g50 hp0 (by omega) (by omega) ef55 z56 (fun i9 => by rw [ef55, q_setr (Or.inl (fun q => by rw [q, kp0] at kn0; exact absurd kn0 (by decide)))]) (fun i9 => by rw [ef55, q_setr (Or.inl (fun q => by rw [q, kp0] at kl0; exact absurd kl0 (by decide)))]) (fun i9 => by rw [ef55, q_setr (Or.inl (fun q => by rw [q, kp0] at km0; exact absurd km0 (by decide)))])
  refine q_ild_n cx dX10_moveTo_15 rfl (lv_at hl 2 rfl) ?_
  refine q_ald_n cx dX10_moveTo_16 rfl (lv_at hl 1 rfl) ?_
  obtain ⟨x62, ex62⟩ : ∃ zz, q_is (q_z f55 p0 1) zz := ⟨_, q_isr _⟩
  obtain ⟨lx62, ux62⟩ := q_isb ex62 (q_fib hB.2.1 hp0 kp0 (by decide) rfl)
  obtain ⟨x63, ex63, nx63⟩ : ∃ zz, q_is (q_z f55 p0 1) zz ∧ zz = x62 := ⟨_, ex62, rfl⟩
  have sx63 : q_is x63 ((tw_u (tw_u s0 (27 + Int.toNat li) 2 p1) (27 + Int.toNat li) 6 y54) (27 + Int.toNat li) 1) := tw_g g61 hp0 (by omega) (by omega) ex63
  refine q_gX10_134 cx hB hp0 kp0 ex63 dX10_moveTo_17 (fun lb64 ub64 => ?_)
  refine q_icne (tgt := 36) cx ⟨by omega, by omega⟩ ⟨by omega, by omega⟩ dX10_moveTo_20 (by decide) (fun c65 => ?_) (fun c65 => ?_)
  · refine q_vret cx hr hlk hB dX10_moveTo_36 ?_
    exact (tw_cg g61 (by have t0_ : x52 = (tw_u s0 (27 + Int.toNat li) 2 p1) (27 + Int.toNat li) 6 := sx52; have t1_ : y54 = tw_w (((tw_u s0 (27 + Int.toNat li) 2 p1) (27 + Int.toNat li) 6) + 1) := Eq.trans (tw_w_of ry54 ey54) (by simp only [t0_]); have t2_ : x63 = (tw_u (tw_u s0 (27 + Int.toNat li) 2 p1) (27 + Int.toNat li) 6 (tw_w (((tw_u s0 (27 + Int.toNat li) 2 p1) (27 + Int.toNat li) 6) + 1))) (27 + Int.toNat li) 1 := Eq.trans sx63 (by simp only [t1_]); (try simp only [t0_, t1_, t2_]); unfold tw_mv; (repeat' split) <;> first | rfl | (exfalso; omega)))
  · refine q_ald_n cx dX10_moveTo_23 rfl (lv_at hl 1 rfl) ?_
    refine q_iconst cx dX10_moveTo_24 ?_
    refine q_pX10_140 cx hB hp0 kp0 ⟨by decide, by decide⟩ (by decide) (by decide) rfl dX10_moveTo_25 (fun H locs f66 ef66 z67 hB => ?_)
    have z68 : q_is (q_z f66 p0 2) p1 := by rw [ef66, q_setz (Or.inr (by decide))]; exact z57
    have z69 : q_is (q_z f66 p0 6) y54 := by rw [ef66, q_setz (Or.inr (by decide))]; exact z56
    have z70 : q_is (q_z f66 p0 1) x62 := by rw [ef66, q_setz (Or.inr (by decide))]; exact ex62
    have z71 : q_ir (q_r f66 v0 0) n0 := by rw [ef66, q_setr (Or.inr (by decide))]; exact z58
    have z72 : q_ir (q_r f66 v0 1) l0 := by rw [ef66, q_setr (Or.inr (by decide))]; exact z59
    have z73 : q_ir (q_r f66 v0 2) m0 := by rw [ef66, q_setr (Or.inr (by decide))]; exact z60
    have g74 : tw_vw K L 10 5 3 4 f66 v0 n0 l0 m0 d0 (tw_u (tw_u (tw_u s0 (27 + Int.toNat li) 2 p1) (27 + Int.toNat li) 6 y54) (27 + Int.toNat li) 3 1) := tw_vw_s g61 hp0 (by omega) (by omega) ef66 z67 (fun i9 => by rw [ef66, q_setr (Or.inl (fun q => by rw [q, kp0] at kn0; exact absurd kn0 (by decide)))]) (fun i9 => by rw [ef66, q_setr (Or.inl (fun q => by rw [q, kp0] at kl0; exact absurd kl0 (by decide)))]) (fun i9 => by rw [ef66, q_setr (Or.inl (fun q => by rw [q, kp0] at km0; exact absurd km0 (by decide)))])
    refine q_ald_n cx dX10_moveTo_28 rfl (lv_at hl 1 rfl) ?_
    refine q_ald_n cx dX10_moveTo_29 rfl (lv_at hl 0 rfl) ?_
    obtain ⟨x75, ex75⟩ : ∃ zz, q_is (q_z f66 v0 11) zz := ⟨_, q_isr _⟩
    obtain ⟨lx75, ux75⟩ := q_isb ex75 (q_fib hB.2.1 hv0 kv0 (by decide) rfl)
    obtain ⟨x76, ex76, nx76⟩ : ∃ zz, q_is (q_z f66 v0 11) zz ∧ zz = x75 := ⟨_, ex75, rfl⟩
    have sx76 : q_is x76 ((tw_u (tw_u (tw_u s0 (27 + Int.toNat li) 2 p1) (27 + Int.toNat li) 6 y54) (27 + Int.toNat li) 3 1) 0 11) := tw_g g74 (tw_v0 hw0) (by omega) (by omega) ex76
    refine q_gX10_60 cx hB hv0 kv0 ex76 dX10_moveTo_30 (fun lb77 ub77 => ?_)
    refine q_pX10_146 cx hB hp0 kp0 ⟨by omega, by omega⟩ (by omega) (by omega) rfl dX10_moveTo_33 (fun H locs f78 ef78 z79 hB => ?_)
    have z80 : q_is (q_z f78 p0 2) p1 := by rw [ef78, q_setz (Or.inr (by decide))]; exact z68
    have z81 : q_is (q_z f78 p0 6) y54 := by rw [ef78, q_setz (Or.inr (by decide))]; exact z69
    have z82 : q_is (q_z f78 p0 1) x62 := by rw [ef78, q_setz (Or.inr (by decide))]; exact z70
    have z83 : q_is (q_z f78 p0 3) 1 := by rw [ef78, q_setz (Or.inr (by decide))]; exact z67
    have z84 : q_is (q_z f78 v0 11) x75 := by rw [ef78, q_setz (Or.inr (by decide))]; exact ex75
    have z85 : q_ir (q_r f78 v0 0) n0 := by rw [ef78, q_setr (Or.inr (by decide))]; exact z71
    have z86 : q_ir (q_r f78 v0 1) l0 := by rw [ef78, q_setr (Or.inr (by decide))]; exact z72
    have z87 : q_ir (q_r f78 v0 2) m0 := by rw [ef78, q_setr (Or.inr (by decide))]; exact z73
    have g88 : tw_vw K L 10 5 3 4 f78 v0 n0 l0 m0 d0 (tw_u (tw_u (tw_u (tw_u s0 (27 + Int.toNat li) 2 p1) (27 + Int.toNat li) 6 y54) (27 + Int.toNat li) 3 1) (27 + Int.toNat li) 5 x76) := tw_vw_s g74 hp0 (by omega) (by omega) ef78 z79 (fun i9 => by rw [ef78, q_setr (Or.inl (fun q => by rw [q, kp0] at kn0; exact absurd kn0 (by decide)))]) (fun i9 => by rw [ef78, q_setr (Or.inl (fun q => by rw [q, kp0] at kl0; exact absurd kl0 (by decide)))]) (fun i9 => by rw [ef78, q_setr (Or.inl (fun q => by rw [q, kp0] at km0; exact absurd km0 (by decide)))])
    refine q_vret cx hr hlk hB dX10_moveTo_36 ?_
    exact (tw_cg g88 (by have t0_ : x52 = (tw_u s0 (27 + Int.toNat li) 2 p1) (27 + Int.toNat li) 6 := sx52; have t1_ : y54 = tw_w (((tw_u s0 (27 + Int.toNat li) 2 p1) (27 + Int.toNat li) 6) + 1) := Eq.trans (tw_w_of ry54 ey54) (by simp only [t0_]); have t2_ : x63 = (tw_u (tw_u s0 (27 + Int.toNat li) 2 p1) (27 + Int.toNat li) 6 (tw_w (((tw_u s0 (27 + Int.toNat li) 2 p1) (27 + Int.toNat li) 6) + 1))) (27 + Int.toNat li) 1 := Eq.trans sx63 (by simp only [t1_]); have t3_ : x76 = (tw_u (tw_u (tw_u s0 (27 + Int.toNat li) 2 p1) (27 + Int.toNat li) 6 (tw_w (((tw_u s0 (27 + Int.toNat li) 2 p1) (27 + Int.toNat li) 6) + 1))) (27 + Int.toNat li) 3 1) 0 11 := Eq.trans sx76 (by simp only [t1_]); (try simp only [t0_, t1_, t2_, t3_]); unfold tw_mv; (repeat' split) <;> first | rfl | (exfalso; omega)))
