set_option maxHeartbeats 4000000 in
set_option maxRecDepth 100000 in
theorem p_feed (l : Launch) (g : q_G) {K : Nat → Nat} {L : List Nat} (hN : L.Nodup) {f : Nat → va_E} (hT : q_Ty g K L f) (mo : Nat) (hmo : mo ∈ L) (kmo : K mo = 12) (a0 : Int) (la0 : (-2147483648) ≤ a0) (ua0 : a0 ≤ 2147483647) (b0 : Int) (lb0 : (-2147483648) ≤ b0) (ub0 : b0 ≤ 2147483647) (c0 : Int) (lc0 : (-2147483648) ≤ c0) (uc0 : c0 ≤ 2147483647) (d0 : Int) (ld0 : (-2147483648) ≤ d0) (ud0 : d0 ≤ 2147483647) (e0 : Int) (le0 : (-2147483648) ≤ e0) (ue0 : e0 ≤ 2147483647) (bu : Nat) (hbu : bu ∈ L) (kbu : K bu = 150) (sr : Nat) (hsr : sr ∈ L) (ksr : K sr = 151) (sd : Nat) (hsd : sd ∈ L) (ksd : K sd = 152) (as : Nat) (has : as ∈ L) (kas : K as = 153) (aw : Nat) (haw : aw ∈ L) (kaw : K aw = 154) (pa : Nat) (hpa : pa ∈ L) (kpa : K pa = 155) (nm : Nat) (hnm : nm ∈ L) (knm : K nm = 156) (snm : Nat) (hsnm : snm ∈ L) (ksnm : K snm = 157) (anm : Nat) (hanm : anm ∈ L) (kanm : K anm = 158) (hf0 : q_z f mo 2 = 0) (hf1 : q_z f mo 8 = 0) (hf2 : q_z f mo 9 = (-1)) (hf3 : q_z f mo 10 = 0) (hf4 : q_z f mo 11 = (-1)) (hf5 : q_z f mo 21 = 0) (hf6 : q_z f mo 22 = 0) (hf7 : q_z f mo 40 = 0) (hf8 : q_z f sr 0 = 0) (hf9 : q_z f sr 1 = 0) (hf10 : q_z f sr 2 = 12) (hf11 : q_z f sr 3 = 0) (hf12 : q_z f sr 4 = 0) (hf13 : q_z f sr 5 = 1) (hf14 : q_z f sr 6 = 2) (hf15 : q_z f sr 7 = 5) (hf16 : q_z f sr 8 = 3) (hf17 : q_z f sr 9 = 0) (hr0 : q_r f mo 1 = bu) (hr1 : q_r f mo 13 = sr) (hr2 : q_r f mo 14 = sd) (hr3 : q_r f mo 15 = as) (hr4 : q_r f mo 16 = aw) (hr5 : q_r f mo 17 = pa) (hr6 : q_r f mo 18 = nm) (hr7 : q_r f mo 19 = snm) (hr8 : q_r f mo 20 = anm) : q_Ct l g K L yX12_feed cX12_feed 6 (some .int) 2 41 [.ref mo, .int (q_i a0), .int (q_i b0), .int (q_i c0), .int (q_i d0), .int (q_i e0)] f [(12, 0, 40), (150, 0, 599), (151, 0, 657), (152, 0, 657), (153, 0, 657), (154, 0, 657), (155, 0, 3947), (156, 0, 9), (157, 0, 9), (158, 0, 9)] (q_Pi (fun (z : Int) (f1 : Nat → va_E) => z = 20 ∧ q_z f1 mo 0 = 0)) := by
  refine q_ofb (by decide +kernel) hN hT (Nat.le_of_ble_eq_true rfl) ?_
  intro p e s m below meth c ls cx hr hlk hB hl
  have hl : lv_has ls 6 [(0, .ref mo), (1, .int (q_i a0)), (2, .int (q_i b0)), (3, .int (q_i c0)), (4, .int (q_i d0)), (5, .int (q_i e0))] := hl
  obtain ⟨H, hH⟩ : ∃ H : Heap, H = s.heap := ⟨_, rfl⟩
  obtain ⟨locs, hlocs⟩ : ∃ z : List Loc, z = [] := ⟨_, rfl⟩
  rw [← hH, ← hlocs] at hB
  rw [← hH, ← hlocs]
  refine q_ald_n cx dX12_feed_0 rfl (lv_at hl 0 rfl) ?_
  refine q_ald_n cx dX12_feed_1 rfl (lv_at hl 0 rfl) ?_
  refine q_gX12_82 cx hB hmo kmo hf0 dX12_feed_2 (fun lb191 ub191 => ?_)
  refine q_bipush cx dX12_feed_5 rfl ?_
  refine q_iadd cx dX12_feed_7 ?_
  refine q_sipush cx dX12_feed_8 rfl ?_
  refine q_icgt (tgt := 18) cx ⟨by decide, by decide⟩ ⟨by decide, by decide⟩ dX12_feed_11 (by decide) (fun c192 => ?_) (fun c192 => ?_)
  · exact absurd c192 (by omega)
  · refine q_iconst cx dX12_feed_14 ?_
    refine lv_goto (tgt := 19) cx.1 cx.2.1 dX12_feed_15 (by decide) ?_
    refine q_cVi (As := [.int (q_i 1)]) (rest := []) cx hB (fun _ h => h) hN hmo kmo (by decide) rfl (r_goes1 l g hN hB.2.1 mo hmo kmo 1 (by decide) (by decide)) q_cX12_85 q_dX12_goes (by decide) rfl rfl hl.1 rfl (Nat.le_of_ble_eq_true rfl) dX12_feed_19 (fun y194 H locs f193 ry194 h195 hF hB => ?_)
    obtain ⟨qy194, z196⟩ := h195
    have z197 : q_z f193 mo 2 = 0 := (hF.z hmo (by rw [kmo]; rfl)).trans hf0
    have z198 : q_z f193 mo 8 = 0 := (hF.z hmo (by rw [kmo]; rfl)).trans hf1
    have z199 : q_z f193 mo 9 = (-1) := (hF.z hmo (by rw [kmo]; rfl)).trans hf2
    have z200 : q_z f193 mo 10 = 0 := (hF.z hmo (by rw [kmo]; rfl)).trans hf3
    have z201 : q_z f193 mo 11 = (-1) := (hF.z hmo (by rw [kmo]; rfl)).trans hf4
    have z202 : q_z f193 mo 21 = 0 := (hF.z hmo (by rw [kmo]; rfl)).trans hf5
    have z203 : q_z f193 mo 22 = 0 := (hF.z hmo (by rw [kmo]; rfl)).trans hf6
    have z204 : q_z f193 mo 40 = 0 := (hF.z hmo (by rw [kmo]; rfl)).trans hf7
    have z205 : q_z f193 sr 0 = 0 := (hF.z hsr (by rw [ksr]; rfl)).trans hf8
    have z206 : q_z f193 sr 1 = 0 := (hF.z hsr (by rw [ksr]; rfl)).trans hf9
    have z207 : q_z f193 sr 2 = 12 := (hF.z hsr (by rw [ksr]; rfl)).trans hf10
    have z208 : q_z f193 sr 3 = 0 := (hF.z hsr (by rw [ksr]; rfl)).trans hf11
    have z209 : q_z f193 sr 4 = 0 := (hF.z hsr (by rw [ksr]; rfl)).trans hf12
    have z210 : q_z f193 sr 5 = 1 := (hF.z hsr (by rw [ksr]; rfl)).trans hf13
    have z211 : q_z f193 sr 6 = 2 := (hF.z hsr (by rw [ksr]; rfl)).trans hf14
    have z212 : q_z f193 sr 7 = 5 := (hF.z hsr (by rw [ksr]; rfl)).trans hf15
    have z213 : q_z f193 sr 8 = 3 := (hF.z hsr (by rw [ksr]; rfl)).trans hf16
    have z214 : q_z f193 sr 9 = 0 := (hF.z hsr (by rw [ksr]; rfl)).trans hf17
    have z215 : q_r f193 mo 1 = bu := (hF.r hmo (by rw [kmo]; rfl)).trans hr0
    have z216 : q_r f193 mo 13 = sr := (hF.r hmo (by rw [kmo]; rfl)).trans hr1
    have z217 : q_r f193 mo 14 = sd := (hF.r hmo (by rw [kmo]; rfl)).trans hr2
    have z218 : q_r f193 mo 15 = as := (hF.r hmo (by rw [kmo]; rfl)).trans hr3
    have z219 : q_r f193 mo 16 = aw := (hF.r hmo (by rw [kmo]; rfl)).trans hr4
    have z220 : q_r f193 mo 17 = pa := (hF.r hmo (by rw [kmo]; rfl)).trans hr5
    have z221 : q_r f193 mo 18 = nm := (hF.r hmo (by rw [kmo]; rfl)).trans hr6
    have z222 : q_r f193 mo 19 = snm := (hF.r hmo (by rw [kmo]; rfl)).trans hr7
    have z223 : q_r f193 mo 20 = anm := (hF.r hmo (by rw [kmo]; rfl)).trans hr8
    subst qy194
    refine q_ifne (tgt := 27) cx ⟨by decide, by decide⟩ dX12_feed_22 (by decide) (fun c224 => ?_) (fun c224 => ?_)
    · refine q_ald_n cx dX12_feed_27 rfl (lv_at hl 0 rfl) ?_
      refine q_ild_n cx dX12_feed_28 rfl (lv_at hl 1 rfl) ?_
      refine q_cVv (As := [.int (q_i a0)]) (rest := []) cx hB (fun _ h => h) hN hmo kmo (by decide) rfl (r_four l g hN hB.2.1 mo hmo kmo a0 (by omega) (by omega) bu hbu kbu 0 (by decide) (by decide) z197 z215) q_cX12_89 q_dX12_four (by decide) rfl rfl hl.1 rfl (Nat.le_of_ble_eq_true rfl) dX12_feed_29 (fun H locs f225 h227 hF hB => ?_)
      have z228 := h227
      have z229 : q_z f225 mo 8 = 0 := (hF.z hmo (by rw [kmo]; rfl)).trans z198
      have z230 : q_z f225 mo 9 = (-1) := (hF.z hmo (by rw [kmo]; rfl)).trans z199
      have z231 : q_z f225 mo 10 = 0 := (hF.z hmo (by rw [kmo]; rfl)).trans z200
      have z232 : q_z f225 mo 11 = (-1) := (hF.z hmo (by rw [kmo]; rfl)).trans z201
      have z233 : q_z f225 mo 21 = 0 := (hF.z hmo (by rw [kmo]; rfl)).trans z202
      have z234 : q_z f225 mo 22 = 0 := (hF.z hmo (by rw [kmo]; rfl)).trans z203
      have z235 : q_z f225 mo 40 = 0 := (hF.z hmo (by rw [kmo]; rfl)).trans z204
      have z236 : q_z f225 sr 0 = 0 := (hF.z hsr (by rw [ksr]; rfl)).trans z205
      have z237 : q_z f225 sr 1 = 0 := (hF.z hsr (by rw [ksr]; rfl)).trans z206
      have z238 : q_z f225 sr 2 = 12 := (hF.z hsr (by rw [ksr]; rfl)).trans z207
      have z239 : q_z f225 sr 3 = 0 := (hF.z hsr (by rw [ksr]; rfl)).trans z208
      have z240 : q_z f225 sr 4 = 0 := (hF.z hsr (by rw [ksr]; rfl)).trans z209
      have z241 : q_z f225 sr 5 = 1 := (hF.z hsr (by rw [ksr]; rfl)).trans z210
      have z242 : q_z f225 sr 6 = 2 := (hF.z hsr (by rw [ksr]; rfl)).trans z211
      have z243 : q_z f225 sr 7 = 5 := (hF.z hsr (by rw [ksr]; rfl)).trans z212
      have z244 : q_z f225 sr 8 = 3 := (hF.z hsr (by rw [ksr]; rfl)).trans z213
      have z245 : q_z f225 sr 9 = 0 := (hF.z hsr (by rw [ksr]; rfl)).trans z214
      have z246 : q_z f225 mo 0 = 0 := (hF.z hmo (by rw [kmo]; rfl)).trans z196
      have z247 : q_r f225 mo 1 = bu := (hF.r hmo (by rw [kmo]; rfl)).trans z215
      have z248 : q_r f225 mo 13 = sr := (hF.r hmo (by rw [kmo]; rfl)).trans z216
      have z249 : q_r f225 mo 14 = sd := (hF.r hmo (by rw [kmo]; rfl)).trans z217
      have z250 : q_r f225 mo 15 = as := (hF.r hmo (by rw [kmo]; rfl)).trans z218
      have z251 : q_r f225 mo 16 = aw := (hF.r hmo (by rw [kmo]; rfl)).trans z219
      have z252 : q_r f225 mo 17 = pa := (hF.r hmo (by rw [kmo]; rfl)).trans z220
      have z253 : q_r f225 mo 18 = nm := (hF.r hmo (by rw [kmo]; rfl)).trans z221
      have z254 : q_r f225 mo 19 = snm := (hF.r hmo (by rw [kmo]; rfl)).trans z222
      have z255 : q_r f225 mo 20 = anm := (hF.r hmo (by rw [kmo]; rfl)).trans z223
      refine q_ald_n cx dX12_feed_32 rfl (lv_at hl 0 rfl) ?_
      refine q_ild_n cx dX12_feed_33 rfl (lv_at hl 2 rfl) ?_
      refine q_cVv (As := [.int (q_i b0)]) (rest := []) cx hB (fun _ h => h) hN hmo kmo (by decide) rfl (r_four l g hN hB.2.1 mo hmo kmo b0 (by omega) (by omega) bu hbu kbu (0 + 4) (by decide) (by decide) z228 z247) q_cX12_89 q_dX12_four (by decide) rfl rfl hl.1 rfl (Nat.le_of_ble_eq_true rfl) dX12_feed_34 (fun H locs f256 h258 hF hB => ?_)
      have z259 := h258
      have z260 : q_z f256 mo 8 = 0 := (hF.z hmo (by rw [kmo]; rfl)).trans z229
      have z261 : q_z f256 mo 9 = (-1) := (hF.z hmo (by rw [kmo]; rfl)).trans z230
      have z262 : q_z f256 mo 10 = 0 := (hF.z hmo (by rw [kmo]; rfl)).trans z231
      have z263 : q_z f256 mo 11 = (-1) := (hF.z hmo (by rw [kmo]; rfl)).trans z232
      have z264 : q_z f256 mo 21 = 0 := (hF.z hmo (by rw [kmo]; rfl)).trans z233
      have z265 : q_z f256 mo 22 = 0 := (hF.z hmo (by rw [kmo]; rfl)).trans z234
      have z266 : q_z f256 mo 40 = 0 := (hF.z hmo (by rw [kmo]; rfl)).trans z235
      have z267 : q_z f256 sr 0 = 0 := (hF.z hsr (by rw [ksr]; rfl)).trans z236
      have z268 : q_z f256 sr 1 = 0 := (hF.z hsr (by rw [ksr]; rfl)).trans z237
      have z269 : q_z f256 sr 2 = 12 := (hF.z hsr (by rw [ksr]; rfl)).trans z238
      have z270 : q_z f256 sr 3 = 0 := (hF.z hsr (by rw [ksr]; rfl)).trans z239
      have z271 : q_z f256 sr 4 = 0 := (hF.z hsr (by rw [ksr]; rfl)).trans z240
      have z272 : q_z f256 sr 5 = 1 := (hF.z hsr (by rw [ksr]; rfl)).trans z241
      have z273 : q_z f256 sr 6 = 2 := (hF.z hsr (by rw [ksr]; rfl)).trans z242
      have z274 : q_z f256 sr 7 = 5 := (hF.z hsr (by rw [ksr]; rfl)).trans z243
      have z275 : q_z f256 sr 8 = 3 := (hF.z hsr (by rw [ksr]; rfl)).trans z244
      have z276 : q_z f256 sr 9 = 0 := (hF.z hsr (by rw [ksr]; rfl)).trans z245
      have z277 : q_z f256 mo 0 = 0 := (hF.z hmo (by rw [kmo]; rfl)).trans z246
      have z278 : q_r f256 mo 1 = bu := (hF.r hmo (by rw [kmo]; rfl)).trans z247
      have z279 : q_r f256 mo 13 = sr := (hF.r hmo (by rw [kmo]; rfl)).trans z248
      have z280 : q_r f256 mo 14 = sd := (hF.r hmo (by rw [kmo]; rfl)).trans z249
      have z281 : q_r f256 mo 15 = as := (hF.r hmo (by rw [kmo]; rfl)).trans z250
      have z282 : q_r f256 mo 16 = aw := (hF.r hmo (by rw [kmo]; rfl)).trans z251
      have z283 : q_r f256 mo 17 = pa := (hF.r hmo (by rw [kmo]; rfl)).trans z252
      have z284 : q_r f256 mo 18 = nm := (hF.r hmo (by rw [kmo]; rfl)).trans z253
      have z285 : q_r f256 mo 19 = snm := (hF.r hmo (by rw [kmo]; rfl)).trans z254
      have z286 : q_r f256 mo 20 = anm := (hF.r hmo (by rw [kmo]; rfl)).trans z255
      refine q_ald_n cx dX12_feed_37 rfl (lv_at hl 0 rfl) ?_
      refine q_ild_n cx dX12_feed_38 rfl (lv_at hl 3 rfl) ?_
      refine q_cVv (As := [.int (q_i c0)]) (rest := []) cx hB (fun _ h => h) hN hmo kmo (by decide) rfl (r_four l g hN hB.2.1 mo hmo kmo c0 (by omega) (by omega) bu hbu kbu ((0 + 4) + 4) (by decide) (by decide) z259 z278) q_cX12_89 q_dX12_four (by decide) rfl rfl hl.1 rfl (Nat.le_of_ble_eq_true rfl) dX12_feed_39 (fun H locs f287 h289 hF hB => ?_)
      have z290 := h289
      have z291 : q_z f287 mo 8 = 0 := (hF.z hmo (by rw [kmo]; rfl)).trans z260
      have z292 : q_z f287 mo 9 = (-1) := (hF.z hmo (by rw [kmo]; rfl)).trans z261
      have z293 : q_z f287 mo 10 = 0 := (hF.z hmo (by rw [kmo]; rfl)).trans z262
      have z294 : q_z f287 mo 11 = (-1) := (hF.z hmo (by rw [kmo]; rfl)).trans z263
      have z295 : q_z f287 mo 21 = 0 := (hF.z hmo (by rw [kmo]; rfl)).trans z264
      have z296 : q_z f287 mo 22 = 0 := (hF.z hmo (by rw [kmo]; rfl)).trans z265
      have z297 : q_z f287 mo 40 = 0 := (hF.z hmo (by rw [kmo]; rfl)).trans z266
      have z298 : q_z f287 sr 0 = 0 := (hF.z hsr (by rw [ksr]; rfl)).trans z267
      have z299 : q_z f287 sr 1 = 0 := (hF.z hsr (by rw [ksr]; rfl)).trans z268
      have z300 : q_z f287 sr 2 = 12 := (hF.z hsr (by rw [ksr]; rfl)).trans z269
      have z301 : q_z f287 sr 3 = 0 := (hF.z hsr (by rw [ksr]; rfl)).trans z270
      have z302 : q_z f287 sr 4 = 0 := (hF.z hsr (by rw [ksr]; rfl)).trans z271
      have z303 : q_z f287 sr 5 = 1 := (hF.z hsr (by rw [ksr]; rfl)).trans z272
      have z304 : q_z f287 sr 6 = 2 := (hF.z hsr (by rw [ksr]; rfl)).trans z273
      have z305 : q_z f287 sr 7 = 5 := (hF.z hsr (by rw [ksr]; rfl)).trans z274
      have z306 : q_z f287 sr 8 = 3 := (hF.z hsr (by rw [ksr]; rfl)).trans z275
      have z307 : q_z f287 sr 9 = 0 := (hF.z hsr (by rw [ksr]; rfl)).trans z276
      have z308 : q_z f287 mo 0 = 0 := (hF.z hmo (by rw [kmo]; rfl)).trans z277
      have z309 : q_r f287 mo 1 = bu := (hF.r hmo (by rw [kmo]; rfl)).trans z278
      have z310 : q_r f287 mo 13 = sr := (hF.r hmo (by rw [kmo]; rfl)).trans z279
      have z311 : q_r f287 mo 14 = sd := (hF.r hmo (by rw [kmo]; rfl)).trans z280
      have z312 : q_r f287 mo 15 = as := (hF.r hmo (by rw [kmo]; rfl)).trans z281
      have z313 : q_r f287 mo 16 = aw := (hF.r hmo (by rw [kmo]; rfl)).trans z282
      have z314 : q_r f287 mo 17 = pa := (hF.r hmo (by rw [kmo]; rfl)).trans z283
      have z315 : q_r f287 mo 18 = nm := (hF.r hmo (by rw [kmo]; rfl)).trans z284
      have z316 : q_r f287 mo 19 = snm := (hF.r hmo (by rw [kmo]; rfl)).trans z285
      have z317 : q_r f287 mo 20 = anm := (hF.r hmo (by rw [kmo]; rfl)).trans z286
      refine q_ald_n cx dX12_feed_42 rfl (lv_at hl 0 rfl) ?_
      refine lv_iload cx.1 cx.2.1 dX12_feed_43 (lv_at hl 4 rfl) ?_
      refine q_cVv (As := [.int (q_i d0)]) (rest := []) cx hB (fun _ h => h) hN hmo kmo (by decide) rfl (r_four l g hN hB.2.1 mo hmo kmo d0 (by omega) (by omega) bu hbu kbu (((0 + 4) + 4) + 4) (by decide) (by decide) z290 z309) q_cX12_89 q_dX12_four (by decide) rfl rfl hl.1 rfl (Nat.le_of_ble_eq_true rfl) dX12_feed_45 (fun H locs f318 h320 hF hB => ?_)
      have z321 := h320
      have z322 : q_z f318 mo 8 = 0 := (hF.z hmo (by rw [kmo]; rfl)).trans z291
      have z323 : q_z f318 mo 9 = (-1) := (hF.z hmo (by rw [kmo]; rfl)).trans z292
      have z324 : q_z f318 mo 10 = 0 := (hF.z hmo (by rw [kmo]; rfl)).trans z293
      have z325 : q_z f318 mo 11 = (-1) := (hF.z hmo (by rw [kmo]; rfl)).trans z294
      have z326 : q_z f318 mo 21 = 0 := (hF.z hmo (by rw [kmo]; rfl)).trans z295
      have z327 : q_z f318 mo 22 = 0 := (hF.z hmo (by rw [kmo]; rfl)).trans z296
      have z328 : q_z f318 mo 40 = 0 := (hF.z hmo (by rw [kmo]; rfl)).trans z297
      have z329 : q_z f318 sr 0 = 0 := (hF.z hsr (by rw [ksr]; rfl)).trans z298
      have z330 : q_z f318 sr 1 = 0 := (hF.z hsr (by rw [ksr]; rfl)).trans z299
      have z331 : q_z f318 sr 2 = 12 := (hF.z hsr (by rw [ksr]; rfl)).trans z300
      have z332 : q_z f318 sr 3 = 0 := (hF.z hsr (by rw [ksr]; rfl)).trans z301
      have z333 : q_z f318 sr 4 = 0 := (hF.z hsr (by rw [ksr]; rfl)).trans z302
      have z334 : q_z f318 sr 5 = 1 := (hF.z hsr (by rw [ksr]; rfl)).trans z303
      have z335 : q_z f318 sr 6 = 2 := (hF.z hsr (by rw [ksr]; rfl)).trans z304
      have z336 : q_z f318 sr 7 = 5 := (hF.z hsr (by rw [ksr]; rfl)).trans z305
      have z337 : q_z f318 sr 8 = 3 := (hF.z hsr (by rw [ksr]; rfl)).trans z306
      have z338 : q_z f318 sr 9 = 0 := (hF.z hsr (by rw [ksr]; rfl)).trans z307
      have z339 : q_z f318 mo 0 = 0 := (hF.z hmo (by rw [kmo]; rfl)).trans z308
      have z340 : q_r f318 mo 1 = bu := (hF.r hmo (by rw [kmo]; rfl)).trans z309
      have z341 : q_r f318 mo 13 = sr := (hF.r hmo (by rw [kmo]; rfl)).trans z310
      have z342 : q_r f318 mo 14 = sd := (hF.r hmo (by rw [kmo]; rfl)).trans z311
      have z343 : q_r f318 mo 15 = as := (hF.r hmo (by rw [kmo]; rfl)).trans z312
      have z344 : q_r f318 mo 16 = aw := (hF.r hmo (by rw [kmo]; rfl)).trans z313
      have z345 : q_r f318 mo 17 = pa := (hF.r hmo (by rw [kmo]; rfl)).trans z314
      have z346 : q_r f318 mo 18 = nm := (hF.r hmo (by rw [kmo]; rfl)).trans z315
      have z347 : q_r f318 mo 19 = snm := (hF.r hmo (by rw [kmo]; rfl)).trans z316
      have z348 : q_r f318 mo 20 = anm := (hF.r hmo (by rw [kmo]; rfl)).trans z317
      refine q_ald_n cx dX12_feed_48 rfl (lv_at hl 0 rfl) ?_
      refine lv_iload cx.1 cx.2.1 dX12_feed_49 (lv_at hl 5 rfl) ?_
      refine q_cVv (As := [.int (q_i e0)]) (rest := []) cx hB (fun _ h => h) hN hmo kmo (by decide) rfl (r_four l g hN hB.2.1 mo hmo kmo e0 (by omega) (by omega) bu hbu kbu ((((0 + 4) + 4) + 4) + 4) (by decide) (by decide) z321 z340) q_cX12_89 q_dX12_four (by decide) rfl rfl hl.1 rfl (Nat.le_of_ble_eq_true rfl) dX12_feed_51 (fun H locs f349 h351 hF hB => ?_)
      have z352 := h351
      have z353 : q_z f349 mo 8 = 0 := (hF.z hmo (by rw [kmo]; rfl)).trans z322
      have z354 : q_z f349 mo 9 = (-1) := (hF.z hmo (by rw [kmo]; rfl)).trans z323
      have z355 : q_z f349 mo 10 = 0 := (hF.z hmo (by rw [kmo]; rfl)).trans z324
      have z356 : q_z f349 mo 11 = (-1) := (hF.z hmo (by rw [kmo]; rfl)).trans z325
      have z357 : q_z f349 mo 21 = 0 := (hF.z hmo (by rw [kmo]; rfl)).trans z326
      have z358 : q_z f349 mo 22 = 0 := (hF.z hmo (by rw [kmo]; rfl)).trans z327
      have z359 : q_z f349 mo 40 = 0 := (hF.z hmo (by rw [kmo]; rfl)).trans z328
      have z360 : q_z f349 sr 0 = 0 := (hF.z hsr (by rw [ksr]; rfl)).trans z329
      have z361 : q_z f349 sr 1 = 0 := (hF.z hsr (by rw [ksr]; rfl)).trans z330
      have z362 : q_z f349 sr 2 = 12 := (hF.z hsr (by rw [ksr]; rfl)).trans z331
      have z363 : q_z f349 sr 3 = 0 := (hF.z hsr (by rw [ksr]; rfl)).trans z332
      have z364 : q_z f349 sr 4 = 0 := (hF.z hsr (by rw [ksr]; rfl)).trans z333
      have z365 : q_z f349 sr 5 = 1 := (hF.z hsr (by rw [ksr]; rfl)).trans z334
      have z366 : q_z f349 sr 6 = 2 := (hF.z hsr (by rw [ksr]; rfl)).trans z335
      have z367 : q_z f349 sr 7 = 5 := (hF.z hsr (by rw [ksr]; rfl)).trans z336
      have z368 : q_z f349 sr 8 = 3 := (hF.z hsr (by rw [ksr]; rfl)).trans z337
      have z369 : q_z f349 sr 9 = 0 := (hF.z hsr (by rw [ksr]; rfl)).trans z338
      have z370 : q_z f349 mo 0 = 0 := (hF.z hmo (by rw [kmo]; rfl)).trans z339
      have z371 : q_r f349 mo 1 = bu := (hF.r hmo (by rw [kmo]; rfl)).trans z340
      have z372 : q_r f349 mo 13 = sr := (hF.r hmo (by rw [kmo]; rfl)).trans z341
      have z373 : q_r f349 mo 14 = sd := (hF.r hmo (by rw [kmo]; rfl)).trans z342
      have z374 : q_r f349 mo 15 = as := (hF.r hmo (by rw [kmo]; rfl)).trans z343
      have z375 : q_r f349 mo 16 = aw := (hF.r hmo (by rw [kmo]; rfl)).trans z344
      have z376 : q_r f349 mo 17 = pa := (hF.r hmo (by rw [kmo]; rfl)).trans z345
      have z377 : q_r f349 mo 18 = nm := (hF.r hmo (by rw [kmo]; rfl)).trans z346
      have z378 : q_r f349 mo 19 = snm := (hF.r hmo (by rw [kmo]; rfl)).trans z347
      have z379 : q_r f349 mo 20 = anm := (hF.r hmo (by rw [kmo]; rfl)).trans z348
      refine q_ald_n cx dX12_feed_54 rfl (lv_at hl 0 rfl) ?_
      refine q_gX12_82 cx hB hmo kmo z352 dX12_feed_55 (fun lb380 ub380 => ?_)
      refine q_iret cx hr hlk hB dX12_feed_58 ⟨by decide, by decide⟩ ?_
      exact ⟨(by omega), z370⟩
    · exact absurd c224 (by omega)
set_option maxHeartbeats 4000000 in
set_option maxRecDepth 100000 in
theorem p_truncatea (l : Launch) (g : q_G) {K : Nat → Nat} {L : List Nat} (hN : L.Nodup) {f : Nat → va_E} (hT : q_Ty g K L f) (mo : Nat) (hmo : mo ∈ L) (kmo : K mo = 12) (a0 : Int) (la0 : (-2147483648) ≤ a0) (ua0 : a0 ≤ (-1)) (bu : Nat) (hbu : bu ∈ L) (kbu : K bu = 150) (sr : Nat) (hsr : sr ∈ L) (ksr : K sr = 151) (sd : Nat) (hsd : sd ∈ L) (ksd : K sd = 152) (as : Nat) (has : as ∈ L) (kas : K as = 153) (aw : Nat) (haw : aw ∈ L) (kaw : K aw = 154) (pa : Nat) (hpa : pa ∈ L) (kpa : K pa = 155) (nm : Nat) (hnm : nm ∈ L) (knm : K nm = 156) (snm : Nat) (hsnm : snm ∈ L) (ksnm : K snm = 157) (anm : Nat) (hanm : anm ∈ L) (kanm : K anm = 158) (hf0 : q_z f mo 2 = 0) (hf1 : q_z f mo 8 = 0) (hf2 : q_z f mo 9 = (-1)) (hf3 : q_z f mo 10 = 0) (hf4 : q_z f mo 11 = (-1)) (hf5 : q_z f mo 21 = 0) (hf6 : q_z f mo 22 = 0) (hf7 : q_z f mo 40 = 0) (hf8 : q_z f sr 0 = 0) (hf9 : q_z f sr 1 = 0) (hf10 : q_z f sr 2 = 12) (hf11 : q_z f sr 3 = 0) (hf12 : q_z f sr 4 = 0) (hf13 : q_z f sr 5 = 1) (hf14 : q_z f sr 6 = 2) (hf15 : q_z f sr 7 = 5) (hf16 : q_z f sr 8 = 3) (hf17 : q_z f sr 9 = 0) (hr0 : q_r f mo 1 = bu) (hr1 : q_r f mo 13 = sr) (hr2 : q_r f mo 14 = sd) (hr3 : q_r f mo 15 = as) (hr4 : q_r f mo 16 = aw) (hr5 : q_r f mo 17 = pa) (hr6 : q_r f mo 18 = nm) (hr7 : q_r f mo 19 = snm) (hr8 : q_r f mo 20 = anm) : q_Ct l g K L yX12_truncate cX12_truncate 2 (some .int) 2 41 [.ref mo, .int (q_i a0)] f [(12, 0, 40), (150, 0, 599), (151, 0, 657), (152, 0, 657), (153, 0, 657), (154, 0, 657), (155, 0, 3947), (156, 0, 9), (157, 0, 9), (158, 0, 9)] (q_Pi (fun (z : Int) (f1 : Nat → va_E) => z = 0 ∧ q_z f1 mo 0 = 1)) := by
  refine q_ofb (by decide +kernel) hN hT (Nat.le_of_ble_eq_true rfl) ?_
  intro p e s m below meth c ls cx hr hlk hB hl
  have hl : lv_has ls 2 [(0, .ref mo), (1, .int (q_i a0))] := hl
  obtain ⟨H, hH⟩ : ∃ H : Heap, H = s.heap := ⟨_, rfl⟩
  obtain ⟨locs, hlocs⟩ : ∃ z : List Loc, z = [] := ⟨_, rfl⟩
  rw [← hH, ← hlocs] at hB
  rw [← hH, ← hlocs]
  refine q_ald_n cx dX12_truncate_0 rfl (lv_at hl 0 rfl) ?_
  refine q_ild_n cx dX12_truncate_1 rfl (lv_at hl 1 rfl) ?_
  refine q_i2l cx ⟨by omega, by omega⟩ dX12_truncate_2 ?_
  refine q_lconst (z := 0) cx (by decide) dX12_truncate_3 ?_
  refine q_ald_n cx dX12_truncate_4 rfl (lv_at hl 0 rfl) ?_
  refine q_gX12_82 cx hB hmo kmo hf0 dX12_truncate_5 (fun lb38 ub38 => ?_)
  refine q_i2l cx ⟨by decide, by decide⟩ dX12_truncate_8 ?_
  refine q_cSi (As := [.long (q_l a0), .long (q_l 0), .long (q_l 0)]) (rest := [.ref mo]) cx hB (fun _ h => h) hN (r_isIn l g hN hB.2.1 a0 (by omega) (by omega) 0 (by decide) (by decide) 0 (by decide) (by decide)) q_cX12_93 q_dX12_isIn (by decide) rfl rfl hl.1 rfl (Nat.le_of_ble_eq_true rfl) dX12_truncate_9 (fun y40 H locs f39 ry40 h41 hF hB => ?_)
  obtain ⟨rfl, ly40, uy40, t42⟩ := h41
  obtain rfl : y40 = 0 := by omega
  refine q_cVi (As := [.int (q_i 0)]) (rest := []) cx hB (fun _ h => h) hN hmo kmo (by decide) rfl (r_goes0 l g hN hB.2.1 mo hmo kmo 0 (by decide) (by decide)) q_cX12_85 q_dX12_goes (by decide) rfl rfl hl.1 rfl (Nat.le_of_ble_eq_true rfl) dX12_truncate_12 (fun y44 H locs f43 ry44 h45 hF hB => ?_)
  obtain ⟨qy44, z46⟩ := h45
  have z47 : q_z f43 mo 2 = 0 := (hF.z hmo (by rw [kmo]; rfl)).trans hf0
  have z48 : q_z f43 mo 8 = 0 := (hF.z hmo (by rw [kmo]; rfl)).trans hf1
  have z49 : q_z f43 mo 9 = (-1) := (hF.z hmo (by rw [kmo]; rfl)).trans hf2
  have z50 : q_z f43 mo 10 = 0 := (hF.z hmo (by rw [kmo]; rfl)).trans hf3
  have z51 : q_z f43 mo 11 = (-1) := (hF.z hmo (by rw [kmo]; rfl)).trans hf4
  have z52 : q_z f43 mo 21 = 0 := (hF.z hmo (by rw [kmo]; rfl)).trans hf5
  have z53 : q_z f43 mo 22 = 0 := (hF.z hmo (by rw [kmo]; rfl)).trans hf6
  have z54 : q_z f43 mo 40 = 0 := (hF.z hmo (by rw [kmo]; rfl)).trans hf7
  have z55 : q_z f43 sr 0 = 0 := (hF.z hsr (by rw [ksr]; rfl)).trans hf8
  have z56 : q_z f43 sr 1 = 0 := (hF.z hsr (by rw [ksr]; rfl)).trans hf9
  have z57 : q_z f43 sr 2 = 12 := (hF.z hsr (by rw [ksr]; rfl)).trans hf10
  have z58 : q_z f43 sr 3 = 0 := (hF.z hsr (by rw [ksr]; rfl)).trans hf11
  have z59 : q_z f43 sr 4 = 0 := (hF.z hsr (by rw [ksr]; rfl)).trans hf12
  have z60 : q_z f43 sr 5 = 1 := (hF.z hsr (by rw [ksr]; rfl)).trans hf13
  have z61 : q_z f43 sr 6 = 2 := (hF.z hsr (by rw [ksr]; rfl)).trans hf14
  have z62 : q_z f43 sr 7 = 5 := (hF.z hsr (by rw [ksr]; rfl)).trans hf15
  have z63 : q_z f43 sr 8 = 3 := (hF.z hsr (by rw [ksr]; rfl)).trans hf16
  have z64 : q_z f43 sr 9 = 0 := (hF.z hsr (by rw [ksr]; rfl)).trans hf17
  have z65 : q_r f43 mo 1 = bu := (hF.r hmo (by rw [kmo]; rfl)).trans hr0
  have z66 : q_r f43 mo 13 = sr := (hF.r hmo (by rw [kmo]; rfl)).trans hr1
  have z67 : q_r f43 mo 14 = sd := (hF.r hmo (by rw [kmo]; rfl)).trans hr2
  have z68 : q_r f43 mo 15 = as := (hF.r hmo (by rw [kmo]; rfl)).trans hr3
  have z69 : q_r f43 mo 16 = aw := (hF.r hmo (by rw [kmo]; rfl)).trans hr4
  have z70 : q_r f43 mo 17 = pa := (hF.r hmo (by rw [kmo]; rfl)).trans hr5
  have z71 : q_r f43 mo 18 = nm := (hF.r hmo (by rw [kmo]; rfl)).trans hr6
  have z72 : q_r f43 mo 19 = snm := (hF.r hmo (by rw [kmo]; rfl)).trans hr7
  have z73 : q_r f43 mo 20 = anm := (hF.r hmo (by rw [kmo]; rfl)).trans hr8
  subst qy44
  refine q_ifne (tgt := 20) cx ⟨by decide, by decide⟩ dX12_truncate_15 (by decide) (fun c74 => ?_) (fun c74 => ?_)
  · exact absurd c74 (by omega)
  · refine q_iconst cx dX12_truncate_18 ?_
    refine q_iret cx hr hlk hB dX12_truncate_19 ⟨by decide, by decide⟩ ?_
    exact ⟨rfl, z46⟩
set_option maxHeartbeats 4000000 in
set_option maxRecDepth 100000 in
theorem p_truncateb (l : Launch) (g : q_G) {K : Nat → Nat} {L : List Nat} (hN : L.Nodup) {f : Nat → va_E} (hT : q_Ty g K L f) (mo : Nat) (hmo : mo ∈ L) (kmo : K mo = 12) (a0 : Int) (la0 : 0 ≤ a0) (ua0 : a0 ≤ 0) (bu : Nat) (hbu : bu ∈ L) (kbu : K bu = 150) (sr : Nat) (hsr : sr ∈ L) (ksr : K sr = 151) (sd : Nat) (hsd : sd ∈ L) (ksd : K sd = 152) (as : Nat) (has : as ∈ L) (kas : K as = 153) (aw : Nat) (haw : aw ∈ L) (kaw : K aw = 154) (pa : Nat) (hpa : pa ∈ L) (kpa : K pa = 155) (nm : Nat) (hnm : nm ∈ L) (knm : K nm = 156) (snm : Nat) (hsnm : snm ∈ L) (ksnm : K snm = 157) (anm : Nat) (hanm : anm ∈ L) (kanm : K anm = 158) (hf0 : q_z f mo 2 = 0) (hf1 : q_z f mo 8 = 0) (hf2 : q_z f mo 9 = (-1)) (hf3 : q_z f mo 10 = 0) (hf4 : q_z f mo 11 = (-1)) (hf5 : q_z f mo 21 = 0) (hf6 : q_z f mo 22 = 0) (hf7 : q_z f mo 40 = 0) (hf8 : q_z f sr 0 = 0) (hf9 : q_z f sr 1 = 0) (hf10 : q_z f sr 2 = 12) (hf11 : q_z f sr 3 = 0) (hf12 : q_z f sr 4 = 0) (hf13 : q_z f sr 5 = 1) (hf14 : q_z f sr 6 = 2) (hf15 : q_z f sr 7 = 5) (hf16 : q_z f sr 8 = 3) (hf17 : q_z f sr 9 = 0) (hr0 : q_r f mo 1 = bu) (hr1 : q_r f mo 13 = sr) (hr2 : q_r f mo 14 = sd) (hr3 : q_r f mo 15 = as) (hr4 : q_r f mo 16 = aw) (hr5 : q_r f mo 17 = pa) (hr6 : q_r f mo 18 = nm) (hr7 : q_r f mo 19 = snm) (hr8 : q_r f mo 20 = anm) : q_Ct l g K L yX12_truncate cX12_truncate 2 (some .int) 2 41 [.ref mo, .int (q_i a0)] f [(12, 0, 40), (150, 0, 599), (151, 0, 657), (152, 0, 657), (153, 0, 657), (154, 0, 657), (155, 0, 3947), (156, 0, 9), (157, 0, 9), (158, 0, 9)] (q_Pi (fun (z : Int) (f1 : Nat → va_E) => z = 0 ∧ q_z f1 mo 0 = 0)) := by
  obtain rfl : a0 = 0 := by omega
  refine q_ofb (by decide +kernel) hN hT (Nat.le_of_ble_eq_true rfl) ?_
  intro p e s m below meth c ls cx hr hlk hB hl
  have hl : lv_has ls 2 [(0, .ref mo), (1, .int (q_i 0))] := hl
  obtain ⟨H, hH⟩ : ∃ H : Heap, H = s.heap := ⟨_, rfl⟩
  obtain ⟨locs, hlocs⟩ : ∃ z : List Loc, z = [] := ⟨_, rfl⟩
  rw [← hH, ← hlocs] at hB
  rw [← hH, ← hlocs]
  refine q_ald_n cx dX12_truncate_0 rfl (lv_at hl 0 rfl) ?_
  refine q_ild_n cx dX12_truncate_1 rfl (lv_at hl 1 rfl) ?_
  refine q_i2l cx ⟨by decide, by decide⟩ dX12_truncate_2 ?_
  refine q_lconst (z := 0) cx (by decide) dX12_truncate_3 ?_
  refine q_ald_n cx dX12_truncate_4 rfl (lv_at hl 0 rfl) ?_
  refine q_gX12_82 cx hB hmo kmo hf0 dX12_truncate_5 (fun lb67 ub67 => ?_)
  refine q_i2l cx ⟨by decide, by decide⟩ dX12_truncate_8 ?_
  refine q_cSi (As := [.long (q_l 0), .long (q_l 0), .long (q_l 0)]) (rest := [.ref mo]) cx hB (fun _ h => h) hN (r_isIn l g hN hB.2.1 0 (by decide) (by decide) 0 (by decide) (by decide) 0 (by decide) (by decide)) q_cX12_93 q_dX12_isIn (by decide) rfl rfl hl.1 rfl (Nat.le_of_ble_eq_true rfl) dX12_truncate_9 (fun y69 H locs f68 ry69 h70 hF hB => ?_)
  obtain ⟨rfl, ly69, uy69, t71⟩ := h70
  obtain rfl : y69 = 1 := by omega
  refine q_cVi (As := [.int (q_i 1)]) (rest := []) cx hB (fun _ h => h) hN hmo kmo (by decide) rfl (r_goes1 l g hN hB.2.1 mo hmo kmo 1 (by decide) (by decide)) q_cX12_85 q_dX12_goes (by decide) rfl rfl hl.1 rfl (Nat.le_of_ble_eq_true rfl) dX12_truncate_12 (fun y73 H locs f72 ry73 h74 hF hB => ?_)
  obtain ⟨qy73, z75⟩ := h74
  have z76 : q_z f72 mo 2 = 0 := (hF.z hmo (by rw [kmo]; rfl)).trans hf0
  have z77 : q_z f72 mo 8 = 0 := (hF.z hmo (by rw [kmo]; rfl)).trans hf1
  have z78 : q_z f72 mo 9 = (-1) := (hF.z hmo (by rw [kmo]; rfl)).trans hf2
  have z79 : q_z f72 mo 10 = 0 := (hF.z hmo (by rw [kmo]; rfl)).trans hf3
  have z80 : q_z f72 mo 11 = (-1) := (hF.z hmo (by rw [kmo]; rfl)).trans hf4
  have z81 : q_z f72 mo 21 = 0 := (hF.z hmo (by rw [kmo]; rfl)).trans hf5
  have z82 : q_z f72 mo 22 = 0 := (hF.z hmo (by rw [kmo]; rfl)).trans hf6
  have z83 : q_z f72 mo 40 = 0 := (hF.z hmo (by rw [kmo]; rfl)).trans hf7
  have z84 : q_z f72 sr 0 = 0 := (hF.z hsr (by rw [ksr]; rfl)).trans hf8
  have z85 : q_z f72 sr 1 = 0 := (hF.z hsr (by rw [ksr]; rfl)).trans hf9
  have z86 : q_z f72 sr 2 = 12 := (hF.z hsr (by rw [ksr]; rfl)).trans hf10
  have z87 : q_z f72 sr 3 = 0 := (hF.z hsr (by rw [ksr]; rfl)).trans hf11
  have z88 : q_z f72 sr 4 = 0 := (hF.z hsr (by rw [ksr]; rfl)).trans hf12
  have z89 : q_z f72 sr 5 = 1 := (hF.z hsr (by rw [ksr]; rfl)).trans hf13
  have z90 : q_z f72 sr 6 = 2 := (hF.z hsr (by rw [ksr]; rfl)).trans hf14
  have z91 : q_z f72 sr 7 = 5 := (hF.z hsr (by rw [ksr]; rfl)).trans hf15
  have z92 : q_z f72 sr 8 = 3 := (hF.z hsr (by rw [ksr]; rfl)).trans hf16
  have z93 : q_z f72 sr 9 = 0 := (hF.z hsr (by rw [ksr]; rfl)).trans hf17
  have z94 : q_r f72 mo 1 = bu := (hF.r hmo (by rw [kmo]; rfl)).trans hr0
  have z95 : q_r f72 mo 13 = sr := (hF.r hmo (by rw [kmo]; rfl)).trans hr1
  have z96 : q_r f72 mo 14 = sd := (hF.r hmo (by rw [kmo]; rfl)).trans hr2
  have z97 : q_r f72 mo 15 = as := (hF.r hmo (by rw [kmo]; rfl)).trans hr3
  have z98 : q_r f72 mo 16 = aw := (hF.r hmo (by rw [kmo]; rfl)).trans hr4
  have z99 : q_r f72 mo 17 = pa := (hF.r hmo (by rw [kmo]; rfl)).trans hr5
  have z100 : q_r f72 mo 18 = nm := (hF.r hmo (by rw [kmo]; rfl)).trans hr6
  have z101 : q_r f72 mo 19 = snm := (hF.r hmo (by rw [kmo]; rfl)).trans hr7
  have z102 : q_r f72 mo 20 = anm := (hF.r hmo (by rw [kmo]; rfl)).trans hr8
  subst qy73
  refine q_ifne (tgt := 20) cx ⟨by decide, by decide⟩ dX12_truncate_15 (by decide) (fun c103 => ?_) (fun c103 => ?_)
  · refine q_ald_n cx dX12_truncate_20 rfl (lv_at hl 0 rfl) ?_
    refine q_ild_n cx dX12_truncate_21 rfl (lv_at hl 1 rfl) ?_
    refine q_pX12_82 cx hB hmo kmo ⟨by decide, by decide⟩ (by decide) (by decide) rfl dX12_truncate_22 (fun H locs f104 ef104 z105 hB => ?_)
    have z106 : q_z f104 mo 8 = 0 := by rw [ef104, q_setz (Or.inr (by decide))]; exact z77
    have z107 : q_z f104 mo 9 = (-1) := by rw [ef104, q_setz (Or.inr (by decide))]; exact z78
    have z108 : q_z f104 mo 10 = 0 := by rw [ef104, q_setz (Or.inr (by decide))]; exact z79
    have z109 : q_z f104 mo 11 = (-1) := by rw [ef104, q_setz (Or.inr (by decide))]; exact z80
    have z110 : q_z f104 mo 21 = 0 := by rw [ef104, q_setz (Or.inr (by decide))]; exact z81
    have z111 : q_z f104 mo 22 = 0 := by rw [ef104, q_setz (Or.inr (by decide))]; exact z82
    have z112 : q_z f104 mo 40 = 0 := by rw [ef104, q_setz (Or.inr (by decide))]; exact z83
    have z113 : q_z f104 sr 0 = 0 := by rw [ef104, q_setz (Or.inr (by decide))]; exact z84
    have z114 : q_z f104 sr 1 = 0 := by rw [ef104, q_setz (Or.inr (by decide))]; exact z85
    have z115 : q_z f104 sr 2 = 12 := by rw [ef104, q_setz (Or.inl (fun q => by rw [q, kmo] at ksr; exact absurd ksr (by decide)))]; exact z86
    have z116 : q_z f104 sr 3 = 0 := by rw [ef104, q_setz (Or.inr (by decide))]; exact z87
    have z117 : q_z f104 sr 4 = 0 := by rw [ef104, q_setz (Or.inr (by decide))]; exact z88
    have z118 : q_z f104 sr 5 = 1 := by rw [ef104, q_setz (Or.inr (by decide))]; exact z89
    have z119 : q_z f104 sr 6 = 2 := by rw [ef104, q_setz (Or.inr (by decide))]; exact z90
    have z120 : q_z f104 sr 7 = 5 := by rw [ef104, q_setz (Or.inr (by decide))]; exact z91
    have z121 : q_z f104 sr 8 = 3 := by rw [ef104, q_setz (Or.inr (by decide))]; exact z92
    have z122 : q_z f104 sr 9 = 0 := by rw [ef104, q_setz (Or.inr (by decide))]; exact z93
    have z123 : q_z f104 mo 0 = 0 := by rw [ef104, q_setz (Or.inr (by decide))]; exact z75
    have z124 : q_r f104 mo 1 = bu := by rw [ef104, q_setr (Or.inr (by decide))]; exact z94
    have z125 : q_r f104 mo 13 = sr := by rw [ef104, q_setr (Or.inr (by decide))]; exact z95
    have z126 : q_r f104 mo 14 = sd := by rw [ef104, q_setr (Or.inr (by decide))]; exact z96
    have z127 : q_r f104 mo 15 = as := by rw [ef104, q_setr (Or.inr (by decide))]; exact z97
    have z128 : q_r f104 mo 16 = aw := by rw [ef104, q_setr (Or.inr (by decide))]; exact z98
    have z129 : q_r f104 mo 17 = pa := by rw [ef104, q_setr (Or.inr (by decide))]; exact z99
    have z130 : q_r f104 mo 18 = nm := by rw [ef104, q_setr (Or.inr (by decide))]; exact z100
    have z131 : q_r f104 mo 19 = snm := by rw [ef104, q_setr (Or.inr (by decide))]; exact z101
    have z132 : q_r f104 mo 20 = anm := by rw [ef104, q_setr (Or.inr (by decide))]; exact z102
    refine q_ild_n cx dX12_truncate_25 rfl (lv_at hl 1 rfl) ?_
    refine q_iret cx hr hlk hB dX12_truncate_26 ⟨by decide, by decide⟩ ?_
    exact ⟨rfl, z123⟩
  · exact absurd c103 (by omega)
set_option maxHeartbeats 4000000 in
set_option maxRecDepth 100000 in
theorem p_truncatec (l : Launch) (g : q_G) {K : Nat → Nat} {L : List Nat} (hN : L.Nodup) {f : Nat → va_E} (hT : q_Ty g K L f) (mo : Nat) (hmo : mo ∈ L) (kmo : K mo = 12) (a0 : Int) (la0 : 1 ≤ a0) (ua0 : a0 ≤ 2147483647) (bu : Nat) (hbu : bu ∈ L) (kbu : K bu = 150) (sr : Nat) (hsr : sr ∈ L) (ksr : K sr = 151) (sd : Nat) (hsd : sd ∈ L) (ksd : K sd = 152) (as : Nat) (has : as ∈ L) (kas : K as = 153) (aw : Nat) (haw : aw ∈ L) (kaw : K aw = 154) (pa : Nat) (hpa : pa ∈ L) (kpa : K pa = 155) (nm : Nat) (hnm : nm ∈ L) (knm : K nm = 156) (snm : Nat) (hsnm : snm ∈ L) (ksnm : K snm = 157) (anm : Nat) (hanm : anm ∈ L) (kanm : K anm = 158) (hf0 : q_z f mo 2 = 0) (hf1 : q_z f mo 8 = 0) (hf2 : q_z f mo 9 = (-1)) (hf3 : q_z f mo 10 = 0) (hf4 : q_z f mo 11 = (-1)) (hf5 : q_z f mo 21 = 0) (hf6 : q_z f mo 22 = 0) (hf7 : q_z f mo 40 = 0) (hf8 : q_z f sr 0 = 0) (hf9 : q_z f sr 1 = 0) (hf10 : q_z f sr 2 = 12) (hf11 : q_z f sr 3 = 0) (hf12 : q_z f sr 4 = 0) (hf13 : q_z f sr 5 = 1) (hf14 : q_z f sr 6 = 2) (hf15 : q_z f sr 7 = 5) (hf16 : q_z f sr 8 = 3) (hf17 : q_z f sr 9 = 0) (hr0 : q_r f mo 1 = bu) (hr1 : q_r f mo 13 = sr) (hr2 : q_r f mo 14 = sd) (hr3 : q_r f mo 15 = as) (hr4 : q_r f mo 16 = aw) (hr5 : q_r f mo 17 = pa) (hr6 : q_r f mo 18 = nm) (hr7 : q_r f mo 19 = snm) (hr8 : q_r f mo 20 = anm) : q_Ct l g K L yX12_truncate cX12_truncate 2 (some .int) 2 41 [.ref mo, .int (q_i a0)] f [(12, 0, 40), (150, 0, 599), (151, 0, 657), (152, 0, 657), (153, 0, 657), (154, 0, 657), (155, 0, 3947), (156, 0, 9), (157, 0, 9), (158, 0, 9)] (q_Pi (fun (z : Int) (f1 : Nat → va_E) => z = 0 ∧ q_z f1 mo 0 = 1)) := by
  refine q_ofb (by decide +kernel) hN hT (Nat.le_of_ble_eq_true rfl) ?_
  intro p e s m below meth c ls cx hr hlk hB hl
  have hl : lv_has ls 2 [(0, .ref mo), (1, .int (q_i a0))] := hl
  obtain ⟨H, hH⟩ : ∃ H : Heap, H = s.heap := ⟨_, rfl⟩
  obtain ⟨locs, hlocs⟩ : ∃ z : List Loc, z = [] := ⟨_, rfl⟩
  rw [← hH, ← hlocs] at hB
  rw [← hH, ← hlocs]
  refine q_ald_n cx dX12_truncate_0 rfl (lv_at hl 0 rfl) ?_
  refine q_ild_n cx dX12_truncate_1 rfl (lv_at hl 1 rfl) ?_
  refine q_i2l cx ⟨by omega, by omega⟩ dX12_truncate_2 ?_
  refine q_lconst (z := 0) cx (by decide) dX12_truncate_3 ?_
  refine q_ald_n cx dX12_truncate_4 rfl (lv_at hl 0 rfl) ?_
  refine q_gX12_82 cx hB hmo kmo hf0 dX12_truncate_5 (fun lb38 ub38 => ?_)
  refine q_i2l cx ⟨by decide, by decide⟩ dX12_truncate_8 ?_
  refine q_cSi (As := [.long (q_l a0), .long (q_l 0), .long (q_l 0)]) (rest := [.ref mo]) cx hB (fun _ h => h) hN (r_isIn l g hN hB.2.1 a0 (by omega) (by omega) 0 (by decide) (by decide) 0 (by decide) (by decide)) q_cX12_93 q_dX12_isIn (by decide) rfl rfl hl.1 rfl (Nat.le_of_ble_eq_true rfl) dX12_truncate_9 (fun y40 H locs f39 ry40 h41 hF hB => ?_)
  obtain ⟨rfl, ly40, uy40, t42⟩ := h41
  obtain rfl : y40 = 0 := by omega
  refine q_cVi (As := [.int (q_i 0)]) (rest := []) cx hB (fun _ h => h) hN hmo kmo (by decide) rfl (r_goes0 l g hN hB.2.1 mo hmo kmo 0 (by decide) (by decide)) q_cX12_85 q_dX12_goes (by decide) rfl rfl hl.1 rfl (Nat.le_of_ble_eq_true rfl) dX12_truncate_12 (fun y44 H locs f43 ry44 h45 hF hB => ?_)
  obtain ⟨qy44, z46⟩ := h45
  have z47 : q_z f43 mo 2 = 0 := (hF.z hmo (by rw [kmo]; rfl)).trans hf0
  have z48 : q_z f43 mo 8 = 0 := (hF.z hmo (by rw [kmo]; rfl)).trans hf1
  have z49 : q_z f43 mo 9 = (-1) := (hF.z hmo (by rw [kmo]; rfl)).trans hf2
  have z50 : q_z f43 mo 10 = 0 := (hF.z hmo (by rw [kmo]; rfl)).trans hf3
  have z51 : q_z f43 mo 11 = (-1) := (hF.z hmo (by rw [kmo]; rfl)).trans hf4
  have z52 : q_z f43 mo 21 = 0 := (hF.z hmo (by rw [kmo]; rfl)).trans hf5
  have z53 : q_z f43 mo 22 = 0 := (hF.z hmo (by rw [kmo]; rfl)).trans hf6
  have z54 : q_z f43 mo 40 = 0 := (hF.z hmo (by rw [kmo]; rfl)).trans hf7
  have z55 : q_z f43 sr 0 = 0 := (hF.z hsr (by rw [ksr]; rfl)).trans hf8
  have z56 : q_z f43 sr 1 = 0 := (hF.z hsr (by rw [ksr]; rfl)).trans hf9
  have z57 : q_z f43 sr 2 = 12 := (hF.z hsr (by rw [ksr]; rfl)).trans hf10
  have z58 : q_z f43 sr 3 = 0 := (hF.z hsr (by rw [ksr]; rfl)).trans hf11
  have z59 : q_z f43 sr 4 = 0 := (hF.z hsr (by rw [ksr]; rfl)).trans hf12
  have z60 : q_z f43 sr 5 = 1 := (hF.z hsr (by rw [ksr]; rfl)).trans hf13
  have z61 : q_z f43 sr 6 = 2 := (hF.z hsr (by rw [ksr]; rfl)).trans hf14
  have z62 : q_z f43 sr 7 = 5 := (hF.z hsr (by rw [ksr]; rfl)).trans hf15
  have z63 : q_z f43 sr 8 = 3 := (hF.z hsr (by rw [ksr]; rfl)).trans hf16
  have z64 : q_z f43 sr 9 = 0 := (hF.z hsr (by rw [ksr]; rfl)).trans hf17
  have z65 : q_r f43 mo 1 = bu := (hF.r hmo (by rw [kmo]; rfl)).trans hr0
  have z66 : q_r f43 mo 13 = sr := (hF.r hmo (by rw [kmo]; rfl)).trans hr1
  have z67 : q_r f43 mo 14 = sd := (hF.r hmo (by rw [kmo]; rfl)).trans hr2
  have z68 : q_r f43 mo 15 = as := (hF.r hmo (by rw [kmo]; rfl)).trans hr3
  have z69 : q_r f43 mo 16 = aw := (hF.r hmo (by rw [kmo]; rfl)).trans hr4
  have z70 : q_r f43 mo 17 = pa := (hF.r hmo (by rw [kmo]; rfl)).trans hr5
  have z71 : q_r f43 mo 18 = nm := (hF.r hmo (by rw [kmo]; rfl)).trans hr6
  have z72 : q_r f43 mo 19 = snm := (hF.r hmo (by rw [kmo]; rfl)).trans hr7
  have z73 : q_r f43 mo 20 = anm := (hF.r hmo (by rw [kmo]; rfl)).trans hr8
  subst qy44
  refine q_ifne (tgt := 20) cx ⟨by decide, by decide⟩ dX12_truncate_15 (by decide) (fun c74 => ?_) (fun c74 => ?_)
  · exact absurd c74 (by omega)
  · refine q_iconst cx dX12_truncate_18 ?_
    refine q_iret cx hr hlk hB dX12_truncate_19 ⟨by decide, by decide⟩ ?_
    exact ⟨rfl, z46⟩
set_option maxHeartbeats 4000000 in
set_option maxRecDepth 100000 in
theorem p_readText (l : Launch) (g : q_G) {K : Nat → Nat} {L : List Nat} (hN : L.Nodup) {f : Nat → va_E} (hT : q_Ty g K L f) (mo : Nat) (hmo : mo ∈ L) (kmo : K mo = 12) (bu : Nat) (hbu : bu ∈ L) (kbu : K bu = 150) (sr : Nat) (hsr : sr ∈ L) (ksr : K sr = 151) (sd : Nat) (hsd : sd ∈ L) (ksd : K sd = 152) (as : Nat) (has : as ∈ L) (kas : K as = 153) (aw : Nat) (haw : aw ∈ L) (kaw : K aw = 154) (pa : Nat) (hpa : pa ∈ L) (kpa : K pa = 155) (nm : Nat) (hnm : nm ∈ L) (knm : K nm = 156) (snm : Nat) (hsnm : snm ∈ L) (ksnm : K snm = 157) (anm : Nat) (hanm : anm ∈ L) (kanm : K anm = 158) (hf0 : q_z f mo 2 = 0) (hf1 : q_z f mo 8 = 0) (hf2 : q_z f mo 9 = (-1)) (hf3 : q_z f mo 10 = 0) (hf4 : q_z f mo 11 = (-1)) (hf5 : q_z f mo 21 = 0) (hf6 : q_z f mo 22 = 0) (hf7 : q_z f mo 40 = 0) (hf8 : q_z f sr 0 = 0) (hf9 : q_z f sr 1 = 0) (hf10 : q_z f sr 2 = 12) (hf11 : q_z f sr 3 = 0) (hf12 : q_z f sr 4 = 0) (hf13 : q_z f sr 5 = 1) (hf14 : q_z f sr 6 = 2) (hf15 : q_z f sr 7 = 5) (hf16 : q_z f sr 8 = 3) (hf17 : q_z f sr 9 = 0) (hr0 : q_r f mo 1 = bu) (hr1 : q_r f mo 13 = sr) (hr2 : q_r f mo 14 = sd) (hr3 : q_r f mo 15 = as) (hr4 : q_r f mo 16 = aw) (hr5 : q_r f mo 17 = pa) (hr6 : q_r f mo 18 = nm) (hr7 : q_r f mo 19 = snm) (hr8 : q_r f mo 20 = anm) : q_Ct l g K L yX12_readText cX12_readText 2 (some .int) 3 63 [.ref mo] f [(12, 0, 40), (150, 0, 599), (151, 0, 657), (152, 0, 657), (153, 0, 657), (154, 0, 657), (155, 0, 3947), (156, 0, 9), (157, 0, 9), (158, 0, 9)] (q_Pi (fun (z : Int) (f1 : Nat → va_E) => z = 0 ∧ q_z f1 mo 0 = 0)) := by
  refine q_ofb (by decide +kernel) hN hT (Nat.le_of_ble_eq_true rfl) ?_
  intro p e s m below meth c ls cx hr hlk hB hl
  have hl : lv_has ls 2 [(0, .ref mo)] := hl
  obtain ⟨H, hH⟩ : ∃ H : Heap, H = s.heap := ⟨_, rfl⟩
  obtain ⟨locs, hlocs⟩ : ∃ z : List Loc, z = [] := ⟨_, rfl⟩
  rw [← hH, ← hlocs] at hB
  rw [← hH, ← hlocs]
  refine q_ald_n cx dX12_readText_0 rfl (lv_at hl 0 rfl) ?_
  refine q_cVv (As := []) (rest := []) cx hB (fun _ h => h) hN hmo kmo (by decide) rfl (r_beginsText0 l g hN hB.2.1 mo hmo kmo hf0) q_cX12_244 q_dX12_beginsText (by decide) rfl rfl hl.1 rfl (Nat.le_of_ble_eq_true rfl) dX12_readText_1 (fun H locs f235 h237 hF hB => ?_)
  obtain ⟨z238, z239, z240, z241⟩ := h237
  have z242 : q_z f235 mo 10 = 0 := (hF.z hmo (by rw [kmo]; rfl)).trans hf3
  have z243 : q_z f235 mo 11 = (-1) := (hF.z hmo (by rw [kmo]; rfl)).trans hf4
  have z244 : q_z f235 mo 21 = 0 := (hF.z hmo (by rw [kmo]; rfl)).trans hf5
  have z245 : q_z f235 mo 22 = 0 := (hF.z hmo (by rw [kmo]; rfl)).trans hf6
  have z246 : q_z f235 mo 40 = 0 := (hF.z hmo (by rw [kmo]; rfl)).trans hf7
  have z247 : q_z f235 sr 0 = 0 := (hF.z hsr (by rw [ksr]; rfl)).trans hf8
  have z248 : q_z f235 sr 1 = 0 := (hF.z hsr (by rw [ksr]; rfl)).trans hf9
  have z249 : q_z f235 sr 2 = 12 := (hF.z hsr (by rw [ksr]; rfl)).trans hf10
  have z250 : q_z f235 sr 3 = 0 := (hF.z hsr (by rw [ksr]; rfl)).trans hf11
  have z251 : q_z f235 sr 4 = 0 := (hF.z hsr (by rw [ksr]; rfl)).trans hf12
  have z252 : q_z f235 sr 5 = 1 := (hF.z hsr (by rw [ksr]; rfl)).trans hf13
  have z253 : q_z f235 sr 6 = 2 := (hF.z hsr (by rw [ksr]; rfl)).trans hf14
  have z254 : q_z f235 sr 7 = 5 := (hF.z hsr (by rw [ksr]; rfl)).trans hf15
  have z255 : q_z f235 sr 8 = 3 := (hF.z hsr (by rw [ksr]; rfl)).trans hf16
  have z256 : q_z f235 sr 9 = 0 := (hF.z hsr (by rw [ksr]; rfl)).trans hf17
  have z257 : q_r f235 mo 1 = bu := (hF.r hmo (by rw [kmo]; rfl)).trans hr0
  have z258 : q_r f235 mo 13 = sr := (hF.r hmo (by rw [kmo]; rfl)).trans hr1
  have z259 : q_r f235 mo 14 = sd := (hF.r hmo (by rw [kmo]; rfl)).trans hr2
  have z260 : q_r f235 mo 15 = as := (hF.r hmo (by rw [kmo]; rfl)).trans hr3
  have z261 : q_r f235 mo 16 = aw := (hF.r hmo (by rw [kmo]; rfl)).trans hr4
  have z262 : q_r f235 mo 17 = pa := (hF.r hmo (by rw [kmo]; rfl)).trans hr5
  have z263 : q_r f235 mo 18 = nm := (hF.r hmo (by rw [kmo]; rfl)).trans hr6
  have z264 : q_r f235 mo 19 = snm := (hF.r hmo (by rw [kmo]; rfl)).trans hr7
  have z265 : q_r f235 mo 20 = anm := (hF.r hmo (by rw [kmo]; rfl)).trans hr8
  refine q_ald_n cx dX12_readText_4 rfl (lv_at hl 0 rfl) ?_
  refine q_cVv (As := []) (rest := []) cx hB (fun _ h => h) hN hmo kmo (by decide) rfl (r_laysAside l g hN hB.2.1 mo hmo kmo sr hsr ksr as has kas z258 z260) q_cX12_247 q_dX12_laysAside (by decide) rfl rfl hl.1 rfl (Nat.le_of_ble_eq_true rfl) dX12_readText_5 (fun H locs f266 h268 hF hB => ?_)
  have z269 : q_z f266 mo 10 = 0 := (hF.z hmo (by rw [kmo]; rfl)).trans z242
  have z270 : q_z f266 mo 11 = (-1) := (hF.z hmo (by rw [kmo]; rfl)).trans z243
  have z271 : q_z f266 mo 21 = 0 := (hF.z hmo (by rw [kmo]; rfl)).trans z244
  have z272 : q_z f266 mo 22 = 0 := (hF.z hmo (by rw [kmo]; rfl)).trans z245
  have z273 : q_z f266 mo 40 = 0 := (hF.z hmo (by rw [kmo]; rfl)).trans z246
  have z274 : q_z f266 sr 0 = 0 := (hF.z hsr (by rw [ksr]; rfl)).trans z247
  have z275 : q_z f266 sr 1 = 0 := (hF.z hsr (by rw [ksr]; rfl)).trans z248
  have z276 : q_z f266 sr 2 = 12 := (hF.z hsr (by rw [ksr]; rfl)).trans z249
  have z277 : q_z f266 sr 3 = 0 := (hF.z hsr (by rw [ksr]; rfl)).trans z250
  have z278 : q_z f266 sr 4 = 0 := (hF.z hsr (by rw [ksr]; rfl)).trans z251
  have z279 : q_z f266 sr 5 = 1 := (hF.z hsr (by rw [ksr]; rfl)).trans z252
  have z280 : q_z f266 sr 6 = 2 := (hF.z hsr (by rw [ksr]; rfl)).trans z253
  have z281 : q_z f266 sr 7 = 5 := (hF.z hsr (by rw [ksr]; rfl)).trans z254
  have z282 : q_z f266 sr 8 = 3 := (hF.z hsr (by rw [ksr]; rfl)).trans z255
  have z283 : q_z f266 sr 9 = 0 := (hF.z hsr (by rw [ksr]; rfl)).trans z256
  have z284 : q_z f266 mo 2 = 0 := (hF.z hmo (by rw [kmo]; rfl)).trans z238
  have z285 : q_z f266 mo 6 = 0 := (hF.z hmo (by rw [kmo]; rfl)).trans z239
  have z286 : q_z f266 mo 8 = 0 := (hF.z hmo (by rw [kmo]; rfl)).trans z240
  have z287 : q_z f266 mo 9 = (-1) := (hF.z hmo (by rw [kmo]; rfl)).trans z241
  have z288 : q_r f266 mo 1 = bu := (hF.r hmo (by rw [kmo]; rfl)).trans z257
  have z289 : q_r f266 mo 13 = sr := (hF.r hmo (by rw [kmo]; rfl)).trans z258
  have z290 : q_r f266 mo 14 = sd := (hF.r hmo (by rw [kmo]; rfl)).trans z259
  have z291 : q_r f266 mo 15 = as := (hF.r hmo (by rw [kmo]; rfl)).trans z260
  have z292 : q_r f266 mo 16 = aw := (hF.r hmo (by rw [kmo]; rfl)).trans z261
  have z293 : q_r f266 mo 17 = pa := (hF.r hmo (by rw [kmo]; rfl)).trans z262
  have z294 : q_r f266 mo 18 = nm := (hF.r hmo (by rw [kmo]; rfl)).trans z263
  have z295 : q_r f266 mo 19 = snm := (hF.r hmo (by rw [kmo]; rfl)).trans z264
  have z296 : q_r f266 mo 20 = anm := (hF.r hmo (by rw [kmo]; rfl)).trans z265
  refine q_ald_n cx dX12_readText_8 rfl (lv_at hl 0 rfl) ?_
  refine q_gX12_35 cx hB hmo kmo z294 dX12_readText_9 (fun hb297 kb297 => ?_)
  refine q_ald_n cx dX12_readText_12 rfl (lv_at hl 0 rfl) ?_
  refine q_gX12_42 cx hB hmo kmo z296 dX12_readText_13 (fun hb298 kb298 => ?_)
  refine q_cSv (As := [.ref nm, .ref anm]) (rest := []) cx hB (fun _ h => h) hN (r_copiesNames_158 l g hN hB.2.1 nm hnm knm anm hanm kanm) q_cX12_164 q_dX12_copiesNames (by decide) rfl rfl hl.1 rfl (Nat.le_of_ble_eq_true rfl) dX12_readText_16 (fun H locs f299 h301 hF hB => ?_)
  have z302 : q_z f299 mo 10 = 0 := (hF.z hmo (by rw [kmo]; rfl)).trans z269
  have z303 : q_z f299 mo 11 = (-1) := (hF.z hmo (by rw [kmo]; rfl)).trans z270
  have z304 : q_z f299 mo 21 = 0 := (hF.z hmo (by rw [kmo]; rfl)).trans z271
  have z305 : q_z f299 mo 22 = 0 := (hF.z hmo (by rw [kmo]; rfl)).trans z272
  have z306 : q_z f299 mo 40 = 0 := (hF.z hmo (by rw [kmo]; rfl)).trans z273
  have z307 : q_z f299 sr 0 = 0 := (hF.z hsr (by rw [ksr]; rfl)).trans z274
  have z308 : q_z f299 sr 1 = 0 := (hF.z hsr (by rw [ksr]; rfl)).trans z275
  have z309 : q_z f299 sr 2 = 12 := (hF.z hsr (by rw [ksr]; rfl)).trans z276
  have z310 : q_z f299 sr 3 = 0 := (hF.z hsr (by rw [ksr]; rfl)).trans z277
  have z311 : q_z f299 sr 4 = 0 := (hF.z hsr (by rw [ksr]; rfl)).trans z278
  have z312 : q_z f299 sr 5 = 1 := (hF.z hsr (by rw [ksr]; rfl)).trans z279
  have z313 : q_z f299 sr 6 = 2 := (hF.z hsr (by rw [ksr]; rfl)).trans z280
  have z314 : q_z f299 sr 7 = 5 := (hF.z hsr (by rw [ksr]; rfl)).trans z281
  have z315 : q_z f299 sr 8 = 3 := (hF.z hsr (by rw [ksr]; rfl)).trans z282
  have z316 : q_z f299 sr 9 = 0 := (hF.z hsr (by rw [ksr]; rfl)).trans z283
  have z317 : q_z f299 mo 2 = 0 := (hF.z hmo (by rw [kmo]; rfl)).trans z284
  have z318 : q_z f299 mo 6 = 0 := (hF.z hmo (by rw [kmo]; rfl)).trans z285
  have z319 : q_z f299 mo 8 = 0 := (hF.z hmo (by rw [kmo]; rfl)).trans z286
  have z320 : q_z f299 mo 9 = (-1) := (hF.z hmo (by rw [kmo]; rfl)).trans z287
  have z321 : q_r f299 mo 1 = bu := (hF.r hmo (by rw [kmo]; rfl)).trans z288
  have z322 : q_r f299 mo 13 = sr := (hF.r hmo (by rw [kmo]; rfl)).trans z289
  have z323 : q_r f299 mo 14 = sd := (hF.r hmo (by rw [kmo]; rfl)).trans z290
  have z324 : q_r f299 mo 15 = as := (hF.r hmo (by rw [kmo]; rfl)).trans z291
  have z325 : q_r f299 mo 16 = aw := (hF.r hmo (by rw [kmo]; rfl)).trans z292
  have z326 : q_r f299 mo 17 = pa := (hF.r hmo (by rw [kmo]; rfl)).trans z293
  have z327 : q_r f299 mo 18 = nm := (hF.r hmo (by rw [kmo]; rfl)).trans z294
  have z328 : q_r f299 mo 19 = snm := (hF.r hmo (by rw [kmo]; rfl)).trans z295
  have z329 : q_r f299 mo 20 = anm := (hF.r hmo (by rw [kmo]; rfl)).trans z296
  refine q_ald_n cx dX12_readText_19 rfl (lv_at hl 0 rfl) ?_
  refine q_cVv (As := []) (rest := []) cx hB (fun _ h => h) hN hmo kmo (by decide) rfl (r_clears l g hN hB.2.1 mo hmo kmo sr hsr ksr nm hnm knm z322 z327) q_cX12_72 q_dX12_clears (by decide) rfl rfl hl.1 rfl (Nat.le_of_ble_eq_true rfl) dX12_readText_20 (fun H locs f330 h332 hF hB => ?_)
  obtain ⟨z333, z334, z335, z336, z337, z338, z339, z340, z341, z342⟩ := h332
  have z343 : q_z f330 mo 10 = 0 := (hF.z hmo (by rw [kmo]; rfl)).trans z302
  have z344 : q_z f330 mo 11 = (-1) := (hF.z hmo (by rw [kmo]; rfl)).trans z303
  have z345 : q_z f330 mo 21 = 0 := (hF.z hmo (by rw [kmo]; rfl)).trans z304
  have z346 : q_z f330 mo 22 = 0 := (hF.z hmo (by rw [kmo]; rfl)).trans z305
  have z347 : q_z f330 mo 40 = 0 := (hF.z hmo (by rw [kmo]; rfl)).trans z306
  have z348 : q_z f330 mo 2 = 0 := (hF.z hmo (by rw [kmo]; rfl)).trans z317
  have z349 : q_z f330 mo 6 = 0 := (hF.z hmo (by rw [kmo]; rfl)).trans z318
  have z350 : q_z f330 mo 8 = 0 := (hF.z hmo (by rw [kmo]; rfl)).trans z319
  have z351 : q_z f330 mo 9 = (-1) := (hF.z hmo (by rw [kmo]; rfl)).trans z320
  have z352 : q_r f330 mo 1 = bu := (hF.r hmo (by rw [kmo]; rfl)).trans z321
  have z353 : q_r f330 mo 13 = sr := (hF.r hmo (by rw [kmo]; rfl)).trans z322
  have z354 : q_r f330 mo 14 = sd := (hF.r hmo (by rw [kmo]; rfl)).trans z323
  have z355 : q_r f330 mo 15 = as := (hF.r hmo (by rw [kmo]; rfl)).trans z324
  have z356 : q_r f330 mo 16 = aw := (hF.r hmo (by rw [kmo]; rfl)).trans z325
  have z357 : q_r f330 mo 17 = pa := (hF.r hmo (by rw [kmo]; rfl)).trans z326
  have z358 : q_r f330 mo 18 = nm := (hF.r hmo (by rw [kmo]; rfl)).trans z327
  have z359 : q_r f330 mo 19 = snm := (hF.r hmo (by rw [kmo]; rfl)).trans z328
  have z360 : q_r f330 mo 20 = anm := (hF.r hmo (by rw [kmo]; rfl)).trans z329
  refine q_ald_n cx dX12_readText_23 rfl (lv_at hl 0 rfl) ?_
  refine q_iconst cx dX12_readText_24 ?_
  refine q_pX12_182 cx hB hmo kmo ⟨by decide, by decide⟩ (by decide) (by decide) rfl dX12_readText_25 (fun H locs f361 ef361 z362 hB => ?_)
  have z363 : q_z f361 mo 10 = 0 := by rw [ef361, q_setz (Or.inr (by decide))]; exact z343
  have z364 : q_z f361 mo 11 = (-1) := by rw [ef361, q_setz (Or.inr (by decide))]; exact z344
  have z365 : q_z f361 mo 21 = 0 := by rw [ef361, q_setz (Or.inr (by decide))]; exact z345
  have z366 : q_z f361 mo 22 = 0 := by rw [ef361, q_setz (Or.inr (by decide))]; exact z346
  have z367 : q_z f361 mo 40 = 0 := by rw [ef361, q_setz (Or.inr (by decide))]; exact z347
  have z368 : q_z f361 mo 2 = 0 := by rw [ef361, q_setz (Or.inr (by decide))]; exact z348
  have z369 : q_z f361 mo 6 = 0 := by rw [ef361, q_setz (Or.inr (by decide))]; exact z349
  have z370 : q_z f361 mo 8 = 0 := by rw [ef361, q_setz (Or.inr (by decide))]; exact z350
  have z371 : q_z f361 mo 9 = (-1) := by rw [ef361, q_setz (Or.inr (by decide))]; exact z351
  have z372 : q_z f361 sr 0 = 0 := by rw [ef361, q_setz (Or.inr (by decide))]; exact z333
  have z373 : q_z f361 sr 1 = 0 := by rw [ef361, q_setz (Or.inr (by decide))]; exact z334
  have z374 : q_z f361 sr 2 = 12 := by rw [ef361, q_setz (Or.inr (by decide))]; exact z335
  have z375 : q_z f361 sr 3 = 0 := by rw [ef361, q_setz (Or.inr (by decide))]; exact z336
  have z376 : q_z f361 sr 4 = 0 := by rw [ef361, q_setz (Or.inr (by decide))]; exact z337
  have z377 : q_z f361 sr 8 = 3 := by rw [ef361, q_setz (Or.inr (by decide))]; exact z338
  have z378 : q_z f361 sr 9 = 0 := by rw [ef361, q_setz (Or.inr (by decide))]; exact z339
  have z379 : q_z f361 sr 5 = 1 := by rw [ef361, q_setz (Or.inr (by decide))]; exact z340
  have z380 : q_z f361 sr 6 = 2 := by rw [ef361, q_setz (Or.inr (by decide))]; exact z341
  have z381 : q_z f361 sr 7 = 5 := by rw [ef361, q_setz (Or.inr (by decide))]; exact z342
  have z382 : q_r f361 mo 1 = bu := by rw [ef361, q_setr (Or.inr (by decide))]; exact z352
  have z383 : q_r f361 mo 13 = sr := by rw [ef361, q_setr (Or.inr (by decide))]; exact z353
  have z384 : q_r f361 mo 14 = sd := by rw [ef361, q_setr (Or.inr (by decide))]; exact z354
  have z385 : q_r f361 mo 15 = as := by rw [ef361, q_setr (Or.inr (by decide))]; exact z355
  have z386 : q_r f361 mo 16 = aw := by rw [ef361, q_setr (Or.inr (by decide))]; exact z356
  have z387 : q_r f361 mo 17 = pa := by rw [ef361, q_setr (Or.inr (by decide))]; exact z357
  have z388 : q_r f361 mo 18 = nm := by rw [ef361, q_setr (Or.inr (by decide))]; exact z358
  have z389 : q_r f361 mo 19 = snm := by rw [ef361, q_setr (Or.inr (by decide))]; exact z359
  have z390 : q_r f361 mo 20 = anm := by rw [ef361, q_setr (Or.inr (by decide))]; exact z360
  refine q_ald_n cx dX12_readText_28 rfl (lv_at hl 0 rfl) ?_
  refine q_cVi (As := []) (rest := []) cx hB (fun _ h => h) hN hmo kmo (by decide) rfl (r_isGood0 l g hN hB.2.1 mo hmo kmo z370) q_cX12_130 q_dX12_isGood (by decide) rfl rfl hl.1 rfl (Nat.le_of_ble_eq_true rfl) dX12_readText_29 (fun y392 H locs f391 ry392 h393 hF hB => ?_)
  obtain ⟨rfl, qy392⟩ := h393
  subst qy392
  refine q_ifeq (tgt := 49) cx ⟨by decide, by decide⟩ dX12_readText_32 (by decide) (fun c394 => ?_) (fun c394 => ?_)
  · exact absurd c394 (by omega)
  · refine q_ald_n cx dX12_readText_35 rfl (lv_at hl 0 rfl) ?_
    refine q_gX12_117 cx hB hmo kmo z369 dX12_readText_36 (fun lb395 ub395 => ?_)
    refine q_ifeq (tgt := 49) cx ⟨by decide, by decide⟩ dX12_readText_39 (by decide) (fun c396 => ?_) (fun c396 => ?_)
    · refine q_ald_n cx dX12_readText_49 rfl (lv_at hl 0 rfl) ?_
      refine q_cVi (As := []) (rest := []) cx hB (fun _ h => h) hN hmo kmo (by decide) rfl (r_endsText0 l g hN hB.2.1 mo hmo kmo z370 z371) q_cX12_253 q_dX12_endsText (by decide) rfl rfl hl.1 rfl (Nat.le_of_ble_eq_true rfl) dX12_readText_50 (fun y398 H locs f397 ry398 h399 hF hB => ?_)
      obtain ⟨qy398, z400, z401, z402⟩ := h399
      have z403 : q_z f397 mo 21 = 0 := (hF.z hmo (by rw [kmo]; rfl)).trans z365
      have z404 : q_z f397 mo 22 = 0 := (hF.z hmo (by rw [kmo]; rfl)).trans z366
      have z405 : q_z f397 mo 40 = 0 := (hF.z hmo (by rw [kmo]; rfl)).trans z367
      have z406 : q_z f397 mo 2 = 0 := (hF.z hmo (by rw [kmo]; rfl)).trans z368
      have z407 : q_z f397 mo 6 = 0 := (hF.z hmo (by rw [kmo]; rfl)).trans z369
      have z408 : q_z f397 mo 8 = 0 := (hF.z hmo (by rw [kmo]; rfl)).trans z370
      have z409 : q_z f397 mo 9 = (-1) := (hF.z hmo (by rw [kmo]; rfl)).trans z371
      have z410 : q_z f397 sr 0 = 0 := (hF.z hsr (by rw [ksr]; rfl)).trans z372
      have z411 : q_z f397 sr 1 = 0 := (hF.z hsr (by rw [ksr]; rfl)).trans z373
      have z412 : q_z f397 sr 2 = 12 := (hF.z hsr (by rw [ksr]; rfl)).trans z374
      have z413 : q_z f397 sr 3 = 0 := (hF.z hsr (by rw [ksr]; rfl)).trans z375
      have z414 : q_z f397 sr 4 = 0 := (hF.z hsr (by rw [ksr]; rfl)).trans z376
      have z415 : q_z f397 sr 8 = 3 := (hF.z hsr (by rw [ksr]; rfl)).trans z377
      have z416 : q_z f397 sr 9 = 0 := (hF.z hsr (by rw [ksr]; rfl)).trans z378
      have z417 : q_z f397 sr 5 = 1 := (hF.z hsr (by rw [ksr]; rfl)).trans z379
      have z418 : q_z f397 sr 6 = 2 := (hF.z hsr (by rw [ksr]; rfl)).trans z380
      have z419 : q_z f397 sr 7 = 5 := (hF.z hsr (by rw [ksr]; rfl)).trans z381
      have z420 : q_z f397 mo 23 = 0 := (hF.z hmo (by rw [kmo]; rfl)).trans z362
      have z421 : q_r f397 mo 1 = bu := (hF.r hmo (by rw [kmo]; rfl)).trans z382
      have z422 : q_r f397 mo 13 = sr := (hF.r hmo (by rw [kmo]; rfl)).trans z383
      have z423 : q_r f397 mo 14 = sd := (hF.r hmo (by rw [kmo]; rfl)).trans z384
      have z424 : q_r f397 mo 15 = as := (hF.r hmo (by rw [kmo]; rfl)).trans z385
      have z425 : q_r f397 mo 16 = aw := (hF.r hmo (by rw [kmo]; rfl)).trans z386
      have z426 : q_r f397 mo 17 = pa := (hF.r hmo (by rw [kmo]; rfl)).trans z387
      have z427 : q_r f397 mo 18 = nm := (hF.r hmo (by rw [kmo]; rfl)).trans z388
      have z428 : q_r f397 mo 19 = snm := (hF.r hmo (by rw [kmo]; rfl)).trans z389
      have z429 : q_r f397 mo 20 = anm := (hF.r hmo (by rw [kmo]; rfl)).trans z390
      subst qy398
      refine q_ifne (tgt := 82) cx ⟨by decide, by decide⟩ dX12_readText_53 (by decide) (fun c430 => ?_) (fun c430 => ?_)
      · refine q_iconst cx dX12_readText_82 ?_
        refine lv_istore_n (lv' := [(1, .int (q_i 0)), (0, .ref mo)]) cx.1 cx.2.1 dX12_readText_83 rfl hl (by decide) rfl (fun ls hl => ?_)
        refine q_ild_n cx dX12_readText_84 rfl (lv_at hl 0 rfl) ?_
        refine q_ald_n cx dX12_readText_85 rfl (lv_at hl 1 rfl) ?_
        refine q_gX12_20 cx hB hmo kmo z422 dX12_readText_86 (fun hb431 kb431 => ?_)
        refine q_iconst cx dX12_readText_89 ?_
        refine q_iald (lo := 0) (hi := 10) (n := 658) cx hB hsr ksr (by decide) rfl rfl (by decide) (by decide) (by decide) rfl z410 dX12_readText_90 (fun lb433 ub433 => ?_)
        refine q_icge (tgt := 138) cx ⟨by decide, by decide⟩ ⟨by decide, by decide⟩ dX12_readText_91 (by decide) (fun c434 => ?_) (fun c434 => ?_)
        · refine q_ald_n cx dX12_readText_138 rfl (lv_at hl 1 rfl) ?_
          refine q_iconst cx dX12_readText_139 ?_
          refine q_pX12_158 cx hB hmo kmo ⟨by decide, by decide⟩ (by decide) (by decide) rfl dX12_readText_140 (fun H locs f435 ef435 z436 hB => ?_)
          have z437 : q_z f435 mo 22 = 0 := by rw [ef435, q_setz (Or.inr (by decide))]; exact z404
          have z438 : q_z f435 mo 40 = 0 := by rw [ef435, q_setz (Or.inr (by decide))]; exact z405
          have z439 : q_z f435 mo 2 = 0 := by rw [ef435, q_setz (Or.inr (by decide))]; exact z406
          have z440 : q_z f435 mo 6 = 0 := by rw [ef435, q_setz (Or.inr (by decide))]; exact z407
          have z441 : q_z f435 mo 8 = 0 := by rw [ef435, q_setz (Or.inr (by decide))]; exact z408
          have z442 : q_z f435 mo 9 = (-1) := by rw [ef435, q_setz (Or.inr (by decide))]; exact z409
          have z443 : q_z f435 sr 0 = 0 := by rw [ef435, q_setz (Or.inr (by decide))]; exact z410
          have z444 : q_z f435 sr 1 = 0 := by rw [ef435, q_setz (Or.inr (by decide))]; exact z411
          have z445 : q_z f435 sr 2 = 12 := by rw [ef435, q_setz (Or.inr (by decide))]; exact z412
          have z446 : q_z f435 sr 3 = 0 := by rw [ef435, q_setz (Or.inr (by decide))]; exact z413
          have z447 : q_z f435 sr 4 = 0 := by rw [ef435, q_setz (Or.inr (by decide))]; exact z414
          have z448 : q_z f435 sr 8 = 3 := by rw [ef435, q_setz (Or.inr (by decide))]; exact z415
          have z449 : q_z f435 sr 9 = 0 := by rw [ef435, q_setz (Or.inr (by decide))]; exact z416
          have z450 : q_z f435 sr 5 = 1 := by rw [ef435, q_setz (Or.inr (by decide))]; exact z417
          have z451 : q_z f435 sr 6 = 2 := by rw [ef435, q_setz (Or.inr (by decide))]; exact z418
          have z452 : q_z f435 sr 7 = 5 := by rw [ef435, q_setz (Or.inr (by decide))]; exact z419
          have z453 : q_z f435 mo 23 = 0 := by rw [ef435, q_setz (Or.inr (by decide))]; exact z420
          have z454 : q_z f435 mo 0 = 0 := by rw [ef435, q_setz (Or.inr (by decide))]; exact z400
          have z455 : q_z f435 mo 10 = 0 := by rw [ef435, q_setz (Or.inr (by decide))]; exact z401
          have z456 : q_z f435 mo 11 = (-1) := by rw [ef435, q_setz (Or.inr (by decide))]; exact z402
          have z457 : q_r f435 mo 1 = bu := by rw [ef435, q_setr (Or.inr (by decide))]; exact z421
          have z458 : q_r f435 mo 13 = sr := by rw [ef435, q_setr (Or.inr (by decide))]; exact z422
          have z459 : q_r f435 mo 14 = sd := by rw [ef435, q_setr (Or.inr (by decide))]; exact z423
          have z460 : q_r f435 mo 15 = as := by rw [ef435, q_setr (Or.inr (by decide))]; exact z424
          have z461 : q_r f435 mo 16 = aw := by rw [ef435, q_setr (Or.inr (by decide))]; exact z425
          have z462 : q_r f435 mo 17 = pa := by rw [ef435, q_setr (Or.inr (by decide))]; exact z426
          have z463 : q_r f435 mo 18 = nm := by rw [ef435, q_setr (Or.inr (by decide))]; exact z427
          have z464 : q_r f435 mo 19 = snm := by rw [ef435, q_setr (Or.inr (by decide))]; exact z428
          have z465 : q_r f435 mo 20 = anm := by rw [ef435, q_setr (Or.inr (by decide))]; exact z429
          refine q_ald_n cx dX12_readText_143 rfl (lv_at hl 1 rfl) ?_
          refine q_gX12_20 cx hB hmo kmo z458 dX12_readText_144 (fun hb466 kb466 => ?_)
          refine q_iconst cx dX12_readText_147 ?_
          refine q_iald (lo := 0) (hi := 10) (n := 658) cx hB hsr ksr (by decide) rfl rfl (by decide) (by decide) (by decide) rfl z443 dX12_readText_148 (fun lb468 ub468 => ?_)
          refine q_iret cx hr hlk hB dX12_readText_149 ⟨by decide, by decide⟩ ?_
          exact ⟨rfl, z454⟩
        · exact absurd c434 (by omega)
      · exact absurd c430 (by omega)
    · exact absurd c396 (by omega)
set_option maxHeartbeats 4000000 in
set_option maxRecDepth 100000 in
theorem p_runScript (l : Launch) (g : q_G) {K : Nat → Nat} {L : List Nat} (hN : L.Nodup) {f : Nat → va_E} (hT : q_Ty g K L f) (mo : Nat) (hmo : mo ∈ L) (kmo : K mo = 12) (bu : Nat) (hbu : bu ∈ L) (kbu : K bu = 150) (sr : Nat) (hsr : sr ∈ L) (ksr : K sr = 151) (sd : Nat) (hsd : sd ∈ L) (ksd : K sd = 152) (as : Nat) (has : as ∈ L) (kas : K as = 153) (aw : Nat) (haw : aw ∈ L) (kaw : K aw = 154) (pa : Nat) (hpa : pa ∈ L) (kpa : K pa = 155) (nm : Nat) (hnm : nm ∈ L) (knm : K nm = 156) (snm : Nat) (hsnm : snm ∈ L) (ksnm : K snm = 157) (anm : Nat) (hanm : anm ∈ L) (kanm : K anm = 158) (hf0 : q_z f mo 2 = 0) (hf1 : q_z f mo 8 = 0) (hf2 : q_z f mo 9 = (-1)) (hf3 : q_z f mo 10 = 0) (hf4 : q_z f mo 11 = (-1)) (hf5 : q_z f mo 21 = 0) (hf6 : q_z f mo 22 = 0) (hf7 : q_z f mo 40 = 0) (hf8 : q_z f sr 0 = 0) (hf9 : q_z f sr 1 = 0) (hf10 : q_z f sr 2 = 12) (hf11 : q_z f sr 3 = 0) (hf12 : q_z f sr 4 = 0) (hf13 : q_z f sr 5 = 1) (hf14 : q_z f sr 6 = 2) (hf15 : q_z f sr 7 = 5) (hf16 : q_z f sr 8 = 3) (hf17 : q_z f sr 9 = 0) (hr0 : q_r f mo 1 = bu) (hr1 : q_r f mo 13 = sr) (hr2 : q_r f mo 14 = sd) (hr3 : q_r f mo 15 = as) (hr4 : q_r f mo 16 = aw) (hr5 : q_r f mo 17 = pa) (hr6 : q_r f mo 18 = nm) (hr7 : q_r f mo 19 = snm) (hr8 : q_r f mo 20 = anm) : q_Ct l g K L yX12_runScript cX12_runScript 2 (some .int) 3 63 [.ref mo] f [(12, 0, 40), (150, 0, 599), (151, 0, 657), (152, 0, 657), (153, 0, 657), (154, 0, 657), (155, 0, 3947), (156, 0, 9), (157, 0, 9), (158, 0, 9)] (q_Pi (fun (z : Int) (f1 : Nat → va_E) => z = 0 ∧ q_z f1 mo 0 = 0)) := by
  refine q_ofb (by decide +kernel) hN hT (Nat.le_of_ble_eq_true rfl) ?_
  intro p e s m below meth c ls cx hr hlk hB hl
  have hl : lv_has ls 2 [(0, .ref mo)] := hl
  obtain ⟨H, hH⟩ : ∃ H : Heap, H = s.heap := ⟨_, rfl⟩
  obtain ⟨locs, hlocs⟩ : ∃ z : List Loc, z = [] := ⟨_, rfl⟩
  rw [← hH, ← hlocs] at hB
  rw [← hH, ← hlocs]
  refine q_ald_n cx dX12_runScript_0 rfl (lv_at hl 0 rfl) ?_
  refine q_cVv (As := []) (rest := []) cx hB (fun _ h => h) hN hmo kmo (by decide) rfl (r_beginsText0 l g hN hB.2.1 mo hmo kmo hf0) q_cX12_244 q_dX12_beginsText (by decide) rfl rfl hl.1 rfl (Nat.le_of_ble_eq_true rfl) dX12_runScript_1 (fun H locs f246 h248 hF hB => ?_)
  obtain ⟨z249, z250, z251, z252⟩ := h248
  have z253 : q_z f246 mo 10 = 0 := (hF.z hmo (by rw [kmo]; rfl)).trans hf3
  have z254 : q_z f246 mo 11 = (-1) := (hF.z hmo (by rw [kmo]; rfl)).trans hf4
  have z255 : q_z f246 mo 21 = 0 := (hF.z hmo (by rw [kmo]; rfl)).trans hf5
  have z256 : q_z f246 mo 22 = 0 := (hF.z hmo (by rw [kmo]; rfl)).trans hf6
  have z257 : q_z f246 mo 40 = 0 := (hF.z hmo (by rw [kmo]; rfl)).trans hf7
  have z258 : q_z f246 sr 0 = 0 := (hF.z hsr (by rw [ksr]; rfl)).trans hf8
  have z259 : q_z f246 sr 1 = 0 := (hF.z hsr (by rw [ksr]; rfl)).trans hf9
  have z260 : q_z f246 sr 2 = 12 := (hF.z hsr (by rw [ksr]; rfl)).trans hf10
  have z261 : q_z f246 sr 3 = 0 := (hF.z hsr (by rw [ksr]; rfl)).trans hf11
  have z262 : q_z f246 sr 4 = 0 := (hF.z hsr (by rw [ksr]; rfl)).trans hf12
  have z263 : q_z f246 sr 5 = 1 := (hF.z hsr (by rw [ksr]; rfl)).trans hf13
  have z264 : q_z f246 sr 6 = 2 := (hF.z hsr (by rw [ksr]; rfl)).trans hf14
  have z265 : q_z f246 sr 7 = 5 := (hF.z hsr (by rw [ksr]; rfl)).trans hf15
  have z266 : q_z f246 sr 8 = 3 := (hF.z hsr (by rw [ksr]; rfl)).trans hf16
  have z267 : q_z f246 sr 9 = 0 := (hF.z hsr (by rw [ksr]; rfl)).trans hf17
  have z268 : q_r f246 mo 1 = bu := (hF.r hmo (by rw [kmo]; rfl)).trans hr0
  have z269 : q_r f246 mo 13 = sr := (hF.r hmo (by rw [kmo]; rfl)).trans hr1
  have z270 : q_r f246 mo 14 = sd := (hF.r hmo (by rw [kmo]; rfl)).trans hr2
  have z271 : q_r f246 mo 15 = as := (hF.r hmo (by rw [kmo]; rfl)).trans hr3
  have z272 : q_r f246 mo 16 = aw := (hF.r hmo (by rw [kmo]; rfl)).trans hr4
  have z273 : q_r f246 mo 17 = pa := (hF.r hmo (by rw [kmo]; rfl)).trans hr5
  have z274 : q_r f246 mo 18 = nm := (hF.r hmo (by rw [kmo]; rfl)).trans hr6
  have z275 : q_r f246 mo 19 = snm := (hF.r hmo (by rw [kmo]; rfl)).trans hr7
  have z276 : q_r f246 mo 20 = anm := (hF.r hmo (by rw [kmo]; rfl)).trans hr8
  refine q_ald_n cx dX12_runScript_4 rfl (lv_at hl 0 rfl) ?_
  refine q_iconst cx dX12_runScript_5 ?_
  refine q_pX12_494 cx hB hmo kmo ⟨by decide, by decide⟩ (by decide) (by decide) rfl dX12_runScript_6 (fun H locs f277 ef277 z278 hB => ?_)
  have z279 : q_z f277 mo 10 = 0 := by rw [ef277, q_setz (Or.inr (by decide))]; exact z253
  have z280 : q_z f277 mo 11 = (-1) := by rw [ef277, q_setz (Or.inr (by decide))]; exact z254
  have z281 : q_z f277 mo 21 = 0 := by rw [ef277, q_setz (Or.inr (by decide))]; exact z255
  have z282 : q_z f277 mo 22 = 0 := by rw [ef277, q_setz (Or.inr (by decide))]; exact z256
  have z283 : q_z f277 mo 40 = 0 := by rw [ef277, q_setz (Or.inr (by decide))]; exact z257
  have z284 : q_z f277 sr 0 = 0 := by rw [ef277, q_setz (Or.inr (by decide))]; exact z258
  have z285 : q_z f277 sr 1 = 0 := by rw [ef277, q_setz (Or.inr (by decide))]; exact z259
  have z286 : q_z f277 sr 2 = 12 := by rw [ef277, q_setz (Or.inr (by decide))]; exact z260
  have z287 : q_z f277 sr 3 = 0 := by rw [ef277, q_setz (Or.inr (by decide))]; exact z261
  have z288 : q_z f277 sr 4 = 0 := by rw [ef277, q_setz (Or.inr (by decide))]; exact z262
  have z289 : q_z f277 sr 5 = 1 := by rw [ef277, q_setz (Or.inr (by decide))]; exact z263
  have z290 : q_z f277 sr 6 = 2 := by rw [ef277, q_setz (Or.inr (by decide))]; exact z264
  have z291 : q_z f277 sr 7 = 5 := by rw [ef277, q_setz (Or.inr (by decide))]; exact z265
  have z292 : q_z f277 sr 8 = 3 := by rw [ef277, q_setz (Or.inr (by decide))]; exact z266
  have z293 : q_z f277 sr 9 = 0 := by rw [ef277, q_setz (Or.inr (by decide))]; exact z267
  have z294 : q_z f277 mo 2 = 0 := by rw [ef277, q_setz (Or.inr (by decide))]; exact z249
  have z295 : q_z f277 mo 6 = 0 := by rw [ef277, q_setz (Or.inr (by decide))]; exact z250
  have z296 : q_z f277 mo 8 = 0 := by rw [ef277, q_setz (Or.inr (by decide))]; exact z251
  have z297 : q_z f277 mo 9 = (-1) := by rw [ef277, q_setz (Or.inr (by decide))]; exact z252
  have z298 : q_r f277 mo 1 = bu := by rw [ef277, q_setr (Or.inr (by decide))]; exact z268
  have z299 : q_r f277 mo 13 = sr := by rw [ef277, q_setr (Or.inr (by decide))]; exact z269
  have z300 : q_r f277 mo 14 = sd := by rw [ef277, q_setr (Or.inr (by decide))]; exact z270
  have z301 : q_r f277 mo 15 = as := by rw [ef277, q_setr (Or.inr (by decide))]; exact z271
  have z302 : q_r f277 mo 16 = aw := by rw [ef277, q_setr (Or.inr (by decide))]; exact z272
  have z303 : q_r f277 mo 17 = pa := by rw [ef277, q_setr (Or.inr (by decide))]; exact z273
  have z304 : q_r f277 mo 18 = nm := by rw [ef277, q_setr (Or.inr (by decide))]; exact z274
  have z305 : q_r f277 mo 19 = snm := by rw [ef277, q_setr (Or.inr (by decide))]; exact z275
  have z306 : q_r f277 mo 20 = anm := by rw [ef277, q_setr (Or.inr (by decide))]; exact z276
  refine q_ald_n cx dX12_runScript_9 rfl (lv_at hl 0 rfl) ?_
  refine q_iconst cx dX12_runScript_10 ?_
  refine q_pX12_491 cx hB hmo kmo ⟨by decide, by decide⟩ (by decide) (by decide) rfl dX12_runScript_11 (fun H locs f307 ef307 z308 hB => ?_)
  have z309 : q_z f307 mo 10 = 0 := by rw [ef307, q_setz (Or.inr (by decide))]; exact z279
  have z310 : q_z f307 mo 11 = (-1) := by rw [ef307, q_setz (Or.inr (by decide))]; exact z280
  have z311 : q_z f307 mo 21 = 0 := by rw [ef307, q_setz (Or.inr (by decide))]; exact z281
  have z312 : q_z f307 mo 22 = 0 := by rw [ef307, q_setz (Or.inr (by decide))]; exact z282
  have z313 : q_z f307 mo 40 = 0 := by rw [ef307, q_setz (Or.inr (by decide))]; exact z283
  have z314 : q_z f307 sr 0 = 0 := by rw [ef307, q_setz (Or.inr (by decide))]; exact z284
  have z315 : q_z f307 sr 1 = 0 := by rw [ef307, q_setz (Or.inr (by decide))]; exact z285
  have z316 : q_z f307 sr 2 = 12 := by rw [ef307, q_setz (Or.inr (by decide))]; exact z286
  have z317 : q_z f307 sr 3 = 0 := by rw [ef307, q_setz (Or.inr (by decide))]; exact z287
  have z318 : q_z f307 sr 4 = 0 := by rw [ef307, q_setz (Or.inr (by decide))]; exact z288
  have z319 : q_z f307 sr 5 = 1 := by rw [ef307, q_setz (Or.inr (by decide))]; exact z289
  have z320 : q_z f307 sr 6 = 2 := by rw [ef307, q_setz (Or.inr (by decide))]; exact z290
  have z321 : q_z f307 sr 7 = 5 := by rw [ef307, q_setz (Or.inr (by decide))]; exact z291
  have z322 : q_z f307 sr 8 = 3 := by rw [ef307, q_setz (Or.inr (by decide))]; exact z292
  have z323 : q_z f307 sr 9 = 0 := by rw [ef307, q_setz (Or.inr (by decide))]; exact z293
  have z324 : q_z f307 mo 2 = 0 := by rw [ef307, q_setz (Or.inr (by decide))]; exact z294
  have z325 : q_z f307 mo 6 = 0 := by rw [ef307, q_setz (Or.inr (by decide))]; exact z295
  have z326 : q_z f307 mo 8 = 0 := by rw [ef307, q_setz (Or.inr (by decide))]; exact z296
  have z327 : q_z f307 mo 9 = (-1) := by rw [ef307, q_setz (Or.inr (by decide))]; exact z297
  have z328 : q_z f307 mo 35 = 0 := by rw [ef307, q_setz (Or.inr (by decide))]; exact z278
  have z329 : q_r f307 mo 1 = bu := by rw [ef307, q_setr (Or.inr (by decide))]; exact z298
  have z330 : q_r f307 mo 13 = sr := by rw [ef307, q_setr (Or.inr (by decide))]; exact z299
  have z331 : q_r f307 mo 14 = sd := by rw [ef307, q_setr (Or.inr (by decide))]; exact z300
  have z332 : q_r f307 mo 15 = as := by rw [ef307, q_setr (Or.inr (by decide))]; exact z301
  have z333 : q_r f307 mo 16 = aw := by rw [ef307, q_setr (Or.inr (by decide))]; exact z302
  have z334 : q_r f307 mo 17 = pa := by rw [ef307, q_setr (Or.inr (by decide))]; exact z303
  have z335 : q_r f307 mo 18 = nm := by rw [ef307, q_setr (Or.inr (by decide))]; exact z304
  have z336 : q_r f307 mo 19 = snm := by rw [ef307, q_setr (Or.inr (by decide))]; exact z305
  have z337 : q_r f307 mo 20 = anm := by rw [ef307, q_setr (Or.inr (by decide))]; exact z306
  refine q_ald_n cx dX12_runScript_14 rfl (lv_at hl 0 rfl) ?_
  refine q_iconst cx dX12_runScript_15 ?_
  refine q_pX12_488 cx hB hmo kmo ⟨by decide, by decide⟩ (by decide) (by decide) rfl dX12_runScript_16 (fun H locs f338 ef338 z339 hB => ?_)
  have z340 : q_z f338 mo 10 = 0 := by rw [ef338, q_setz (Or.inr (by decide))]; exact z309
  have z341 : q_z f338 mo 11 = (-1) := by rw [ef338, q_setz (Or.inr (by decide))]; exact z310
  have z342 : q_z f338 mo 21 = 0 := by rw [ef338, q_setz (Or.inr (by decide))]; exact z311
  have z343 : q_z f338 mo 22 = 0 := by rw [ef338, q_setz (Or.inr (by decide))]; exact z312
  have z344 : q_z f338 mo 40 = 0 := by rw [ef338, q_setz (Or.inr (by decide))]; exact z313
  have z345 : q_z f338 sr 0 = 0 := by rw [ef338, q_setz (Or.inr (by decide))]; exact z314
  have z346 : q_z f338 sr 1 = 0 := by rw [ef338, q_setz (Or.inr (by decide))]; exact z315
  have z347 : q_z f338 sr 2 = 12 := by rw [ef338, q_setz (Or.inr (by decide))]; exact z316
  have z348 : q_z f338 sr 3 = 0 := by rw [ef338, q_setz (Or.inr (by decide))]; exact z317
  have z349 : q_z f338 sr 4 = 0 := by rw [ef338, q_setz (Or.inr (by decide))]; exact z318
  have z350 : q_z f338 sr 5 = 1 := by rw [ef338, q_setz (Or.inr (by decide))]; exact z319
  have z351 : q_z f338 sr 6 = 2 := by rw [ef338, q_setz (Or.inr (by decide))]; exact z320
  have z352 : q_z f338 sr 7 = 5 := by rw [ef338, q_setz (Or.inr (by decide))]; exact z321
  have z353 : q_z f338 sr 8 = 3 := by rw [ef338, q_setz (Or.inr (by decide))]; exact z322
  have z354 : q_z f338 sr 9 = 0 := by rw [ef338, q_setz (Or.inr (by decide))]; exact z323
  have z355 : q_z f338 mo 2 = 0 := by rw [ef338, q_setz (Or.inr (by decide))]; exact z324
  have z356 : q_z f338 mo 6 = 0 := by rw [ef338, q_setz (Or.inr (by decide))]; exact z325
  have z357 : q_z f338 mo 8 = 0 := by rw [ef338, q_setz (Or.inr (by decide))]; exact z326
  have z358 : q_z f338 mo 9 = (-1) := by rw [ef338, q_setz (Or.inr (by decide))]; exact z327
  have z359 : q_z f338 mo 35 = 0 := by rw [ef338, q_setz (Or.inr (by decide))]; exact z328
  have z360 : q_z f338 mo 36 = 0 := by rw [ef338, q_setz (Or.inr (by decide))]; exact z308
  have z361 : q_r f338 mo 1 = bu := by rw [ef338, q_setr (Or.inr (by decide))]; exact z329
  have z362 : q_r f338 mo 13 = sr := by rw [ef338, q_setr (Or.inr (by decide))]; exact z330
  have z363 : q_r f338 mo 14 = sd := by rw [ef338, q_setr (Or.inr (by decide))]; exact z331
  have z364 : q_r f338 mo 15 = as := by rw [ef338, q_setr (Or.inr (by decide))]; exact z332
  have z365 : q_r f338 mo 16 = aw := by rw [ef338, q_setr (Or.inr (by decide))]; exact z333
  have z366 : q_r f338 mo 17 = pa := by rw [ef338, q_setr (Or.inr (by decide))]; exact z334
  have z367 : q_r f338 mo 18 = nm := by rw [ef338, q_setr (Or.inr (by decide))]; exact z335
  have z368 : q_r f338 mo 19 = snm := by rw [ef338, q_setr (Or.inr (by decide))]; exact z336
  have z369 : q_r f338 mo 20 = anm := by rw [ef338, q_setr (Or.inr (by decide))]; exact z337
  refine q_ald_n cx dX12_runScript_19 rfl (lv_at hl 0 rfl) ?_
  refine q_cVi (As := []) (rest := []) cx hB (fun _ h => h) hN hmo kmo (by decide) rfl (r_isGood0 l g hN hB.2.1 mo hmo kmo z357) q_cX12_130 q_dX12_isGood (by decide) rfl rfl hl.1 rfl (Nat.le_of_ble_eq_true rfl) dX12_runScript_20 (fun y371 H locs f370 ry371 h372 hF hB => ?_)
  obtain ⟨rfl, qy371⟩ := h372
  subst qy371
  refine q_ifeq (tgt := 63) cx ⟨by decide, by decide⟩ dX12_runScript_23 (by decide) (fun c373 => ?_) (fun c373 => ?_)
  · exact absurd c373 (by omega)
  · refine q_ald_n cx dX12_runScript_26 rfl (lv_at hl 0 rfl) ?_
    refine q_gX12_117 cx hB hmo kmo z356 dX12_runScript_27 (fun lb374 ub374 => ?_)
    refine q_ifeq (tgt := 63) cx ⟨by decide, by decide⟩ dX12_runScript_30 (by decide) (fun c375 => ?_) (fun c375 => ?_)
    · refine q_ald_n cx dX12_runScript_63 rfl (lv_at hl 0 rfl) ?_
      refine q_cVi (As := []) (rest := []) cx hB (fun _ h => h) hN hmo kmo (by decide) rfl (r_isGood0 l g hN hB.2.1 mo hmo kmo z357) q_cX12_130 q_dX12_isGood (by decide) rfl rfl hl.1 rfl (Nat.le_of_ble_eq_true rfl) dX12_runScript_64 (fun y377 H locs f376 ry377 h378 hF hB => ?_)
      obtain ⟨rfl, qy377⟩ := h378
      subst qy377
      refine q_ifeq (tgt := 82) cx ⟨by decide, by decide⟩ dX12_runScript_67 (by decide) (fun c379 => ?_) (fun c379 => ?_)
      · exact absurd c379 (by omega)
      · refine q_ald_n cx dX12_runScript_70 rfl (lv_at hl 0 rfl) ?_
        refine q_gX12_488 cx hB hmo kmo z339 dX12_runScript_71 (fun lb380 ub380 => ?_)
        refine q_ifle (tgt := 82) cx ⟨by decide, by decide⟩ dX12_runScript_74 (by decide) (fun c381 => ?_) (fun c381 => ?_)
        · refine q_ald_n cx dX12_runScript_82 rfl (lv_at hl 0 rfl) ?_
          refine q_cVi (As := []) (rest := []) cx hB (fun _ h => h) hN hmo kmo (by decide) rfl (r_endsText0 l g hN hB.2.1 mo hmo kmo z357 z358) q_cX12_253 q_dX12_endsText (by decide) rfl rfl hl.1 rfl (Nat.le_of_ble_eq_true rfl) dX12_runScript_83 (fun y383 H locs f382 ry383 h384 hF hB => ?_)
          obtain ⟨qy383, z385, z386, z387⟩ := h384
          have z388 : q_z f382 mo 21 = 0 := (hF.z hmo (by rw [kmo]; rfl)).trans z342
          have z389 : q_z f382 mo 22 = 0 := (hF.z hmo (by rw [kmo]; rfl)).trans z343
          have z390 : q_z f382 mo 40 = 0 := (hF.z hmo (by rw [kmo]; rfl)).trans z344
          have z391 : q_z f382 sr 0 = 0 := (hF.z hsr (by rw [ksr]; rfl)).trans z345
          have z392 : q_z f382 sr 1 = 0 := (hF.z hsr (by rw [ksr]; rfl)).trans z346
          have z393 : q_z f382 sr 2 = 12 := (hF.z hsr (by rw [ksr]; rfl)).trans z347
          have z394 : q_z f382 sr 3 = 0 := (hF.z hsr (by rw [ksr]; rfl)).trans z348
          have z395 : q_z f382 sr 4 = 0 := (hF.z hsr (by rw [ksr]; rfl)).trans z349
          have z396 : q_z f382 sr 5 = 1 := (hF.z hsr (by rw [ksr]; rfl)).trans z350
          have z397 : q_z f382 sr 6 = 2 := (hF.z hsr (by rw [ksr]; rfl)).trans z351
          have z398 : q_z f382 sr 7 = 5 := (hF.z hsr (by rw [ksr]; rfl)).trans z352
          have z399 : q_z f382 sr 8 = 3 := (hF.z hsr (by rw [ksr]; rfl)).trans z353
          have z400 : q_z f382 sr 9 = 0 := (hF.z hsr (by rw [ksr]; rfl)).trans z354
          have z401 : q_z f382 mo 2 = 0 := (hF.z hmo (by rw [kmo]; rfl)).trans z355
          have z402 : q_z f382 mo 6 = 0 := (hF.z hmo (by rw [kmo]; rfl)).trans z356
          have z403 : q_z f382 mo 8 = 0 := (hF.z hmo (by rw [kmo]; rfl)).trans z357
          have z404 : q_z f382 mo 9 = (-1) := (hF.z hmo (by rw [kmo]; rfl)).trans z358
          have z405 : q_z f382 mo 35 = 0 := (hF.z hmo (by rw [kmo]; rfl)).trans z359
          have z406 : q_z f382 mo 36 = 0 := (hF.z hmo (by rw [kmo]; rfl)).trans z360
          have z407 : q_z f382 mo 37 = 0 := (hF.z hmo (by rw [kmo]; rfl)).trans z339
          have z408 : q_r f382 mo 1 = bu := (hF.r hmo (by rw [kmo]; rfl)).trans z361
          have z409 : q_r f382 mo 13 = sr := (hF.r hmo (by rw [kmo]; rfl)).trans z362
          have z410 : q_r f382 mo 14 = sd := (hF.r hmo (by rw [kmo]; rfl)).trans z363
          have z411 : q_r f382 mo 15 = as := (hF.r hmo (by rw [kmo]; rfl)).trans z364
          have z412 : q_r f382 mo 16 = aw := (hF.r hmo (by rw [kmo]; rfl)).trans z365
          have z413 : q_r f382 mo 17 = pa := (hF.r hmo (by rw [kmo]; rfl)).trans z366
          have z414 : q_r f382 mo 18 = nm := (hF.r hmo (by rw [kmo]; rfl)).trans z367
          have z415 : q_r f382 mo 19 = snm := (hF.r hmo (by rw [kmo]; rfl)).trans z368
          have z416 : q_r f382 mo 20 = anm := (hF.r hmo (by rw [kmo]; rfl)).trans z369
          subst qy383
          refine q_ifne (tgt := 91) cx ⟨by decide, by decide⟩ dX12_runScript_86 (by decide) (fun c417 => ?_) (fun c417 => ?_)
          · refine q_ald_n cx dX12_runScript_91 rfl (lv_at hl 0 rfl) ?_
            refine q_cVv (As := []) (rest := []) cx hB (fun _ h => h) hN hmo kmo (by decide) rfl (r_laysAside l g hN hB.2.1 mo hmo kmo sr hsr ksr as has kas z409 z411) q_cX12_247 q_dX12_laysAside (by decide) rfl rfl hl.1 rfl (Nat.le_of_ble_eq_true rfl) dX12_runScript_92 (fun H locs f418 h420 hF hB => ?_)
            have z421 : q_z f418 mo 21 = 0 := (hF.z hmo (by rw [kmo]; rfl)).trans z388
            have z422 : q_z f418 mo 22 = 0 := (hF.z hmo (by rw [kmo]; rfl)).trans z389
            have z423 : q_z f418 mo 40 = 0 := (hF.z hmo (by rw [kmo]; rfl)).trans z390
            have z424 : q_z f418 sr 0 = 0 := (hF.z hsr (by rw [ksr]; rfl)).trans z391
            have z425 : q_z f418 sr 1 = 0 := (hF.z hsr (by rw [ksr]; rfl)).trans z392
            have z426 : q_z f418 sr 2 = 12 := (hF.z hsr (by rw [ksr]; rfl)).trans z393
            have z427 : q_z f418 sr 3 = 0 := (hF.z hsr (by rw [ksr]; rfl)).trans z394
            have z428 : q_z f418 sr 4 = 0 := (hF.z hsr (by rw [ksr]; rfl)).trans z395
            have z429 : q_z f418 sr 5 = 1 := (hF.z hsr (by rw [ksr]; rfl)).trans z396
            have z430 : q_z f418 sr 6 = 2 := (hF.z hsr (by rw [ksr]; rfl)).trans z397
            have z431 : q_z f418 sr 7 = 5 := (hF.z hsr (by rw [ksr]; rfl)).trans z398
            have z432 : q_z f418 sr 8 = 3 := (hF.z hsr (by rw [ksr]; rfl)).trans z399
            have z433 : q_z f418 sr 9 = 0 := (hF.z hsr (by rw [ksr]; rfl)).trans z400
            have z434 : q_z f418 mo 2 = 0 := (hF.z hmo (by rw [kmo]; rfl)).trans z401
            have z435 : q_z f418 mo 6 = 0 := (hF.z hmo (by rw [kmo]; rfl)).trans z402
            have z436 : q_z f418 mo 8 = 0 := (hF.z hmo (by rw [kmo]; rfl)).trans z403
            have z437 : q_z f418 mo 9 = (-1) := (hF.z hmo (by rw [kmo]; rfl)).trans z404
            have z438 : q_z f418 mo 35 = 0 := (hF.z hmo (by rw [kmo]; rfl)).trans z405
            have z439 : q_z f418 mo 36 = 0 := (hF.z hmo (by rw [kmo]; rfl)).trans z406
            have z440 : q_z f418 mo 37 = 0 := (hF.z hmo (by rw [kmo]; rfl)).trans z407
            have z441 : q_z f418 mo 0 = 0 := (hF.z hmo (by rw [kmo]; rfl)).trans z385
            have z442 : q_z f418 mo 10 = 0 := (hF.z hmo (by rw [kmo]; rfl)).trans z386
            have z443 : q_z f418 mo 11 = (-1) := (hF.z hmo (by rw [kmo]; rfl)).trans z387
            have z444 : q_r f418 mo 1 = bu := (hF.r hmo (by rw [kmo]; rfl)).trans z408
            have z445 : q_r f418 mo 13 = sr := (hF.r hmo (by rw [kmo]; rfl)).trans z409
            have z446 : q_r f418 mo 14 = sd := (hF.r hmo (by rw [kmo]; rfl)).trans z410
            have z447 : q_r f418 mo 15 = as := (hF.r hmo (by rw [kmo]; rfl)).trans z411
            have z448 : q_r f418 mo 16 = aw := (hF.r hmo (by rw [kmo]; rfl)).trans z412
            have z449 : q_r f418 mo 17 = pa := (hF.r hmo (by rw [kmo]; rfl)).trans z413
            have z450 : q_r f418 mo 18 = nm := (hF.r hmo (by rw [kmo]; rfl)).trans z414
            have z451 : q_r f418 mo 19 = snm := (hF.r hmo (by rw [kmo]; rfl)).trans z415
            have z452 : q_r f418 mo 20 = anm := (hF.r hmo (by rw [kmo]; rfl)).trans z416
            refine q_ald_n cx dX12_runScript_95 rfl (lv_at hl 0 rfl) ?_
            refine q_cVi (As := []) (rest := []) cx hB (fun _ h => h) hN hmo kmo (by decide) rfl (r_runs0 l g hN hB.2.1 mo hmo kmo z438) q_cX12_506 q_dX12_runs (by decide) rfl rfl hl.1 rfl (Nat.le_of_ble_eq_true rfl) dX12_runScript_96 (fun y454 H locs f453 ry454 h455 hF hB => ?_)
            obtain ⟨rfl, qy454⟩ := h455
            subst qy454
            refine lv_istore_n (lv' := [(1, .int (q_i 0)), (0, .ref mo)]) cx.1 cx.2.1 dX12_runScript_99 rfl hl (by decide) rfl (fun ls hl => ?_)
            refine q_ald_n cx dX12_runScript_100 rfl (lv_at hl 1 rfl) ?_
            refine q_cVv (As := []) (rest := []) cx hB (fun _ h => h) hN hmo kmo (by decide) rfl (r_keeps0 l g hN hB.2.1 mo hmo kmo as has kas pa hpa kpa z421 z447 z449) q_cX12_161 q_dX12_keeps (by decide) rfl rfl hl.1 rfl (Nat.le_of_ble_eq_true rfl) dX12_runScript_101 (fun H locs f456 h458 hF hB => ?_)
            have z459 := h458
            have z460 : q_z f456 mo 22 = 0 := (hF.z hmo (by rw [kmo]; rfl)).trans z422
            have z461 : q_z f456 mo 40 = 0 := (hF.z hmo (by rw [kmo]; rfl)).trans z423
            have z462 : q_z f456 sr 0 = 0 := (hF.z hsr (by rw [ksr]; rfl)).trans z424
            have z463 : q_z f456 sr 1 = 0 := (hF.z hsr (by rw [ksr]; rfl)).trans z425
            have z464 : q_z f456 sr 2 = 12 := (hF.z hsr (by rw [ksr]; rfl)).trans z426
            have z465 : q_z f456 sr 3 = 0 := (hF.z hsr (by rw [ksr]; rfl)).trans z427
            have z466 : q_z f456 sr 4 = 0 := (hF.z hsr (by rw [ksr]; rfl)).trans z428
            have z467 : q_z f456 sr 5 = 1 := (hF.z hsr (by rw [ksr]; rfl)).trans z429
            have z468 : q_z f456 sr 6 = 2 := (hF.z hsr (by rw [ksr]; rfl)).trans z430
            have z469 : q_z f456 sr 7 = 5 := (hF.z hsr (by rw [ksr]; rfl)).trans z431
            have z470 : q_z f456 sr 8 = 3 := (hF.z hsr (by rw [ksr]; rfl)).trans z432
            have z471 : q_z f456 sr 9 = 0 := (hF.z hsr (by rw [ksr]; rfl)).trans z433
            have z472 : q_z f456 mo 2 = 0 := (hF.z hmo (by rw [kmo]; rfl)).trans z434
            have z473 : q_z f456 mo 6 = 0 := (hF.z hmo (by rw [kmo]; rfl)).trans z435
            have z474 : q_z f456 mo 8 = 0 := (hF.z hmo (by rw [kmo]; rfl)).trans z436
            have z475 : q_z f456 mo 9 = (-1) := (hF.z hmo (by rw [kmo]; rfl)).trans z437
            have z476 : q_z f456 mo 35 = 0 := (hF.z hmo (by rw [kmo]; rfl)).trans z438
            have z477 : q_z f456 mo 36 = 0 := (hF.z hmo (by rw [kmo]; rfl)).trans z439
            have z478 : q_z f456 mo 37 = 0 := (hF.z hmo (by rw [kmo]; rfl)).trans z440
            have z479 : q_z f456 mo 0 = 0 := (hF.z hmo (by rw [kmo]; rfl)).trans z441
            have z480 : q_z f456 mo 10 = 0 := (hF.z hmo (by rw [kmo]; rfl)).trans z442
            have z481 : q_z f456 mo 11 = (-1) := (hF.z hmo (by rw [kmo]; rfl)).trans z443
            have z482 : q_r f456 mo 1 = bu := (hF.r hmo (by rw [kmo]; rfl)).trans z444
            have z483 : q_r f456 mo 13 = sr := (hF.r hmo (by rw [kmo]; rfl)).trans z445
            have z484 : q_r f456 mo 14 = sd := (hF.r hmo (by rw [kmo]; rfl)).trans z446
            have z485 : q_r f456 mo 15 = as := (hF.r hmo (by rw [kmo]; rfl)).trans z447
            have z486 : q_r f456 mo 16 = aw := (hF.r hmo (by rw [kmo]; rfl)).trans z448
            have z487 : q_r f456 mo 17 = pa := (hF.r hmo (by rw [kmo]; rfl)).trans z449
            have z488 : q_r f456 mo 18 = nm := (hF.r hmo (by rw [kmo]; rfl)).trans z450
            have z489 : q_r f456 mo 19 = snm := (hF.r hmo (by rw [kmo]; rfl)).trans z451
            have z490 : q_r f456 mo 20 = anm := (hF.r hmo (by rw [kmo]; rfl)).trans z452
            refine q_ild_n cx dX12_runScript_104 rfl (lv_at hl 0 rfl) ?_
            refine q_iret cx hr hlk hB dX12_runScript_105 ⟨by decide, by decide⟩ ?_
            exact ⟨rfl, z479⟩
          · exact absurd c417 (by omega)
        · exact absurd c381 (by omega)
    · exact absurd c375 (by omega)
set_option maxHeartbeats 4000000 in
set_option maxRecDepth 100000 in
theorem p_errorCode (l : Launch) (g : q_G) {K : Nat → Nat} {L : List Nat} (hN : L.Nodup) {f : Nat → va_E} (hT : q_Ty g K L f) (mo : Nat) (hmo : mo ∈ L) (kmo : K mo = 12) (bu : Nat) (hbu : bu ∈ L) (kbu : K bu = 150) (sr : Nat) (hsr : sr ∈ L) (ksr : K sr = 151) (sd : Nat) (hsd : sd ∈ L) (ksd : K sd = 152) (as : Nat) (has : as ∈ L) (kas : K as = 153) (aw : Nat) (haw : aw ∈ L) (kaw : K aw = 154) (pa : Nat) (hpa : pa ∈ L) (kpa : K pa = 155) (nm : Nat) (hnm : nm ∈ L) (knm : K nm = 156) (snm : Nat) (hsnm : snm ∈ L) (ksnm : K snm = 157) (anm : Nat) (hanm : anm ∈ L) (kanm : K anm = 158) (hf0 : q_z f mo 2 = 0) (hf1 : q_z f mo 8 = 0) (hf2 : q_z f mo 9 = (-1)) (hf3 : q_z f mo 10 = 0) (hf4 : q_z f mo 11 = (-1)) (hf5 : q_z f mo 21 = 0) (hf6 : q_z f mo 22 = 0) (hf7 : q_z f mo 40 = 0) (hf8 : q_z f sr 0 = 0) (hf9 : q_z f sr 1 = 0) (hf10 : q_z f sr 2 = 12) (hf11 : q_z f sr 3 = 0) (hf12 : q_z f sr 4 = 0) (hf13 : q_z f sr 5 = 1) (hf14 : q_z f sr 6 = 2) (hf15 : q_z f sr 7 = 5) (hf16 : q_z f sr 8 = 3) (hf17 : q_z f sr 9 = 0) (hr0 : q_r f mo 1 = bu) (hr1 : q_r f mo 13 = sr) (hr2 : q_r f mo 14 = sd) (hr3 : q_r f mo 15 = as) (hr4 : q_r f mo 16 = aw) (hr5 : q_r f mo 17 = pa) (hr6 : q_r f mo 18 = nm) (hr7 : q_r f mo 19 = snm) (hr8 : q_r f mo 20 = anm) : q_Ct l g K L yX12_errorCode cX12_errorCode 1 (some .int) 0 0 [.ref mo] f [(12, 0, 40), (150, 0, 599), (151, 0, 657), (152, 0, 657), (153, 0, 657), (154, 0, 657), (155, 0, 3947), (156, 0, 9), (157, 0, 9), (158, 0, 9)] (q_Pi (fun (z : Int) (f1 : Nat → va_E) => z = 0 ∧ q_z f1 mo 0 = 0)) := by
  refine q_ofb (by decide +kernel) hN hT (Nat.le_of_ble_eq_true rfl) ?_
  intro p e s m below meth c ls cx hr hlk hB hl
  have hl : lv_has ls 1 [(0, .ref mo)] := hl
  obtain ⟨H, hH⟩ : ∃ H : Heap, H = s.heap := ⟨_, rfl⟩
  obtain ⟨locs, hlocs⟩ : ∃ z : List Loc, z = [] := ⟨_, rfl⟩
  rw [← hH, ← hlocs] at hB
  rw [← hH, ← hlocs]
  refine q_ald_n cx dX12_errorCode_0 rfl (lv_at hl 0 rfl) ?_
  refine q_iconst cx dX12_errorCode_1 ?_
  refine q_pX12_75 cx hB hmo kmo ⟨by decide, by decide⟩ (by decide) (by decide) rfl dX12_errorCode_2 (fun H locs f31 ef31 z32 hB => ?_)
  have z33 : q_z f31 mo 2 = 0 := by rw [ef31, q_setz (Or.inr (by decide))]; exact hf0
  have z34 : q_z f31 mo 8 = 0 := by rw [ef31, q_setz (Or.inr (by decide))]; exact hf1
  have z35 : q_z f31 mo 9 = (-1) := by rw [ef31, q_setz (Or.inr (by decide))]; exact hf2
  have z36 : q_z f31 mo 10 = 0 := by rw [ef31, q_setz (Or.inr (by decide))]; exact hf3
  have z37 : q_z f31 mo 11 = (-1) := by rw [ef31, q_setz (Or.inr (by decide))]; exact hf4
  have z38 : q_z f31 mo 21 = 0 := by rw [ef31, q_setz (Or.inr (by decide))]; exact hf5
  have z39 : q_z f31 mo 22 = 0 := by rw [ef31, q_setz (Or.inr (by decide))]; exact hf6
  have z40 : q_z f31 mo 40 = 0 := by rw [ef31, q_setz (Or.inr (by decide))]; exact hf7
  have z41 : q_z f31 sr 0 = 0 := by rw [ef31, q_setz (Or.inl (fun q => by rw [q, kmo] at ksr; exact absurd ksr (by decide)))]; exact hf8
  have z42 : q_z f31 sr 1 = 0 := by rw [ef31, q_setz (Or.inr (by decide))]; exact hf9
  have z43 : q_z f31 sr 2 = 12 := by rw [ef31, q_setz (Or.inr (by decide))]; exact hf10
  have z44 : q_z f31 sr 3 = 0 := by rw [ef31, q_setz (Or.inr (by decide))]; exact hf11
  have z45 : q_z f31 sr 4 = 0 := by rw [ef31, q_setz (Or.inr (by decide))]; exact hf12
  have z46 : q_z f31 sr 5 = 1 := by rw [ef31, q_setz (Or.inr (by decide))]; exact hf13
  have z47 : q_z f31 sr 6 = 2 := by rw [ef31, q_setz (Or.inr (by decide))]; exact hf14
  have z48 : q_z f31 sr 7 = 5 := by rw [ef31, q_setz (Or.inr (by decide))]; exact hf15
  have z49 : q_z f31 sr 8 = 3 := by rw [ef31, q_setz (Or.inr (by decide))]; exact hf16
  have z50 : q_z f31 sr 9 = 0 := by rw [ef31, q_setz (Or.inr (by decide))]; exact hf17
  have z51 : q_r f31 mo 1 = bu := by rw [ef31, q_setr (Or.inr (by decide))]; exact hr0
  have z52 : q_r f31 mo 13 = sr := by rw [ef31, q_setr (Or.inr (by decide))]; exact hr1
  have z53 : q_r f31 mo 14 = sd := by rw [ef31, q_setr (Or.inr (by decide))]; exact hr2
  have z54 : q_r f31 mo 15 = as := by rw [ef31, q_setr (Or.inr (by decide))]; exact hr3
  have z55 : q_r f31 mo 16 = aw := by rw [ef31, q_setr (Or.inr (by decide))]; exact hr4
  have z56 : q_r f31 mo 17 = pa := by rw [ef31, q_setr (Or.inr (by decide))]; exact hr5
  have z57 : q_r f31 mo 18 = nm := by rw [ef31, q_setr (Or.inr (by decide))]; exact hr6
  have z58 : q_r f31 mo 19 = snm := by rw [ef31, q_setr (Or.inr (by decide))]; exact hr7
  have z59 : q_r f31 mo 20 = anm := by rw [ef31, q_setr (Or.inr (by decide))]; exact hr8
  refine q_ald_n cx dX12_errorCode_5 rfl (lv_at hl 0 rfl) ?_
  refine q_gX12_151 cx hB hmo kmo z36 dX12_errorCode_6 (fun lb60 ub60 => ?_)
  refine q_iret cx hr hlk hB dX12_errorCode_9 ⟨by decide, by decide⟩ ?_
  exact ⟨rfl, z32⟩
set_option maxHeartbeats 4000000 in
set_option maxRecDepth 100000 in
theorem p_errorPosition (l : Launch) (g : q_G) {K : Nat → Nat} {L : List Nat} (hN : L.Nodup) {f : Nat → va_E} (hT : q_Ty g K L f) (mo : Nat) (hmo : mo ∈ L) (kmo : K mo = 12) (bu : Nat) (hbu : bu ∈ L) (kbu : K bu = 150) (sr : Nat) (hsr : sr ∈ L) (ksr : K sr = 151) (sd : Nat) (hsd : sd ∈ L) (ksd : K sd = 152) (as : Nat) (has : as ∈ L) (kas : K as = 153) (aw : Nat) (haw : aw ∈ L) (kaw : K aw = 154) (pa : Nat) (hpa : pa ∈ L) (kpa : K pa = 155) (nm : Nat) (hnm : nm ∈ L) (knm : K nm = 156) (snm : Nat) (hsnm : snm ∈ L) (ksnm : K snm = 157) (anm : Nat) (hanm : anm ∈ L) (kanm : K anm = 158) (hf0 : q_z f mo 2 = 0) (hf1 : q_z f mo 8 = 0) (hf2 : q_z f mo 9 = (-1)) (hf3 : q_z f mo 10 = 0) (hf4 : q_z f mo 11 = (-1)) (hf5 : q_z f mo 21 = 0) (hf6 : q_z f mo 22 = 0) (hf7 : q_z f mo 40 = 0) (hf8 : q_z f sr 0 = 0) (hf9 : q_z f sr 1 = 0) (hf10 : q_z f sr 2 = 12) (hf11 : q_z f sr 3 = 0) (hf12 : q_z f sr 4 = 0) (hf13 : q_z f sr 5 = 1) (hf14 : q_z f sr 6 = 2) (hf15 : q_z f sr 7 = 5) (hf16 : q_z f sr 8 = 3) (hf17 : q_z f sr 9 = 0) (hr0 : q_r f mo 1 = bu) (hr1 : q_r f mo 13 = sr) (hr2 : q_r f mo 14 = sd) (hr3 : q_r f mo 15 = as) (hr4 : q_r f mo 16 = aw) (hr5 : q_r f mo 17 = pa) (hr6 : q_r f mo 18 = nm) (hr7 : q_r f mo 19 = snm) (hr8 : q_r f mo 20 = anm) : q_Ct l g K L yX12_errorPosition cX12_errorPosition 1 (some .int) 0 0 [.ref mo] f [(12, 0, 40), (150, 0, 599), (151, 0, 657), (152, 0, 657), (153, 0, 657), (154, 0, 657), (155, 0, 3947), (156, 0, 9), (157, 0, 9), (158, 0, 9)] (q_Pi (fun (z : Int) (f1 : Nat → va_E) => z = (-1) ∧ q_z f1 mo 0 = 0)) := by
  refine q_ofb (by decide +kernel) hN hT (Nat.le_of_ble_eq_true rfl) ?_
  intro p e s m below meth c ls cx hr hlk hB hl
  have hl : lv_has ls 1 [(0, .ref mo)] := hl
  obtain ⟨H, hH⟩ : ∃ H : Heap, H = s.heap := ⟨_, rfl⟩
  obtain ⟨locs, hlocs⟩ : ∃ z : List Loc, z = [] := ⟨_, rfl⟩
  rw [← hH, ← hlocs] at hB
  rw [← hH, ← hlocs]
  refine q_ald_n cx dX12_errorPosition_0 rfl (lv_at hl 0 rfl) ?_
  refine q_iconst cx dX12_errorPosition_1 ?_
  refine q_pX12_75 cx hB hmo kmo ⟨by decide, by decide⟩ (by decide) (by decide) rfl dX12_errorPosition_2 (fun H locs f31 ef31 z32 hB => ?_)
  have z33 : q_z f31 mo 2 = 0 := by rw [ef31, q_setz (Or.inr (by decide))]; exact hf0
  have z34 : q_z f31 mo 8 = 0 := by rw [ef31, q_setz (Or.inr (by decide))]; exact hf1
  have z35 : q_z f31 mo 9 = (-1) := by rw [ef31, q_setz (Or.inr (by decide))]; exact hf2
  have z36 : q_z f31 mo 10 = 0 := by rw [ef31, q_setz (Or.inr (by decide))]; exact hf3
  have z37 : q_z f31 mo 11 = (-1) := by rw [ef31, q_setz (Or.inr (by decide))]; exact hf4
  have z38 : q_z f31 mo 21 = 0 := by rw [ef31, q_setz (Or.inr (by decide))]; exact hf5
  have z39 : q_z f31 mo 22 = 0 := by rw [ef31, q_setz (Or.inr (by decide))]; exact hf6
  have z40 : q_z f31 mo 40 = 0 := by rw [ef31, q_setz (Or.inr (by decide))]; exact hf7
  have z41 : q_z f31 sr 0 = 0 := by rw [ef31, q_setz (Or.inl (fun q => by rw [q, kmo] at ksr; exact absurd ksr (by decide)))]; exact hf8
  have z42 : q_z f31 sr 1 = 0 := by rw [ef31, q_setz (Or.inr (by decide))]; exact hf9
  have z43 : q_z f31 sr 2 = 12 := by rw [ef31, q_setz (Or.inr (by decide))]; exact hf10
  have z44 : q_z f31 sr 3 = 0 := by rw [ef31, q_setz (Or.inr (by decide))]; exact hf11
  have z45 : q_z f31 sr 4 = 0 := by rw [ef31, q_setz (Or.inr (by decide))]; exact hf12
  have z46 : q_z f31 sr 5 = 1 := by rw [ef31, q_setz (Or.inr (by decide))]; exact hf13
  have z47 : q_z f31 sr 6 = 2 := by rw [ef31, q_setz (Or.inr (by decide))]; exact hf14
  have z48 : q_z f31 sr 7 = 5 := by rw [ef31, q_setz (Or.inr (by decide))]; exact hf15
  have z49 : q_z f31 sr 8 = 3 := by rw [ef31, q_setz (Or.inr (by decide))]; exact hf16
  have z50 : q_z f31 sr 9 = 0 := by rw [ef31, q_setz (Or.inr (by decide))]; exact hf17
  have z51 : q_r f31 mo 1 = bu := by rw [ef31, q_setr (Or.inr (by decide))]; exact hr0
  have z52 : q_r f31 mo 13 = sr := by rw [ef31, q_setr (Or.inr (by decide))]; exact hr1
  have z53 : q_r f31 mo 14 = sd := by rw [ef31, q_setr (Or.inr (by decide))]; exact hr2
  have z54 : q_r f31 mo 15 = as := by rw [ef31, q_setr (Or.inr (by decide))]; exact hr3
  have z55 : q_r f31 mo 16 = aw := by rw [ef31, q_setr (Or.inr (by decide))]; exact hr4
  have z56 : q_r f31 mo 17 = pa := by rw [ef31, q_setr (Or.inr (by decide))]; exact hr5
  have z57 : q_r f31 mo 18 = nm := by rw [ef31, q_setr (Or.inr (by decide))]; exact hr6
  have z58 : q_r f31 mo 19 = snm := by rw [ef31, q_setr (Or.inr (by decide))]; exact hr7
  have z59 : q_r f31 mo 20 = anm := by rw [ef31, q_setr (Or.inr (by decide))]; exact hr8
  refine q_ald_n cx dX12_errorPosition_5 rfl (lv_at hl 0 rfl) ?_
  refine q_gX12_17 cx hB hmo kmo z37 dX12_errorPosition_6 (fun lb60 ub60 => ?_)
  refine q_iret cx hr hlk hB dX12_errorPosition_9 ⟨by decide, by decide⟩ ?_
  exact ⟨rfl, z32⟩
set_option maxHeartbeats 4000000 in
set_option maxRecDepth 100000 in
theorem p_setting0 (l : Launch) (g : q_G) {K : Nat → Nat} {L : List Nat} (hN : L.Nodup) {f : Nat → va_E} (hT : q_Ty g K L f) (mo : Nat) (hmo : mo ∈ L) (kmo : K mo = 12) (a0 : Int) (la0 : 0 ≤ a0) (ua0 : a0 ≤ 0) (bu : Nat) (hbu : bu ∈ L) (kbu : K bu = 150) (sr : Nat) (hsr : sr ∈ L) (ksr : K sr = 151) (sd : Nat) (hsd : sd ∈ L) (ksd : K sd = 152) (as : Nat) (has : as ∈ L) (kas : K as = 153) (aw : Nat) (haw : aw ∈ L) (kaw : K aw = 154) (pa : Nat) (hpa : pa ∈ L) (kpa : K pa = 155) (nm : Nat) (hnm : nm ∈ L) (knm : K nm = 156) (snm : Nat) (hsnm : snm ∈ L) (ksnm : K snm = 157) (anm : Nat) (hanm : anm ∈ L) (kanm : K anm = 158) (hf0 : q_z f mo 2 = 0) (hf1 : q_z f mo 8 = 0) (hf2 : q_z f mo 9 = (-1)) (hf3 : q_z f mo 10 = 0) (hf4 : q_z f mo 11 = (-1)) (hf5 : q_z f mo 21 = 0) (hf6 : q_z f mo 22 = 0) (hf7 : q_z f mo 40 = 0) (hf8 : q_z f sr 0 = 0) (hf9 : q_z f sr 1 = 0) (hf10 : q_z f sr 2 = 12) (hf11 : q_z f sr 3 = 0) (hf12 : q_z f sr 4 = 0) (hf13 : q_z f sr 5 = 1) (hf14 : q_z f sr 6 = 2) (hf15 : q_z f sr 7 = 5) (hf16 : q_z f sr 8 = 3) (hf17 : q_z f sr 9 = 0) (hr0 : q_r f mo 1 = bu) (hr1 : q_r f mo 13 = sr) (hr2 : q_r f mo 14 = sd) (hr3 : q_r f mo 15 = as) (hr4 : q_r f mo 16 = aw) (hr5 : q_r f mo 17 = pa) (hr6 : q_r f mo 18 = nm) (hr7 : q_r f mo 19 = snm) (hr8 : q_r f mo 20 = anm) : q_Ct l g K L yX12_setting cX12_setting 2 (some .int) 2 41 [.ref mo, .int (q_i a0)] f [(12, 0, 40), (150, 0, 599), (151, 0, 657), (152, 0, 657), (153, 0, 657), (154, 0, 657), (155, 0, 3947), (156, 0, 9), (157, 0, 9), (158, 0, 9)] (q_Pi (fun (z : Int) (f1 : Nat → va_E) => z = 0 ∧ q_z f1 mo 0 = 0)) := by
  obtain rfl : a0 = 0 := by omega
  refine q_ofb (by decide +kernel) hN hT (Nat.le_of_ble_eq_true rfl) ?_
  intro p e s m below meth c ls cx hr hlk hB hl
  have hl : lv_has ls 2 [(0, .ref mo), (1, .int (q_i 0))] := hl
  obtain ⟨H, hH⟩ : ∃ H : Heap, H = s.heap := ⟨_, rfl⟩
  obtain ⟨locs, hlocs⟩ : ∃ z : List Loc, z = [] := ⟨_, rfl⟩
  rw [← hH, ← hlocs] at hB
  rw [← hH, ← hlocs]
  refine q_ald_n cx dX12_setting_0 rfl (lv_at hl 0 rfl) ?_
  refine q_ild_n cx dX12_setting_1 rfl (lv_at hl 1 rfl) ?_
  refine q_i2l cx ⟨by decide, by decide⟩ dX12_setting_2 ?_
  refine q_lconst (z := 0) cx (by decide) dX12_setting_3 ?_
  refine lv_ldc2 (v := q_l 10) cx.1 cx.2.1 cx.2.2.2.1 (cx.2.2.2.2 _ q_h1859) dX12_setting_4 ?_
  refine q_cSi (As := [.long (q_l 0), .long (q_l 0), .long (q_l 10)]) (rest := [.ref mo]) cx hB (fun _ h => h) hN (r_isIn l g hN hB.2.1 0 (by decide) (by decide) 0 (by decide) (by decide) 10 (by decide) (by decide)) q_cX12_93 q_dX12_isIn (by decide) rfl rfl hl.1 rfl (Nat.le_of_ble_eq_true rfl) dX12_setting_7 (fun y42 H locs f41 ry42 h43 hF hB => ?_)
  obtain ⟨rfl, ly42, uy42, t44⟩ := h43
  obtain rfl : y42 = 1 := by omega
  refine q_cVi (As := [.int (q_i 1)]) (rest := []) cx hB (fun _ h => h) hN hmo kmo (by decide) rfl (r_goes1 l g hN hB.2.1 mo hmo kmo 1 (by decide) (by decide)) q_cX12_85 q_dX12_goes (by decide) rfl rfl hl.1 rfl (Nat.le_of_ble_eq_true rfl) dX12_setting_10 (fun y46 H locs f45 ry46 h47 hF hB => ?_)
  obtain ⟨qy46, z48⟩ := h47
  have z49 : q_z f45 mo 2 = 0 := (hF.z hmo (by rw [kmo]; rfl)).trans hf0
  have z50 : q_z f45 mo 8 = 0 := (hF.z hmo (by rw [kmo]; rfl)).trans hf1
  have z51 : q_z f45 mo 9 = (-1) := (hF.z hmo (by rw [kmo]; rfl)).trans hf2
  have z52 : q_z f45 mo 10 = 0 := (hF.z hmo (by rw [kmo]; rfl)).trans hf3
  have z53 : q_z f45 mo 11 = (-1) := (hF.z hmo (by rw [kmo]; rfl)).trans hf4
  have z54 : q_z f45 mo 21 = 0 := (hF.z hmo (by rw [kmo]; rfl)).trans hf5
  have z55 : q_z f45 mo 22 = 0 := (hF.z hmo (by rw [kmo]; rfl)).trans hf6
  have z56 : q_z f45 mo 40 = 0 := (hF.z hmo (by rw [kmo]; rfl)).trans hf7
  have z57 : q_z f45 sr 0 = 0 := (hF.z hsr (by rw [ksr]; rfl)).trans hf8
  have z58 : q_z f45 sr 1 = 0 := (hF.z hsr (by rw [ksr]; rfl)).trans hf9
  have z59 : q_z f45 sr 2 = 12 := (hF.z hsr (by rw [ksr]; rfl)).trans hf10
  have z60 : q_z f45 sr 3 = 0 := (hF.z hsr (by rw [ksr]; rfl)).trans hf11
  have z61 : q_z f45 sr 4 = 0 := (hF.z hsr (by rw [ksr]; rfl)).trans hf12
  have z62 : q_z f45 sr 5 = 1 := (hF.z hsr (by rw [ksr]; rfl)).trans hf13
  have z63 : q_z f45 sr 6 = 2 := (hF.z hsr (by rw [ksr]; rfl)).trans hf14
  have z64 : q_z f45 sr 7 = 5 := (hF.z hsr (by rw [ksr]; rfl)).trans hf15
  have z65 : q_z f45 sr 8 = 3 := (hF.z hsr (by rw [ksr]; rfl)).trans hf16
  have z66 : q_z f45 sr 9 = 0 := (hF.z hsr (by rw [ksr]; rfl)).trans hf17
  have z67 : q_r f45 mo 1 = bu := (hF.r hmo (by rw [kmo]; rfl)).trans hr0
  have z68 : q_r f45 mo 13 = sr := (hF.r hmo (by rw [kmo]; rfl)).trans hr1
  have z69 : q_r f45 mo 14 = sd := (hF.r hmo (by rw [kmo]; rfl)).trans hr2
  have z70 : q_r f45 mo 15 = as := (hF.r hmo (by rw [kmo]; rfl)).trans hr3
  have z71 : q_r f45 mo 16 = aw := (hF.r hmo (by rw [kmo]; rfl)).trans hr4
  have z72 : q_r f45 mo 17 = pa := (hF.r hmo (by rw [kmo]; rfl)).trans hr5
  have z73 : q_r f45 mo 18 = nm := (hF.r hmo (by rw [kmo]; rfl)).trans hr6
  have z74 : q_r f45 mo 19 = snm := (hF.r hmo (by rw [kmo]; rfl)).trans hr7
  have z75 : q_r f45 mo 20 = anm := (hF.r hmo (by rw [kmo]; rfl)).trans hr8
  subst qy46
  refine q_ifne (tgt := 18) cx ⟨by decide, by decide⟩ dX12_setting_13 (by decide) (fun c76 => ?_) (fun c76 => ?_)
  · refine q_ild_n cx dX12_setting_18 rfl (lv_at hl 1 rfl) ?_
    refine lv_tableOut (tgt := 91) cx.1 cx.2.1 dX12_setting_19 (by rw [q_toInt ⟨by decide, by decide⟩]; omega) (by decide) ?_
    refine q_ald_n cx dX12_setting_91 rfl (lv_at hl 0 rfl) ?_
    refine q_gX12_20 cx hB hmo kmo z68 dX12_setting_92 (fun hb78 kb78 => ?_)
    refine q_ild_n cx dX12_setting_95 rfl (lv_at hl 1 rfl) ?_
    refine q_iald (lo := 0) (hi := 10) (n := 658) cx hB hsr ksr (by decide) rfl rfl (by decide) (by decide) (by decide) rfl z57 dX12_setting_96 (fun lb80 ub80 => ?_)
    refine q_iret cx hr hlk hB dX12_setting_97 ⟨by decide, by decide⟩ ?_
    exact ⟨rfl, z48⟩
  · exact absurd c76 (by omega)
set_option maxHeartbeats 4000000 in
set_option maxRecDepth 100000 in
theorem p_setting1 (l : Launch) (g : q_G) {K : Nat → Nat} {L : List Nat} (hN : L.Nodup) {f : Nat → va_E} (hT : q_Ty g K L f) (mo : Nat) (hmo : mo ∈ L) (kmo : K mo = 12) (a0 : Int) (la0 : 1 ≤ a0) (ua0 : a0 ≤ 1) (bu : Nat) (hbu : bu ∈ L) (kbu : K bu = 150) (sr : Nat) (hsr : sr ∈ L) (ksr : K sr = 151) (sd : Nat) (hsd : sd ∈ L) (ksd : K sd = 152) (as : Nat) (has : as ∈ L) (kas : K as = 153) (aw : Nat) (haw : aw ∈ L) (kaw : K aw = 154) (pa : Nat) (hpa : pa ∈ L) (kpa : K pa = 155) (nm : Nat) (hnm : nm ∈ L) (knm : K nm = 156) (snm : Nat) (hsnm : snm ∈ L) (ksnm : K snm = 157) (anm : Nat) (hanm : anm ∈ L) (kanm : K anm = 158) (hf0 : q_z f mo 2 = 0) (hf1 : q_z f mo 8 = 0) (hf2 : q_z f mo 9 = (-1)) (hf3 : q_z f mo 10 = 0) (hf4 : q_z f mo 11 = (-1)) (hf5 : q_z f mo 21 = 0) (hf6 : q_z f mo 22 = 0) (hf7 : q_z f mo 40 = 0) (hf8 : q_z f sr 0 = 0) (hf9 : q_z f sr 1 = 0) (hf10 : q_z f sr 2 = 12) (hf11 : q_z f sr 3 = 0) (hf12 : q_z f sr 4 = 0) (hf13 : q_z f sr 5 = 1) (hf14 : q_z f sr 6 = 2) (hf15 : q_z f sr 7 = 5) (hf16 : q_z f sr 8 = 3) (hf17 : q_z f sr 9 = 0) (hr0 : q_r f mo 1 = bu) (hr1 : q_r f mo 13 = sr) (hr2 : q_r f mo 14 = sd) (hr3 : q_r f mo 15 = as) (hr4 : q_r f mo 16 = aw) (hr5 : q_r f mo 17 = pa) (hr6 : q_r f mo 18 = nm) (hr7 : q_r f mo 19 = snm) (hr8 : q_r f mo 20 = anm) : q_Ct l g K L yX12_setting cX12_setting 2 (some .int) 2 41 [.ref mo, .int (q_i a0)] f [(12, 0, 40), (150, 0, 599), (151, 0, 657), (152, 0, 657), (153, 0, 657), (154, 0, 657), (155, 0, 3947), (156, 0, 9), (157, 0, 9), (158, 0, 9)] (q_Pi (fun (z : Int) (f1 : Nat → va_E) => z = 0 ∧ q_z f1 mo 0 = 0)) := by
  obtain rfl : a0 = 1 := by omega
  refine q_ofb (by decide +kernel) hN hT (Nat.le_of_ble_eq_true rfl) ?_
  intro p e s m below meth c ls cx hr hlk hB hl
  have hl : lv_has ls 2 [(0, .ref mo), (1, .int (q_i 1))] := hl
  obtain ⟨H, hH⟩ : ∃ H : Heap, H = s.heap := ⟨_, rfl⟩
  obtain ⟨locs, hlocs⟩ : ∃ z : List Loc, z = [] := ⟨_, rfl⟩
  rw [← hH, ← hlocs] at hB
  rw [← hH, ← hlocs]
  refine q_ald_n cx dX12_setting_0 rfl (lv_at hl 0 rfl) ?_
  refine q_ild_n cx dX12_setting_1 rfl (lv_at hl 1 rfl) ?_
  refine q_i2l cx ⟨by decide, by decide⟩ dX12_setting_2 ?_
  refine q_lconst (z := 0) cx (by decide) dX12_setting_3 ?_
  refine lv_ldc2 (v := q_l 10) cx.1 cx.2.1 cx.2.2.2.1 (cx.2.2.2.2 _ q_h1859) dX12_setting_4 ?_
  refine q_cSi (As := [.long (q_l 1), .long (q_l 0), .long (q_l 10)]) (rest := [.ref mo]) cx hB (fun _ h => h) hN (r_isIn l g hN hB.2.1 1 (by decide) (by decide) 0 (by decide) (by decide) 10 (by decide) (by decide)) q_cX12_93 q_dX12_isIn (by decide) rfl rfl hl.1 rfl (Nat.le_of_ble_eq_true rfl) dX12_setting_7 (fun y42 H locs f41 ry42 h43 hF hB => ?_)
  obtain ⟨rfl, ly42, uy42, t44⟩ := h43
  obtain rfl : y42 = 1 := by omega
  refine q_cVi (As := [.int (q_i 1)]) (rest := []) cx hB (fun _ h => h) hN hmo kmo (by decide) rfl (r_goes1 l g hN hB.2.1 mo hmo kmo 1 (by decide) (by decide)) q_cX12_85 q_dX12_goes (by decide) rfl rfl hl.1 rfl (Nat.le_of_ble_eq_true rfl) dX12_setting_10 (fun y46 H locs f45 ry46 h47 hF hB => ?_)
  obtain ⟨qy46, z48⟩ := h47
  have z49 : q_z f45 mo 2 = 0 := (hF.z hmo (by rw [kmo]; rfl)).trans hf0
  have z50 : q_z f45 mo 8 = 0 := (hF.z hmo (by rw [kmo]; rfl)).trans hf1
  have z51 : q_z f45 mo 9 = (-1) := (hF.z hmo (by rw [kmo]; rfl)).trans hf2
  have z52 : q_z f45 mo 10 = 0 := (hF.z hmo (by rw [kmo]; rfl)).trans hf3
  have z53 : q_z f45 mo 11 = (-1) := (hF.z hmo (by rw [kmo]; rfl)).trans hf4
  have z54 : q_z f45 mo 21 = 0 := (hF.z hmo (by rw [kmo]; rfl)).trans hf5
  have z55 : q_z f45 mo 22 = 0 := (hF.z hmo (by rw [kmo]; rfl)).trans hf6
  have z56 : q_z f45 mo 40 = 0 := (hF.z hmo (by rw [kmo]; rfl)).trans hf7
  have z57 : q_z f45 sr 0 = 0 := (hF.z hsr (by rw [ksr]; rfl)).trans hf8
  have z58 : q_z f45 sr 1 = 0 := (hF.z hsr (by rw [ksr]; rfl)).trans hf9
  have z59 : q_z f45 sr 2 = 12 := (hF.z hsr (by rw [ksr]; rfl)).trans hf10
  have z60 : q_z f45 sr 3 = 0 := (hF.z hsr (by rw [ksr]; rfl)).trans hf11
  have z61 : q_z f45 sr 4 = 0 := (hF.z hsr (by rw [ksr]; rfl)).trans hf12
  have z62 : q_z f45 sr 5 = 1 := (hF.z hsr (by rw [ksr]; rfl)).trans hf13
  have z63 : q_z f45 sr 6 = 2 := (hF.z hsr (by rw [ksr]; rfl)).trans hf14
  have z64 : q_z f45 sr 7 = 5 := (hF.z hsr (by rw [ksr]; rfl)).trans hf15
  have z65 : q_z f45 sr 8 = 3 := (hF.z hsr (by rw [ksr]; rfl)).trans hf16
  have z66 : q_z f45 sr 9 = 0 := (hF.z hsr (by rw [ksr]; rfl)).trans hf17
  have z67 : q_r f45 mo 1 = bu := (hF.r hmo (by rw [kmo]; rfl)).trans hr0
  have z68 : q_r f45 mo 13 = sr := (hF.r hmo (by rw [kmo]; rfl)).trans hr1
  have z69 : q_r f45 mo 14 = sd := (hF.r hmo (by rw [kmo]; rfl)).trans hr2
  have z70 : q_r f45 mo 15 = as := (hF.r hmo (by rw [kmo]; rfl)).trans hr3
  have z71 : q_r f45 mo 16 = aw := (hF.r hmo (by rw [kmo]; rfl)).trans hr4
  have z72 : q_r f45 mo 17 = pa := (hF.r hmo (by rw [kmo]; rfl)).trans hr5
  have z73 : q_r f45 mo 18 = nm := (hF.r hmo (by rw [kmo]; rfl)).trans hr6
  have z74 : q_r f45 mo 19 = snm := (hF.r hmo (by rw [kmo]; rfl)).trans hr7
  have z75 : q_r f45 mo 20 = anm := (hF.r hmo (by rw [kmo]; rfl)).trans hr8
  subst qy46
  refine q_ifne (tgt := 18) cx ⟨by decide, by decide⟩ dX12_setting_13 (by decide) (fun c76 => ?_) (fun c76 => ?_)
  · refine q_ild_n cx dX12_setting_18 rfl (lv_at hl 1 rfl) ?_
    refine lv_tableOut (tgt := 91) cx.1 cx.2.1 dX12_setting_19 (by rw [q_toInt ⟨by decide, by decide⟩]; omega) (by decide) ?_
    refine q_ald_n cx dX12_setting_91 rfl (lv_at hl 0 rfl) ?_
    refine q_gX12_20 cx hB hmo kmo z68 dX12_setting_92 (fun hb78 kb78 => ?_)
    refine q_ild_n cx dX12_setting_95 rfl (lv_at hl 1 rfl) ?_
    refine q_iald (lo := 0) (hi := 16) (n := 658) cx hB hsr ksr (by decide) rfl rfl (by decide) (by decide) (by decide) rfl z58 dX12_setting_96 (fun lb80 ub80 => ?_)
    refine q_iret cx hr hlk hB dX12_setting_97 ⟨by decide, by decide⟩ ?_
    exact ⟨rfl, z48⟩
  · exact absurd c76 (by omega)
set_option maxHeartbeats 4000000 in
set_option maxRecDepth 100000 in
theorem p_setting2 (l : Launch) (g : q_G) {K : Nat → Nat} {L : List Nat} (hN : L.Nodup) {f : Nat → va_E} (hT : q_Ty g K L f) (mo : Nat) (hmo : mo ∈ L) (kmo : K mo = 12) (a0 : Int) (la0 : 2 ≤ a0) (ua0 : a0 ≤ 2) (bu : Nat) (hbu : bu ∈ L) (kbu : K bu = 150) (sr : Nat) (hsr : sr ∈ L) (ksr : K sr = 151) (sd : Nat) (hsd : sd ∈ L) (ksd : K sd = 152) (as : Nat) (has : as ∈ L) (kas : K as = 153) (aw : Nat) (haw : aw ∈ L) (kaw : K aw = 154) (pa : Nat) (hpa : pa ∈ L) (kpa : K pa = 155) (nm : Nat) (hnm : nm ∈ L) (knm : K nm = 156) (snm : Nat) (hsnm : snm ∈ L) (ksnm : K snm = 157) (anm : Nat) (hanm : anm ∈ L) (kanm : K anm = 158) (hf0 : q_z f mo 2 = 0) (hf1 : q_z f mo 8 = 0) (hf2 : q_z f mo 9 = (-1)) (hf3 : q_z f mo 10 = 0) (hf4 : q_z f mo 11 = (-1)) (hf5 : q_z f mo 21 = 0) (hf6 : q_z f mo 22 = 0) (hf7 : q_z f mo 40 = 0) (hf8 : q_z f sr 0 = 0) (hf9 : q_z f sr 1 = 0) (hf10 : q_z f sr 2 = 12) (hf11 : q_z f sr 3 = 0) (hf12 : q_z f sr 4 = 0) (hf13 : q_z f sr 5 = 1) (hf14 : q_z f sr 6 = 2) (hf15 : q_z f sr 7 = 5) (hf16 : q_z f sr 8 = 3) (hf17 : q_z f sr 9 = 0) (hr0 : q_r f mo 1 = bu) (hr1 : q_r f mo 13 = sr) (hr2 : q_r f mo 14 = sd) (hr3 : q_r f mo 15 = as) (hr4 : q_r f mo 16 = aw) (hr5 : q_r f mo 17 = pa) (hr6 : q_r f mo 18 = nm) (hr7 : q_r f mo 19 = snm) (hr8 : q_r f mo 20 = anm) : q_Ct l g K L yX12_setting cX12_setting 2 (some .int) 2 41 [.ref mo, .int (q_i a0)] f [(12, 0, 40), (150, 0, 599), (151, 0, 657), (152, 0, 657), (153, 0, 657), (154, 0, 657), (155, 0, 3947), (156, 0, 9), (157, 0, 9), (158, 0, 9)] (q_Pi (fun (z : Int) (f1 : Nat → va_E) => z = 12 ∧ q_z f1 mo 0 = 0)) := by
  obtain rfl : a0 = 2 := by omega
  refine q_ofb (by decide +kernel) hN hT (Nat.le_of_ble_eq_true rfl) ?_
  intro p e s m below meth c ls cx hr hlk hB hl
  have hl : lv_has ls 2 [(0, .ref mo), (1, .int (q_i 2))] := hl
  obtain ⟨H, hH⟩ : ∃ H : Heap, H = s.heap := ⟨_, rfl⟩
  obtain ⟨locs, hlocs⟩ : ∃ z : List Loc, z = [] := ⟨_, rfl⟩
  rw [← hH, ← hlocs] at hB
  rw [← hH, ← hlocs]
  refine q_ald_n cx dX12_setting_0 rfl (lv_at hl 0 rfl) ?_
  refine q_ild_n cx dX12_setting_1 rfl (lv_at hl 1 rfl) ?_
  refine q_i2l cx ⟨by decide, by decide⟩ dX12_setting_2 ?_
  refine q_lconst (z := 0) cx (by decide) dX12_setting_3 ?_
  refine lv_ldc2 (v := q_l 10) cx.1 cx.2.1 cx.2.2.2.1 (cx.2.2.2.2 _ q_h1859) dX12_setting_4 ?_
  refine q_cSi (As := [.long (q_l 2), .long (q_l 0), .long (q_l 10)]) (rest := [.ref mo]) cx hB (fun _ h => h) hN (r_isIn l g hN hB.2.1 2 (by decide) (by decide) 0 (by decide) (by decide) 10 (by decide) (by decide)) q_cX12_93 q_dX12_isIn (by decide) rfl rfl hl.1 rfl (Nat.le_of_ble_eq_true rfl) dX12_setting_7 (fun y42 H locs f41 ry42 h43 hF hB => ?_)
  obtain ⟨rfl, ly42, uy42, t44⟩ := h43
  obtain rfl : y42 = 1 := by omega
  refine q_cVi (As := [.int (q_i 1)]) (rest := []) cx hB (fun _ h => h) hN hmo kmo (by decide) rfl (r_goes1 l g hN hB.2.1 mo hmo kmo 1 (by decide) (by decide)) q_cX12_85 q_dX12_goes (by decide) rfl rfl hl.1 rfl (Nat.le_of_ble_eq_true rfl) dX12_setting_10 (fun y46 H locs f45 ry46 h47 hF hB => ?_)
  obtain ⟨qy46, z48⟩ := h47
  have z49 : q_z f45 mo 2 = 0 := (hF.z hmo (by rw [kmo]; rfl)).trans hf0
  have z50 : q_z f45 mo 8 = 0 := (hF.z hmo (by rw [kmo]; rfl)).trans hf1
  have z51 : q_z f45 mo 9 = (-1) := (hF.z hmo (by rw [kmo]; rfl)).trans hf2
  have z52 : q_z f45 mo 10 = 0 := (hF.z hmo (by rw [kmo]; rfl)).trans hf3
  have z53 : q_z f45 mo 11 = (-1) := (hF.z hmo (by rw [kmo]; rfl)).trans hf4
  have z54 : q_z f45 mo 21 = 0 := (hF.z hmo (by rw [kmo]; rfl)).trans hf5
  have z55 : q_z f45 mo 22 = 0 := (hF.z hmo (by rw [kmo]; rfl)).trans hf6
  have z56 : q_z f45 mo 40 = 0 := (hF.z hmo (by rw [kmo]; rfl)).trans hf7
  have z57 : q_z f45 sr 0 = 0 := (hF.z hsr (by rw [ksr]; rfl)).trans hf8
  have z58 : q_z f45 sr 1 = 0 := (hF.z hsr (by rw [ksr]; rfl)).trans hf9
  have z59 : q_z f45 sr 2 = 12 := (hF.z hsr (by rw [ksr]; rfl)).trans hf10
  have z60 : q_z f45 sr 3 = 0 := (hF.z hsr (by rw [ksr]; rfl)).trans hf11
  have z61 : q_z f45 sr 4 = 0 := (hF.z hsr (by rw [ksr]; rfl)).trans hf12
  have z62 : q_z f45 sr 5 = 1 := (hF.z hsr (by rw [ksr]; rfl)).trans hf13
  have z63 : q_z f45 sr 6 = 2 := (hF.z hsr (by rw [ksr]; rfl)).trans hf14
  have z64 : q_z f45 sr 7 = 5 := (hF.z hsr (by rw [ksr]; rfl)).trans hf15
  have z65 : q_z f45 sr 8 = 3 := (hF.z hsr (by rw [ksr]; rfl)).trans hf16
  have z66 : q_z f45 sr 9 = 0 := (hF.z hsr (by rw [ksr]; rfl)).trans hf17
  have z67 : q_r f45 mo 1 = bu := (hF.r hmo (by rw [kmo]; rfl)).trans hr0
  have z68 : q_r f45 mo 13 = sr := (hF.r hmo (by rw [kmo]; rfl)).trans hr1
  have z69 : q_r f45 mo 14 = sd := (hF.r hmo (by rw [kmo]; rfl)).trans hr2
  have z70 : q_r f45 mo 15 = as := (hF.r hmo (by rw [kmo]; rfl)).trans hr3
  have z71 : q_r f45 mo 16 = aw := (hF.r hmo (by rw [kmo]; rfl)).trans hr4
  have z72 : q_r f45 mo 17 = pa := (hF.r hmo (by rw [kmo]; rfl)).trans hr5
  have z73 : q_r f45 mo 18 = nm := (hF.r hmo (by rw [kmo]; rfl)).trans hr6
  have z74 : q_r f45 mo 19 = snm := (hF.r hmo (by rw [kmo]; rfl)).trans hr7
  have z75 : q_r f45 mo 20 = anm := (hF.r hmo (by rw [kmo]; rfl)).trans hr8
  subst qy46
  refine q_ifne (tgt := 18) cx ⟨by decide, by decide⟩ dX12_setting_13 (by decide) (fun c76 => ?_) (fun c76 => ?_)
  · refine q_ild_n cx dX12_setting_18 rfl (lv_at hl 1 rfl) ?_
    refine lv_tableOut (tgt := 91) cx.1 cx.2.1 dX12_setting_19 (by rw [q_toInt ⟨by decide, by decide⟩]; omega) (by decide) ?_
    refine q_ald_n cx dX12_setting_91 rfl (lv_at hl 0 rfl) ?_
    refine q_gX12_20 cx hB hmo kmo z68 dX12_setting_92 (fun hb78 kb78 => ?_)
    refine q_ild_n cx dX12_setting_95 rfl (lv_at hl 1 rfl) ?_
    refine q_iald (lo := 0) (hi := 60) (n := 658) cx hB hsr ksr (by decide) rfl rfl (by decide) (by decide) (by decide) rfl z59 dX12_setting_96 (fun lb80 ub80 => ?_)
    refine q_iret cx hr hlk hB dX12_setting_97 ⟨by decide, by decide⟩ ?_
    exact ⟨rfl, z48⟩
  · exact absurd c76 (by omega)
set_option maxHeartbeats 4000000 in
set_option maxRecDepth 100000 in
theorem p_setting3 (l : Launch) (g : q_G) {K : Nat → Nat} {L : List Nat} (hN : L.Nodup) {f : Nat → va_E} (hT : q_Ty g K L f) (mo : Nat) (hmo : mo ∈ L) (kmo : K mo = 12) (a0 : Int) (la0 : 3 ≤ a0) (ua0 : a0 ≤ 3) (bu : Nat) (hbu : bu ∈ L) (kbu : K bu = 150) (sr : Nat) (hsr : sr ∈ L) (ksr : K sr = 151) (sd : Nat) (hsd : sd ∈ L) (ksd : K sd = 152) (as : Nat) (has : as ∈ L) (kas : K as = 153) (aw : Nat) (haw : aw ∈ L) (kaw : K aw = 154) (pa : Nat) (hpa : pa ∈ L) (kpa : K pa = 155) (nm : Nat) (hnm : nm ∈ L) (knm : K nm = 156) (snm : Nat) (hsnm : snm ∈ L) (ksnm : K snm = 157) (anm : Nat) (hanm : anm ∈ L) (kanm : K anm = 158) (hf0 : q_z f mo 2 = 0) (hf1 : q_z f mo 8 = 0) (hf2 : q_z f mo 9 = (-1)) (hf3 : q_z f mo 10 = 0) (hf4 : q_z f mo 11 = (-1)) (hf5 : q_z f mo 21 = 0) (hf6 : q_z f mo 22 = 0) (hf7 : q_z f mo 40 = 0) (hf8 : q_z f sr 0 = 0) (hf9 : q_z f sr 1 = 0) (hf10 : q_z f sr 2 = 12) (hf11 : q_z f sr 3 = 0) (hf12 : q_z f sr 4 = 0) (hf13 : q_z f sr 5 = 1) (hf14 : q_z f sr 6 = 2) (hf15 : q_z f sr 7 = 5) (hf16 : q_z f sr 8 = 3) (hf17 : q_z f sr 9 = 0) (hr0 : q_r f mo 1 = bu) (hr1 : q_r f mo 13 = sr) (hr2 : q_r f mo 14 = sd) (hr3 : q_r f mo 15 = as) (hr4 : q_r f mo 16 = aw) (hr5 : q_r f mo 17 = pa) (hr6 : q_r f mo 18 = nm) (hr7 : q_r f mo 19 = snm) (hr8 : q_r f mo 20 = anm) : q_Ct l g K L yX12_setting cX12_setting 2 (some .int) 2 41 [.ref mo, .int (q_i a0)] f [(12, 0, 40), (150, 0, 599), (151, 0, 657), (152, 0, 657), (153, 0, 657), (154, 0, 657), (155, 0, 3947), (156, 0, 9), (157, 0, 9), (158, 0, 9)] (q_Pi (fun (z : Int) (f1 : Nat → va_E) => z = 0 ∧ q_z f1 mo 0 = 0)) := by
  obtain rfl : a0 = 3 := by omega
  refine q_ofb (by decide +kernel) hN hT (Nat.le_of_ble_eq_true rfl) ?_
  intro p e s m below meth c ls cx hr hlk hB hl
  have hl : lv_has ls 2 [(0, .ref mo), (1, .int (q_i 3))] := hl
  obtain ⟨H, hH⟩ : ∃ H : Heap, H = s.heap := ⟨_, rfl⟩
  obtain ⟨locs, hlocs⟩ : ∃ z : List Loc, z = [] := ⟨_, rfl⟩
  rw [← hH, ← hlocs] at hB
  rw [← hH, ← hlocs]
  refine q_ald_n cx dX12_setting_0 rfl (lv_at hl 0 rfl) ?_
  refine q_ild_n cx dX12_setting_1 rfl (lv_at hl 1 rfl) ?_
  refine q_i2l cx ⟨by decide, by decide⟩ dX12_setting_2 ?_
  refine q_lconst (z := 0) cx (by decide) dX12_setting_3 ?_
  refine lv_ldc2 (v := q_l 10) cx.1 cx.2.1 cx.2.2.2.1 (cx.2.2.2.2 _ q_h1859) dX12_setting_4 ?_
  refine q_cSi (As := [.long (q_l 3), .long (q_l 0), .long (q_l 10)]) (rest := [.ref mo]) cx hB (fun _ h => h) hN (r_isIn l g hN hB.2.1 3 (by decide) (by decide) 0 (by decide) (by decide) 10 (by decide) (by decide)) q_cX12_93 q_dX12_isIn (by decide) rfl rfl hl.1 rfl (Nat.le_of_ble_eq_true rfl) dX12_setting_7 (fun y42 H locs f41 ry42 h43 hF hB => ?_)
  obtain ⟨rfl, ly42, uy42, t44⟩ := h43
  obtain rfl : y42 = 1 := by omega
  refine q_cVi (As := [.int (q_i 1)]) (rest := []) cx hB (fun _ h => h) hN hmo kmo (by decide) rfl (r_goes1 l g hN hB.2.1 mo hmo kmo 1 (by decide) (by decide)) q_cX12_85 q_dX12_goes (by decide) rfl rfl hl.1 rfl (Nat.le_of_ble_eq_true rfl) dX12_setting_10 (fun y46 H locs f45 ry46 h47 hF hB => ?_)
  obtain ⟨qy46, z48⟩ := h47
  have z49 : q_z f45 mo 2 = 0 := (hF.z hmo (by rw [kmo]; rfl)).trans hf0
  have z50 : q_z f45 mo 8 = 0 := (hF.z hmo (by rw [kmo]; rfl)).trans hf1
  have z51 : q_z f45 mo 9 = (-1) := (hF.z hmo (by rw [kmo]; rfl)).trans hf2
  have z52 : q_z f45 mo 10 = 0 := (hF.z hmo (by rw [kmo]; rfl)).trans hf3
  have z53 : q_z f45 mo 11 = (-1) := (hF.z hmo (by rw [kmo]; rfl)).trans hf4
  have z54 : q_z f45 mo 21 = 0 := (hF.z hmo (by rw [kmo]; rfl)).trans hf5
  have z55 : q_z f45 mo 22 = 0 := (hF.z hmo (by rw [kmo]; rfl)).trans hf6
  have z56 : q_z f45 mo 40 = 0 := (hF.z hmo (by rw [kmo]; rfl)).trans hf7
  have z57 : q_z f45 sr 0 = 0 := (hF.z hsr (by rw [ksr]; rfl)).trans hf8
  have z58 : q_z f45 sr 1 = 0 := (hF.z hsr (by rw [ksr]; rfl)).trans hf9
  have z59 : q_z f45 sr 2 = 12 := (hF.z hsr (by rw [ksr]; rfl)).trans hf10
  have z60 : q_z f45 sr 3 = 0 := (hF.z hsr (by rw [ksr]; rfl)).trans hf11
  have z61 : q_z f45 sr 4 = 0 := (hF.z hsr (by rw [ksr]; rfl)).trans hf12
  have z62 : q_z f45 sr 5 = 1 := (hF.z hsr (by rw [ksr]; rfl)).trans hf13
  have z63 : q_z f45 sr 6 = 2 := (hF.z hsr (by rw [ksr]; rfl)).trans hf14
  have z64 : q_z f45 sr 7 = 5 := (hF.z hsr (by rw [ksr]; rfl)).trans hf15
  have z65 : q_z f45 sr 8 = 3 := (hF.z hsr (by rw [ksr]; rfl)).trans hf16
  have z66 : q_z f45 sr 9 = 0 := (hF.z hsr (by rw [ksr]; rfl)).trans hf17
  have z67 : q_r f45 mo 1 = bu := (hF.r hmo (by rw [kmo]; rfl)).trans hr0
  have z68 : q_r f45 mo 13 = sr := (hF.r hmo (by rw [kmo]; rfl)).trans hr1
  have z69 : q_r f45 mo 14 = sd := (hF.r hmo (by rw [kmo]; rfl)).trans hr2
  have z70 : q_r f45 mo 15 = as := (hF.r hmo (by rw [kmo]; rfl)).trans hr3
  have z71 : q_r f45 mo 16 = aw := (hF.r hmo (by rw [kmo]; rfl)).trans hr4
  have z72 : q_r f45 mo 17 = pa := (hF.r hmo (by rw [kmo]; rfl)).trans hr5
  have z73 : q_r f45 mo 18 = nm := (hF.r hmo (by rw [kmo]; rfl)).trans hr6
  have z74 : q_r f45 mo 19 = snm := (hF.r hmo (by rw [kmo]; rfl)).trans hr7
  have z75 : q_r f45 mo 20 = anm := (hF.r hmo (by rw [kmo]; rfl)).trans hr8
  subst qy46
  refine q_ifne (tgt := 18) cx ⟨by decide, by decide⟩ dX12_setting_13 (by decide) (fun c76 => ?_) (fun c76 => ?_)
  · refine q_ild_n cx dX12_setting_18 rfl (lv_at hl 1 rfl) ?_
    refine lv_tableOut (tgt := 91) cx.1 cx.2.1 dX12_setting_19 (by rw [q_toInt ⟨by decide, by decide⟩]; omega) (by decide) ?_
    refine q_ald_n cx dX12_setting_91 rfl (lv_at hl 0 rfl) ?_
    refine q_gX12_20 cx hB hmo kmo z68 dX12_setting_92 (fun hb78 kb78 => ?_)
    refine q_ild_n cx dX12_setting_95 rfl (lv_at hl 1 rfl) ?_
    refine q_iald (lo := 0) (hi := 20000) (n := 658) cx hB hsr ksr (by decide) rfl rfl (by decide) (by decide) (by decide) rfl z60 dX12_setting_96 (fun lb80 ub80 => ?_)
    refine q_iret cx hr hlk hB dX12_setting_97 ⟨by decide, by decide⟩ ?_
    exact ⟨rfl, z48⟩
  · exact absurd c76 (by omega)
set_option maxHeartbeats 4000000 in
set_option maxRecDepth 100000 in
theorem p_setting4 (l : Launch) (g : q_G) {K : Nat → Nat} {L : List Nat} (hN : L.Nodup) {f : Nat → va_E} (hT : q_Ty g K L f) (mo : Nat) (hmo : mo ∈ L) (kmo : K mo = 12) (a0 : Int) (la0 : 4 ≤ a0) (ua0 : a0 ≤ 4) (bu : Nat) (hbu : bu ∈ L) (kbu : K bu = 150) (sr : Nat) (hsr : sr ∈ L) (ksr : K sr = 151) (sd : Nat) (hsd : sd ∈ L) (ksd : K sd = 152) (as : Nat) (has : as ∈ L) (kas : K as = 153) (aw : Nat) (haw : aw ∈ L) (kaw : K aw = 154) (pa : Nat) (hpa : pa ∈ L) (kpa : K pa = 155) (nm : Nat) (hnm : nm ∈ L) (knm : K nm = 156) (snm : Nat) (hsnm : snm ∈ L) (ksnm : K snm = 157) (anm : Nat) (hanm : anm ∈ L) (kanm : K anm = 158) (hf0 : q_z f mo 2 = 0) (hf1 : q_z f mo 8 = 0) (hf2 : q_z f mo 9 = (-1)) (hf3 : q_z f mo 10 = 0) (hf4 : q_z f mo 11 = (-1)) (hf5 : q_z f mo 21 = 0) (hf6 : q_z f mo 22 = 0) (hf7 : q_z f mo 40 = 0) (hf8 : q_z f sr 0 = 0) (hf9 : q_z f sr 1 = 0) (hf10 : q_z f sr 2 = 12) (hf11 : q_z f sr 3 = 0) (hf12 : q_z f sr 4 = 0) (hf13 : q_z f sr 5 = 1) (hf14 : q_z f sr 6 = 2) (hf15 : q_z f sr 7 = 5) (hf16 : q_z f sr 8 = 3) (hf17 : q_z f sr 9 = 0) (hr0 : q_r f mo 1 = bu) (hr1 : q_r f mo 13 = sr) (hr2 : q_r f mo 14 = sd) (hr3 : q_r f mo 15 = as) (hr4 : q_r f mo 16 = aw) (hr5 : q_r f mo 17 = pa) (hr6 : q_r f mo 18 = nm) (hr7 : q_r f mo 19 = snm) (hr8 : q_r f mo 20 = anm) : q_Ct l g K L yX12_setting cX12_setting 2 (some .int) 2 41 [.ref mo, .int (q_i a0)] f [(12, 0, 40), (150, 0, 599), (151, 0, 657), (152, 0, 657), (153, 0, 657), (154, 0, 657), (155, 0, 3947), (156, 0, 9), (157, 0, 9), (158, 0, 9)] (q_Pi (fun (z : Int) (f1 : Nat → va_E) => z = 0 ∧ q_z f1 mo 0 = 0)) := by
  obtain rfl : a0 = 4 := by omega
  refine q_ofb (by decide +kernel) hN hT (Nat.le_of_ble_eq_true rfl) ?_
  intro p e s m below meth c ls cx hr hlk hB hl
  have hl : lv_has ls 2 [(0, .ref mo), (1, .int (q_i 4))] := hl
  obtain ⟨H, hH⟩ : ∃ H : Heap, H = s.heap := ⟨_, rfl⟩
  obtain ⟨locs, hlocs⟩ : ∃ z : List Loc, z = [] := ⟨_, rfl⟩
  rw [← hH, ← hlocs] at hB
  rw [← hH, ← hlocs]
  refine q_ald_n cx dX12_setting_0 rfl (lv_at hl 0 rfl) ?_
  refine q_ild_n cx dX12_setting_1 rfl (lv_at hl 1 rfl) ?_
  refine q_i2l cx ⟨by decide, by decide⟩ dX12_setting_2 ?_
  refine q_lconst (z := 0) cx (by decide) dX12_setting_3 ?_
  refine lv_ldc2 (v := q_l 10) cx.1 cx.2.1 cx.2.2.2.1 (cx.2.2.2.2 _ q_h1859) dX12_setting_4 ?_
  refine q_cSi (As := [.long (q_l 4), .long (q_l 0), .long (q_l 10)]) (rest := [.ref mo]) cx hB (fun _ h => h) hN (r_isIn l g hN hB.2.1 4 (by decide) (by decide) 0 (by decide) (by decide) 10 (by decide) (by decide)) q_cX12_93 q_dX12_isIn (by decide) rfl rfl hl.1 rfl (Nat.le_of_ble_eq_true rfl) dX12_setting_7 (fun y42 H locs f41 ry42 h43 hF hB => ?_)
  obtain ⟨rfl, ly42, uy42, t44⟩ := h43
  obtain rfl : y42 = 1 := by omega
  refine q_cVi (As := [.int (q_i 1)]) (rest := []) cx hB (fun _ h => h) hN hmo kmo (by decide) rfl (r_goes1 l g hN hB.2.1 mo hmo kmo 1 (by decide) (by decide)) q_cX12_85 q_dX12_goes (by decide) rfl rfl hl.1 rfl (Nat.le_of_ble_eq_true rfl) dX12_setting_10 (fun y46 H locs f45 ry46 h47 hF hB => ?_)
  obtain ⟨qy46, z48⟩ := h47
  have z49 : q_z f45 mo 2 = 0 := (hF.z hmo (by rw [kmo]; rfl)).trans hf0
  have z50 : q_z f45 mo 8 = 0 := (hF.z hmo (by rw [kmo]; rfl)).trans hf1
  have z51 : q_z f45 mo 9 = (-1) := (hF.z hmo (by rw [kmo]; rfl)).trans hf2
  have z52 : q_z f45 mo 10 = 0 := (hF.z hmo (by rw [kmo]; rfl)).trans hf3
  have z53 : q_z f45 mo 11 = (-1) := (hF.z hmo (by rw [kmo]; rfl)).trans hf4
  have z54 : q_z f45 mo 21 = 0 := (hF.z hmo (by rw [kmo]; rfl)).trans hf5
  have z55 : q_z f45 mo 22 = 0 := (hF.z hmo (by rw [kmo]; rfl)).trans hf6
  have z56 : q_z f45 mo 40 = 0 := (hF.z hmo (by rw [kmo]; rfl)).trans hf7
  have z57 : q_z f45 sr 0 = 0 := (hF.z hsr (by rw [ksr]; rfl)).trans hf8
  have z58 : q_z f45 sr 1 = 0 := (hF.z hsr (by rw [ksr]; rfl)).trans hf9
  have z59 : q_z f45 sr 2 = 12 := (hF.z hsr (by rw [ksr]; rfl)).trans hf10
  have z60 : q_z f45 sr 3 = 0 := (hF.z hsr (by rw [ksr]; rfl)).trans hf11
  have z61 : q_z f45 sr 4 = 0 := (hF.z hsr (by rw [ksr]; rfl)).trans hf12
  have z62 : q_z f45 sr 5 = 1 := (hF.z hsr (by rw [ksr]; rfl)).trans hf13
  have z63 : q_z f45 sr 6 = 2 := (hF.z hsr (by rw [ksr]; rfl)).trans hf14
  have z64 : q_z f45 sr 7 = 5 := (hF.z hsr (by rw [ksr]; rfl)).trans hf15
  have z65 : q_z f45 sr 8 = 3 := (hF.z hsr (by rw [ksr]; rfl)).trans hf16
  have z66 : q_z f45 sr 9 = 0 := (hF.z hsr (by rw [ksr]; rfl)).trans hf17
  have z67 : q_r f45 mo 1 = bu := (hF.r hmo (by rw [kmo]; rfl)).trans hr0
  have z68 : q_r f45 mo 13 = sr := (hF.r hmo (by rw [kmo]; rfl)).trans hr1
  have z69 : q_r f45 mo 14 = sd := (hF.r hmo (by rw [kmo]; rfl)).trans hr2
  have z70 : q_r f45 mo 15 = as := (hF.r hmo (by rw [kmo]; rfl)).trans hr3
  have z71 : q_r f45 mo 16 = aw := (hF.r hmo (by rw [kmo]; rfl)).trans hr4
  have z72 : q_r f45 mo 17 = pa := (hF.r hmo (by rw [kmo]; rfl)).trans hr5
  have z73 : q_r f45 mo 18 = nm := (hF.r hmo (by rw [kmo]; rfl)).trans hr6
  have z74 : q_r f45 mo 19 = snm := (hF.r hmo (by rw [kmo]; rfl)).trans hr7
  have z75 : q_r f45 mo 20 = anm := (hF.r hmo (by rw [kmo]; rfl)).trans hr8
  subst qy46
  refine q_ifne (tgt := 18) cx ⟨by decide, by decide⟩ dX12_setting_13 (by decide) (fun c76 => ?_) (fun c76 => ?_)
  · refine q_ild_n cx dX12_setting_18 rfl (lv_at hl 1 rfl) ?_
    refine lv_tableOut (tgt := 91) cx.1 cx.2.1 dX12_setting_19 (by rw [q_toInt ⟨by decide, by decide⟩]; omega) (by decide) ?_
    refine q_ald_n cx dX12_setting_91 rfl (lv_at hl 0 rfl) ?_
    refine q_gX12_20 cx hB hmo kmo z68 dX12_setting_92 (fun hb78 kb78 => ?_)
    refine q_ild_n cx dX12_setting_95 rfl (lv_at hl 1 rfl) ?_
    refine q_iald (lo := 0) (hi := 61) (n := 658) cx hB hsr ksr (by decide) rfl rfl (by decide) (by decide) (by decide) rfl z61 dX12_setting_96 (fun lb80 ub80 => ?_)
    refine q_iret cx hr hlk hB dX12_setting_97 ⟨by decide, by decide⟩ ?_
    exact ⟨rfl, z48⟩
  · exact absurd c76 (by omega)
set_option maxHeartbeats 4000000 in
set_option maxRecDepth 100000 in
theorem p_setting5 (l : Launch) (g : q_G) {K : Nat → Nat} {L : List Nat} (hN : L.Nodup) {f : Nat → va_E} (hT : q_Ty g K L f) (mo : Nat) (hmo : mo ∈ L) (kmo : K mo = 12) (a0 : Int) (la0 : 5 ≤ a0) (ua0 : a0 ≤ 5) (bu : Nat) (hbu : bu ∈ L) (kbu : K bu = 150) (sr : Nat) (hsr : sr ∈ L) (ksr : K sr = 151) (sd : Nat) (hsd : sd ∈ L) (ksd : K sd = 152) (as : Nat) (has : as ∈ L) (kas : K as = 153) (aw : Nat) (haw : aw ∈ L) (kaw : K aw = 154) (pa : Nat) (hpa : pa ∈ L) (kpa : K pa = 155) (nm : Nat) (hnm : nm ∈ L) (knm : K nm = 156) (snm : Nat) (hsnm : snm ∈ L) (ksnm : K snm = 157) (anm : Nat) (hanm : anm ∈ L) (kanm : K anm = 158) (hf0 : q_z f mo 2 = 0) (hf1 : q_z f mo 8 = 0) (hf2 : q_z f mo 9 = (-1)) (hf3 : q_z f mo 10 = 0) (hf4 : q_z f mo 11 = (-1)) (hf5 : q_z f mo 21 = 0) (hf6 : q_z f mo 22 = 0) (hf7 : q_z f mo 40 = 0) (hf8 : q_z f sr 0 = 0) (hf9 : q_z f sr 1 = 0) (hf10 : q_z f sr 2 = 12) (hf11 : q_z f sr 3 = 0) (hf12 : q_z f sr 4 = 0) (hf13 : q_z f sr 5 = 1) (hf14 : q_z f sr 6 = 2) (hf15 : q_z f sr 7 = 5) (hf16 : q_z f sr 8 = 3) (hf17 : q_z f sr 9 = 0) (hr0 : q_r f mo 1 = bu) (hr1 : q_r f mo 13 = sr) (hr2 : q_r f mo 14 = sd) (hr3 : q_r f mo 15 = as) (hr4 : q_r f mo 16 = aw) (hr5 : q_r f mo 17 = pa) (hr6 : q_r f mo 18 = nm) (hr7 : q_r f mo 19 = snm) (hr8 : q_r f mo 20 = anm) : q_Ct l g K L yX12_setting cX12_setting 2 (some .int) 2 41 [.ref mo, .int (q_i a0)] f [(12, 0, 40), (150, 0, 599), (151, 0, 657), (152, 0, 657), (153, 0, 657), (154, 0, 657), (155, 0, 3947), (156, 0, 9), (157, 0, 9), (158, 0, 9)] (q_Pi (fun (z : Int) (f1 : Nat → va_E) => z = 0 ∧ q_z f1 mo 0 = 0)) := by
  obtain rfl : a0 = 5 := by omega
  refine q_ofb (by decide +kernel) hN hT (Nat.le_of_ble_eq_true rfl) ?_
  intro p e s m below meth c ls cx hr hlk hB hl
  have hl : lv_has ls 2 [(0, .ref mo), (1, .int (q_i 5))] := hl
  obtain ⟨H, hH⟩ : ∃ H : Heap, H = s.heap := ⟨_, rfl⟩
  obtain ⟨locs, hlocs⟩ : ∃ z : List Loc, z = [] := ⟨_, rfl⟩
  rw [← hH, ← hlocs] at hB
  rw [← hH, ← hlocs]
  refine q_ald_n cx dX12_setting_0 rfl (lv_at hl 0 rfl) ?_
  refine q_ild_n cx dX12_setting_1 rfl (lv_at hl 1 rfl) ?_
  refine q_i2l cx ⟨by decide, by decide⟩ dX12_setting_2 ?_
  refine q_lconst (z := 0) cx (by decide) dX12_setting_3 ?_
  refine lv_ldc2 (v := q_l 10) cx.1 cx.2.1 cx.2.2.2.1 (cx.2.2.2.2 _ q_h1859) dX12_setting_4 ?_
  refine q_cSi (As := [.long (q_l 5), .long (q_l 0), .long (q_l 10)]) (rest := [.ref mo]) cx hB (fun _ h => h) hN (r_isIn l g hN hB.2.1 5 (by decide) (by decide) 0 (by decide) (by decide) 10 (by decide) (by decide)) q_cX12_93 q_dX12_isIn (by decide) rfl rfl hl.1 rfl (Nat.le_of_ble_eq_true rfl) dX12_setting_7 (fun y42 H locs f41 ry42 h43 hF hB => ?_)
  obtain ⟨rfl, ly42, uy42, t44⟩ := h43
  obtain rfl : y42 = 1 := by omega
  refine q_cVi (As := [.int (q_i 1)]) (rest := []) cx hB (fun _ h => h) hN hmo kmo (by decide) rfl (r_goes1 l g hN hB.2.1 mo hmo kmo 1 (by decide) (by decide)) q_cX12_85 q_dX12_goes (by decide) rfl rfl hl.1 rfl (Nat.le_of_ble_eq_true rfl) dX12_setting_10 (fun y46 H locs f45 ry46 h47 hF hB => ?_)
  obtain ⟨qy46, z48⟩ := h47
  have z49 : q_z f45 mo 2 = 0 := (hF.z hmo (by rw [kmo]; rfl)).trans hf0
  have z50 : q_z f45 mo 8 = 0 := (hF.z hmo (by rw [kmo]; rfl)).trans hf1
  have z51 : q_z f45 mo 9 = (-1) := (hF.z hmo (by rw [kmo]; rfl)).trans hf2
  have z52 : q_z f45 mo 10 = 0 := (hF.z hmo (by rw [kmo]; rfl)).trans hf3
  have z53 : q_z f45 mo 11 = (-1) := (hF.z hmo (by rw [kmo]; rfl)).trans hf4
  have z54 : q_z f45 mo 21 = 0 := (hF.z hmo (by rw [kmo]; rfl)).trans hf5
  have z55 : q_z f45 mo 22 = 0 := (hF.z hmo (by rw [kmo]; rfl)).trans hf6
  have z56 : q_z f45 mo 40 = 0 := (hF.z hmo (by rw [kmo]; rfl)).trans hf7
  have z57 : q_z f45 sr 0 = 0 := (hF.z hsr (by rw [ksr]; rfl)).trans hf8
  have z58 : q_z f45 sr 1 = 0 := (hF.z hsr (by rw [ksr]; rfl)).trans hf9
  have z59 : q_z f45 sr 2 = 12 := (hF.z hsr (by rw [ksr]; rfl)).trans hf10
  have z60 : q_z f45 sr 3 = 0 := (hF.z hsr (by rw [ksr]; rfl)).trans hf11
  have z61 : q_z f45 sr 4 = 0 := (hF.z hsr (by rw [ksr]; rfl)).trans hf12
  have z62 : q_z f45 sr 5 = 1 := (hF.z hsr (by rw [ksr]; rfl)).trans hf13
  have z63 : q_z f45 sr 6 = 2 := (hF.z hsr (by rw [ksr]; rfl)).trans hf14
  have z64 : q_z f45 sr 7 = 5 := (hF.z hsr (by rw [ksr]; rfl)).trans hf15
  have z65 : q_z f45 sr 8 = 3 := (hF.z hsr (by rw [ksr]; rfl)).trans hf16
  have z66 : q_z f45 sr 9 = 0 := (hF.z hsr (by rw [ksr]; rfl)).trans hf17
  have z67 : q_r f45 mo 1 = bu := (hF.r hmo (by rw [kmo]; rfl)).trans hr0
  have z68 : q_r f45 mo 13 = sr := (hF.r hmo (by rw [kmo]; rfl)).trans hr1
  have z69 : q_r f45 mo 14 = sd := (hF.r hmo (by rw [kmo]; rfl)).trans hr2
  have z70 : q_r f45 mo 15 = as := (hF.r hmo (by rw [kmo]; rfl)).trans hr3
  have z71 : q_r f45 mo 16 = aw := (hF.r hmo (by rw [kmo]; rfl)).trans hr4
  have z72 : q_r f45 mo 17 = pa := (hF.r hmo (by rw [kmo]; rfl)).trans hr5
  have z73 : q_r f45 mo 18 = nm := (hF.r hmo (by rw [kmo]; rfl)).trans hr6
  have z74 : q_r f45 mo 19 = snm := (hF.r hmo (by rw [kmo]; rfl)).trans hr7
  have z75 : q_r f45 mo 20 = anm := (hF.r hmo (by rw [kmo]; rfl)).trans hr8
  subst qy46
  refine q_ifne (tgt := 18) cx ⟨by decide, by decide⟩ dX12_setting_13 (by decide) (fun c76 => ?_) (fun c76 => ?_)
  · refine q_ild_n cx dX12_setting_18 rfl (lv_at hl 1 rfl) ?_
    refine lv_tableIn (tgt := 56) cx.1 cx.2.1 dX12_setting_19 (by rw [q_toInt ⟨by decide, by decide⟩]; omega) (by rw [q_toInt ⟨by decide, by decide⟩]; omega) (off := 37) (by rw [q_toInt ⟨by decide, by decide⟩]; rfl) (by decide) ?_
    refine q_ald_n cx dX12_setting_56 rfl (lv_at hl 0 rfl) ?_
    refine q_iconst cx dX12_setting_57 ?_
    refine q_cVi (As := [.int (q_i 1)]) (rest := []) cx hB (fun _ h => h) hN hmo kmo (by decide) rfl (r_inState0 l g hN hB.2.1 mo hmo kmo 1 (by decide) (by decide) sr hsr ksr z61 z68) q_cX12_343 q_dX12_inState (by decide) rfl rfl hl.1 rfl (Nat.le_of_ble_eq_true rfl) dX12_setting_58 (fun y79 H locs f78 ry79 h80 hF hB => ?_)
    obtain ⟨rfl, qy79⟩ := h80
    subst qy79
    refine q_iret cx hr hlk hB dX12_setting_61 ⟨by decide, by decide⟩ ?_
    exact ⟨rfl, z48⟩
  · exact absurd c76 (by omega)
set_option maxHeartbeats 4000000 in
set_option maxRecDepth 100000 in
theorem p_setting6 (l : Launch) (g : q_G) {K : Nat → Nat} {L : List Nat} (hN : L.Nodup) {f : Nat → va_E} (hT : q_Ty g K L f) (mo : Nat) (hmo : mo ∈ L) (kmo : K mo = 12) (a0 : Int) (la0 : 6 ≤ a0) (ua0 : a0 ≤ 6) (bu : Nat) (hbu : bu ∈ L) (kbu : K bu = 150) (sr : Nat) (hsr : sr ∈ L) (ksr : K sr = 151) (sd : Nat) (hsd : sd ∈ L) (ksd : K sd = 152) (as : Nat) (has : as ∈ L) (kas : K as = 153) (aw : Nat) (haw : aw ∈ L) (kaw : K aw = 154) (pa : Nat) (hpa : pa ∈ L) (kpa : K pa = 155) (nm : Nat) (hnm : nm ∈ L) (knm : K nm = 156) (snm : Nat) (hsnm : snm ∈ L) (ksnm : K snm = 157) (anm : Nat) (hanm : anm ∈ L) (kanm : K anm = 158) (hf0 : q_z f mo 2 = 0) (hf1 : q_z f mo 8 = 0) (hf2 : q_z f mo 9 = (-1)) (hf3 : q_z f mo 10 = 0) (hf4 : q_z f mo 11 = (-1)) (hf5 : q_z f mo 21 = 0) (hf6 : q_z f mo 22 = 0) (hf7 : q_z f mo 40 = 0) (hf8 : q_z f sr 0 = 0) (hf9 : q_z f sr 1 = 0) (hf10 : q_z f sr 2 = 12) (hf11 : q_z f sr 3 = 0) (hf12 : q_z f sr 4 = 0) (hf13 : q_z f sr 5 = 1) (hf14 : q_z f sr 6 = 2) (hf15 : q_z f sr 7 = 5) (hf16 : q_z f sr 8 = 3) (hf17 : q_z f sr 9 = 0) (hr0 : q_r f mo 1 = bu) (hr1 : q_r f mo 13 = sr) (hr2 : q_r f mo 14 = sd) (hr3 : q_r f mo 15 = as) (hr4 : q_r f mo 16 = aw) (hr5 : q_r f mo 17 = pa) (hr6 : q_r f mo 18 = nm) (hr7 : q_r f mo 19 = snm) (hr8 : q_r f mo 20 = anm) : q_Ct l g K L yX12_setting cX12_setting 2 (some .int) 2 41 [.ref mo, .int (q_i a0)] f [(12, 0, 40), (150, 0, 599), (151, 0, 657), (152, 0, 657), (153, 0, 657), (154, 0, 657), (155, 0, 3947), (156, 0, 9), (157, 0, 9), (158, 0, 9)] (q_Pi (fun (z : Int) (f1 : Nat → va_E) => z = 0 ∧ q_z f1 mo 0 = 0)) := by
  obtain rfl : a0 = 6 := by omega
  refine q_ofb (by decide +kernel) hN hT (Nat.le_of_ble_eq_true rfl) ?_
  intro p e s m below meth c ls cx hr hlk hB hl
  have hl : lv_has ls 2 [(0, .ref mo), (1, .int (q_i 6))] := hl
  obtain ⟨H, hH⟩ : ∃ H : Heap, H = s.heap := ⟨_, rfl⟩
  obtain ⟨locs, hlocs⟩ : ∃ z : List Loc, z = [] := ⟨_, rfl⟩
  rw [← hH, ← hlocs] at hB
  rw [← hH, ← hlocs]
  refine q_ald_n cx dX12_setting_0 rfl (lv_at hl 0 rfl) ?_
  refine q_ild_n cx dX12_setting_1 rfl (lv_at hl 1 rfl) ?_
  refine q_i2l cx ⟨by decide, by decide⟩ dX12_setting_2 ?_
  refine q_lconst (z := 0) cx (by decide) dX12_setting_3 ?_
  refine lv_ldc2 (v := q_l 10) cx.1 cx.2.1 cx.2.2.2.1 (cx.2.2.2.2 _ q_h1859) dX12_setting_4 ?_
  refine q_cSi (As := [.long (q_l 6), .long (q_l 0), .long (q_l 10)]) (rest := [.ref mo]) cx hB (fun _ h => h) hN (r_isIn l g hN hB.2.1 6 (by decide) (by decide) 0 (by decide) (by decide) 10 (by decide) (by decide)) q_cX12_93 q_dX12_isIn (by decide) rfl rfl hl.1 rfl (Nat.le_of_ble_eq_true rfl) dX12_setting_7 (fun y42 H locs f41 ry42 h43 hF hB => ?_)
  obtain ⟨rfl, ly42, uy42, t44⟩ := h43
  obtain rfl : y42 = 1 := by omega
  refine q_cVi (As := [.int (q_i 1)]) (rest := []) cx hB (fun _ h => h) hN hmo kmo (by decide) rfl (r_goes1 l g hN hB.2.1 mo hmo kmo 1 (by decide) (by decide)) q_cX12_85 q_dX12_goes (by decide) rfl rfl hl.1 rfl (Nat.le_of_ble_eq_true rfl) dX12_setting_10 (fun y46 H locs f45 ry46 h47 hF hB => ?_)
  obtain ⟨qy46, z48⟩ := h47
  have z49 : q_z f45 mo 2 = 0 := (hF.z hmo (by rw [kmo]; rfl)).trans hf0
  have z50 : q_z f45 mo 8 = 0 := (hF.z hmo (by rw [kmo]; rfl)).trans hf1
  have z51 : q_z f45 mo 9 = (-1) := (hF.z hmo (by rw [kmo]; rfl)).trans hf2
  have z52 : q_z f45 mo 10 = 0 := (hF.z hmo (by rw [kmo]; rfl)).trans hf3
  have z53 : q_z f45 mo 11 = (-1) := (hF.z hmo (by rw [kmo]; rfl)).trans hf4
  have z54 : q_z f45 mo 21 = 0 := (hF.z hmo (by rw [kmo]; rfl)).trans hf5
  have z55 : q_z f45 mo 22 = 0 := (hF.z hmo (by rw [kmo]; rfl)).trans hf6
  have z56 : q_z f45 mo 40 = 0 := (hF.z hmo (by rw [kmo]; rfl)).trans hf7
  have z57 : q_z f45 sr 0 = 0 := (hF.z hsr (by rw [ksr]; rfl)).trans hf8
  have z58 : q_z f45 sr 1 = 0 := (hF.z hsr (by rw [ksr]; rfl)).trans hf9
  have z59 : q_z f45 sr 2 = 12 := (hF.z hsr (by rw [ksr]; rfl)).trans hf10
  have z60 : q_z f45 sr 3 = 0 := (hF.z hsr (by rw [ksr]; rfl)).trans hf11
  have z61 : q_z f45 sr 4 = 0 := (hF.z hsr (by rw [ksr]; rfl)).trans hf12
  have z62 : q_z f45 sr 5 = 1 := (hF.z hsr (by rw [ksr]; rfl)).trans hf13
  have z63 : q_z f45 sr 6 = 2 := (hF.z hsr (by rw [ksr]; rfl)).trans hf14
  have z64 : q_z f45 sr 7 = 5 := (hF.z hsr (by rw [ksr]; rfl)).trans hf15
  have z65 : q_z f45 sr 8 = 3 := (hF.z hsr (by rw [ksr]; rfl)).trans hf16
  have z66 : q_z f45 sr 9 = 0 := (hF.z hsr (by rw [ksr]; rfl)).trans hf17
  have z67 : q_r f45 mo 1 = bu := (hF.r hmo (by rw [kmo]; rfl)).trans hr0
  have z68 : q_r f45 mo 13 = sr := (hF.r hmo (by rw [kmo]; rfl)).trans hr1
  have z69 : q_r f45 mo 14 = sd := (hF.r hmo (by rw [kmo]; rfl)).trans hr2
  have z70 : q_r f45 mo 15 = as := (hF.r hmo (by rw [kmo]; rfl)).trans hr3
  have z71 : q_r f45 mo 16 = aw := (hF.r hmo (by rw [kmo]; rfl)).trans hr4
  have z72 : q_r f45 mo 17 = pa := (hF.r hmo (by rw [kmo]; rfl)).trans hr5
  have z73 : q_r f45 mo 18 = nm := (hF.r hmo (by rw [kmo]; rfl)).trans hr6
  have z74 : q_r f45 mo 19 = snm := (hF.r hmo (by rw [kmo]; rfl)).trans hr7
  have z75 : q_r f45 mo 20 = anm := (hF.r hmo (by rw [kmo]; rfl)).trans hr8
  subst qy46
  refine q_ifne (tgt := 18) cx ⟨by decide, by decide⟩ dX12_setting_13 (by decide) (fun c76 => ?_) (fun c76 => ?_)
  · refine q_ild_n cx dX12_setting_18 rfl (lv_at hl 1 rfl) ?_
    refine lv_tableIn (tgt := 62) cx.1 cx.2.1 dX12_setting_19 (by rw [q_toInt ⟨by decide, by decide⟩]; omega) (by rw [q_toInt ⟨by decide, by decide⟩]; omega) (off := 43) (by rw [q_toInt ⟨by decide, by decide⟩]; rfl) (by decide) ?_
    refine q_ald_n cx dX12_setting_62 rfl (lv_at hl 0 rfl) ?_
    refine q_cVi (As := []) (rest := []) cx hB (fun _ h => h) hN hmo kmo (by decide) rfl (r_inTime0 l g hN hB.2.1 mo hmo kmo sr hsr ksr z61 z68) q_cX12_346 q_dX12_inTime (by decide) rfl rfl hl.1 rfl (Nat.le_of_ble_eq_true rfl) dX12_setting_63 (fun y79 H locs f78 ry79 h80 hF hB => ?_)
    obtain ⟨rfl, qy79⟩ := h80
    subst qy79
    refine q_iret cx hr hlk hB dX12_setting_66 ⟨by decide, by decide⟩ ?_
    exact ⟨rfl, z48⟩
  · exact absurd c76 (by omega)
set_option maxHeartbeats 4000000 in
set_option maxRecDepth 100000 in
theorem p_setting7 (l : Launch) (g : q_G) {K : Nat → Nat} {L : List Nat} (hN : L.Nodup) {f : Nat → va_E} (hT : q_Ty g K L f) (mo : Nat) (hmo : mo ∈ L) (kmo : K mo = 12) (a0 : Int) (la0 : 7 ≤ a0) (ua0 : a0 ≤ 7) (bu : Nat) (hbu : bu ∈ L) (kbu : K bu = 150) (sr : Nat) (hsr : sr ∈ L) (ksr : K sr = 151) (sd : Nat) (hsd : sd ∈ L) (ksd : K sd = 152) (as : Nat) (has : as ∈ L) (kas : K as = 153) (aw : Nat) (haw : aw ∈ L) (kaw : K aw = 154) (pa : Nat) (hpa : pa ∈ L) (kpa : K pa = 155) (nm : Nat) (hnm : nm ∈ L) (knm : K nm = 156) (snm : Nat) (hsnm : snm ∈ L) (ksnm : K snm = 157) (anm : Nat) (hanm : anm ∈ L) (kanm : K anm = 158) (hf0 : q_z f mo 2 = 0) (hf1 : q_z f mo 8 = 0) (hf2 : q_z f mo 9 = (-1)) (hf3 : q_z f mo 10 = 0) (hf4 : q_z f mo 11 = (-1)) (hf5 : q_z f mo 21 = 0) (hf6 : q_z f mo 22 = 0) (hf7 : q_z f mo 40 = 0) (hf8 : q_z f sr 0 = 0) (hf9 : q_z f sr 1 = 0) (hf10 : q_z f sr 2 = 12) (hf11 : q_z f sr 3 = 0) (hf12 : q_z f sr 4 = 0) (hf13 : q_z f sr 5 = 1) (hf14 : q_z f sr 6 = 2) (hf15 : q_z f sr 7 = 5) (hf16 : q_z f sr 8 = 3) (hf17 : q_z f sr 9 = 0) (hr0 : q_r f mo 1 = bu) (hr1 : q_r f mo 13 = sr) (hr2 : q_r f mo 14 = sd) (hr3 : q_r f mo 15 = as) (hr4 : q_r f mo 16 = aw) (hr5 : q_r f mo 17 = pa) (hr6 : q_r f mo 18 = nm) (hr7 : q_r f mo 19 = snm) (hr8 : q_r f mo 20 = anm) : q_Ct l g K L yX12_setting cX12_setting 2 (some .int) 2 41 [.ref mo, .int (q_i a0)] f [(12, 0, 40), (150, 0, 599), (151, 0, 657), (152, 0, 657), (153, 0, 657), (154, 0, 657), (155, 0, 3947), (156, 0, 9), (157, 0, 9), (158, 0, 9)] (q_Pi (fun (z : Int) (f1 : Nat → va_E) => z = 0 ∧ q_z f1 mo 0 = 0)) := by
  obtain rfl : a0 = 7 := by omega
  refine q_ofb (by decide +kernel) hN hT (Nat.le_of_ble_eq_true rfl) ?_
  intro p e s m below meth c ls cx hr hlk hB hl
  have hl : lv_has ls 2 [(0, .ref mo), (1, .int (q_i 7))] := hl
  obtain ⟨H, hH⟩ : ∃ H : Heap, H = s.heap := ⟨_, rfl⟩
  obtain ⟨locs, hlocs⟩ : ∃ z : List Loc, z = [] := ⟨_, rfl⟩
  rw [← hH, ← hlocs] at hB
  rw [← hH, ← hlocs]
  refine q_ald_n cx dX12_setting_0 rfl (lv_at hl 0 rfl) ?_
  refine q_ild_n cx dX12_setting_1 rfl (lv_at hl 1 rfl) ?_
  refine q_i2l cx ⟨by decide, by decide⟩ dX12_setting_2 ?_
  refine q_lconst (z := 0) cx (by decide) dX12_setting_3 ?_
  refine lv_ldc2 (v := q_l 10) cx.1 cx.2.1 cx.2.2.2.1 (cx.2.2.2.2 _ q_h1859) dX12_setting_4 ?_
  refine q_cSi (As := [.long (q_l 7), .long (q_l 0), .long (q_l 10)]) (rest := [.ref mo]) cx hB (fun _ h => h) hN (r_isIn l g hN hB.2.1 7 (by decide) (by decide) 0 (by decide) (by decide) 10 (by decide) (by decide)) q_cX12_93 q_dX12_isIn (by decide) rfl rfl hl.1 rfl (Nat.le_of_ble_eq_true rfl) dX12_setting_7 (fun y42 H locs f41 ry42 h43 hF hB => ?_)
  obtain ⟨rfl, ly42, uy42, t44⟩ := h43
  obtain rfl : y42 = 1 := by omega
  refine q_cVi (As := [.int (q_i 1)]) (rest := []) cx hB (fun _ h => h) hN hmo kmo (by decide) rfl (r_goes1 l g hN hB.2.1 mo hmo kmo 1 (by decide) (by decide)) q_cX12_85 q_dX12_goes (by decide) rfl rfl hl.1 rfl (Nat.le_of_ble_eq_true rfl) dX12_setting_10 (fun y46 H locs f45 ry46 h47 hF hB => ?_)
  obtain ⟨qy46, z48⟩ := h47
  have z49 : q_z f45 mo 2 = 0 := (hF.z hmo (by rw [kmo]; rfl)).trans hf0
  have z50 : q_z f45 mo 8 = 0 := (hF.z hmo (by rw [kmo]; rfl)).trans hf1
  have z51 : q_z f45 mo 9 = (-1) := (hF.z hmo (by rw [kmo]; rfl)).trans hf2
  have z52 : q_z f45 mo 10 = 0 := (hF.z hmo (by rw [kmo]; rfl)).trans hf3
  have z53 : q_z f45 mo 11 = (-1) := (hF.z hmo (by rw [kmo]; rfl)).trans hf4
  have z54 : q_z f45 mo 21 = 0 := (hF.z hmo (by rw [kmo]; rfl)).trans hf5
  have z55 : q_z f45 mo 22 = 0 := (hF.z hmo (by rw [kmo]; rfl)).trans hf6
  have z56 : q_z f45 mo 40 = 0 := (hF.z hmo (by rw [kmo]; rfl)).trans hf7
  have z57 : q_z f45 sr 0 = 0 := (hF.z hsr (by rw [ksr]; rfl)).trans hf8
  have z58 : q_z f45 sr 1 = 0 := (hF.z hsr (by rw [ksr]; rfl)).trans hf9
  have z59 : q_z f45 sr 2 = 12 := (hF.z hsr (by rw [ksr]; rfl)).trans hf10
  have z60 : q_z f45 sr 3 = 0 := (hF.z hsr (by rw [ksr]; rfl)).trans hf11
  have z61 : q_z f45 sr 4 = 0 := (hF.z hsr (by rw [ksr]; rfl)).trans hf12
  have z62 : q_z f45 sr 5 = 1 := (hF.z hsr (by rw [ksr]; rfl)).trans hf13
  have z63 : q_z f45 sr 6 = 2 := (hF.z hsr (by rw [ksr]; rfl)).trans hf14
  have z64 : q_z f45 sr 7 = 5 := (hF.z hsr (by rw [ksr]; rfl)).trans hf15
  have z65 : q_z f45 sr 8 = 3 := (hF.z hsr (by rw [ksr]; rfl)).trans hf16
  have z66 : q_z f45 sr 9 = 0 := (hF.z hsr (by rw [ksr]; rfl)).trans hf17
  have z67 : q_r f45 mo 1 = bu := (hF.r hmo (by rw [kmo]; rfl)).trans hr0
  have z68 : q_r f45 mo 13 = sr := (hF.r hmo (by rw [kmo]; rfl)).trans hr1
  have z69 : q_r f45 mo 14 = sd := (hF.r hmo (by rw [kmo]; rfl)).trans hr2
  have z70 : q_r f45 mo 15 = as := (hF.r hmo (by rw [kmo]; rfl)).trans hr3
  have z71 : q_r f45 mo 16 = aw := (hF.r hmo (by rw [kmo]; rfl)).trans hr4
  have z72 : q_r f45 mo 17 = pa := (hF.r hmo (by rw [kmo]; rfl)).trans hr5
  have z73 : q_r f45 mo 18 = nm := (hF.r hmo (by rw [kmo]; rfl)).trans hr6
  have z74 : q_r f45 mo 19 = snm := (hF.r hmo (by rw [kmo]; rfl)).trans hr7
  have z75 : q_r f45 mo 20 = anm := (hF.r hmo (by rw [kmo]; rfl)).trans hr8
  subst qy46
  refine q_ifne (tgt := 18) cx ⟨by decide, by decide⟩ dX12_setting_13 (by decide) (fun c76 => ?_) (fun c76 => ?_)
  · refine q_ild_n cx dX12_setting_18 rfl (lv_at hl 1 rfl) ?_
    refine lv_tableIn (tgt := 67) cx.1 cx.2.1 dX12_setting_19 (by rw [q_toInt ⟨by decide, by decide⟩]; omega) (by rw [q_toInt ⟨by decide, by decide⟩]; omega) (off := 48) (by rw [q_toInt ⟨by decide, by decide⟩]; rfl) (by decide) ?_
    refine q_ald_n cx dX12_setting_67 rfl (lv_at hl 0 rfl) ?_
    refine q_iconst cx dX12_setting_68 ?_
    refine q_cVi (As := [.int (q_i 2)]) (rest := []) cx hB (fun _ h => h) hN hmo kmo (by decide) rfl (r_inState0 l g hN hB.2.1 mo hmo kmo 2 (by decide) (by decide) sr hsr ksr z61 z68) q_cX12_343 q_dX12_inState (by decide) rfl rfl hl.1 rfl (Nat.le_of_ble_eq_true rfl) dX12_setting_69 (fun y79 H locs f78 ry79 h80 hF hB => ?_)
    obtain ⟨rfl, qy79⟩ := h80
    subst qy79
    refine q_iret cx hr hlk hB dX12_setting_72 ⟨by decide, by decide⟩ ?_
    exact ⟨rfl, z48⟩
  · exact absurd c76 (by omega)
set_option maxHeartbeats 4000000 in
set_option maxRecDepth 100000 in
theorem p_setting8 (l : Launch) (g : q_G) {K : Nat → Nat} {L : List Nat} (hN : L.Nodup) {f : Nat → va_E} (hT : q_Ty g K L f) (mo : Nat) (hmo : mo ∈ L) (kmo : K mo = 12) (a0 : Int) (la0 : 8 ≤ a0) (ua0 : a0 ≤ 8) (bu : Nat) (hbu : bu ∈ L) (kbu : K bu = 150) (sr : Nat) (hsr : sr ∈ L) (ksr : K sr = 151) (sd : Nat) (hsd : sd ∈ L) (ksd : K sd = 152) (as : Nat) (has : as ∈ L) (kas : K as = 153) (aw : Nat) (haw : aw ∈ L) (kaw : K aw = 154) (pa : Nat) (hpa : pa ∈ L) (kpa : K pa = 155) (nm : Nat) (hnm : nm ∈ L) (knm : K nm = 156) (snm : Nat) (hsnm : snm ∈ L) (ksnm : K snm = 157) (anm : Nat) (hanm : anm ∈ L) (kanm : K anm = 158) (hf0 : q_z f mo 2 = 0) (hf1 : q_z f mo 8 = 0) (hf2 : q_z f mo 9 = (-1)) (hf3 : q_z f mo 10 = 0) (hf4 : q_z f mo 11 = (-1)) (hf5 : q_z f mo 21 = 0) (hf6 : q_z f mo 22 = 0) (hf7 : q_z f mo 40 = 0) (hf8 : q_z f sr 0 = 0) (hf9 : q_z f sr 1 = 0) (hf10 : q_z f sr 2 = 12) (hf11 : q_z f sr 3 = 0) (hf12 : q_z f sr 4 = 0) (hf13 : q_z f sr 5 = 1) (hf14 : q_z f sr 6 = 2) (hf15 : q_z f sr 7 = 5) (hf16 : q_z f sr 8 = 3) (hf17 : q_z f sr 9 = 0) (hr0 : q_r f mo 1 = bu) (hr1 : q_r f mo 13 = sr) (hr2 : q_r f mo 14 = sd) (hr3 : q_r f mo 15 = as) (hr4 : q_r f mo 16 = aw) (hr5 : q_r f mo 17 = pa) (hr6 : q_r f mo 18 = nm) (hr7 : q_r f mo 19 = snm) (hr8 : q_r f mo 20 = anm) : q_Ct l g K L yX12_setting cX12_setting 2 (some .int) 2 41 [.ref mo, .int (q_i a0)] f [(12, 0, 40), (150, 0, 599), (151, 0, 657), (152, 0, 657), (153, 0, 657), (154, 0, 657), (155, 0, 3947), (156, 0, 9), (157, 0, 9), (158, 0, 9)] (q_Pi (fun (z : Int) (f1 : Nat → va_E) => z = 0 ∧ q_z f1 mo 0 = 0)) := by
  obtain rfl : a0 = 8 := by omega
  refine q_ofb (by decide +kernel) hN hT (Nat.le_of_ble_eq_true rfl) ?_
  intro p e s m below meth c ls cx hr hlk hB hl
  have hl : lv_has ls 2 [(0, .ref mo), (1, .int (q_i 8))] := hl
  obtain ⟨H, hH⟩ : ∃ H : Heap, H = s.heap := ⟨_, rfl⟩
  obtain ⟨locs, hlocs⟩ : ∃ z : List Loc, z = [] := ⟨_, rfl⟩
  rw [← hH, ← hlocs] at hB
  rw [← hH, ← hlocs]
  refine q_ald_n cx dX12_setting_0 rfl (lv_at hl 0 rfl) ?_
  refine q_ild_n cx dX12_setting_1 rfl (lv_at hl 1 rfl) ?_
  refine q_i2l cx ⟨by decide, by decide⟩ dX12_setting_2 ?_
  refine q_lconst (z := 0) cx (by decide) dX12_setting_3 ?_
  refine lv_ldc2 (v := q_l 10) cx.1 cx.2.1 cx.2.2.2.1 (cx.2.2.2.2 _ q_h1859) dX12_setting_4 ?_
  refine q_cSi (As := [.long (q_l 8), .long (q_l 0), .long (q_l 10)]) (rest := [.ref mo]) cx hB (fun _ h => h) hN (r_isIn l g hN hB.2.1 8 (by decide) (by decide) 0 (by decide) (by decide) 10 (by decide) (by decide)) q_cX12_93 q_dX12_isIn (by decide) rfl rfl hl.1 rfl (Nat.le_of_ble_eq_true rfl) dX12_setting_7 (fun y42 H locs f41 ry42 h43 hF hB => ?_)
  obtain ⟨rfl, ly42, uy42, t44⟩ := h43
  obtain rfl : y42 = 1 := by omega
  refine q_cVi (As := [.int (q_i 1)]) (rest := []) cx hB (fun _ h => h) hN hmo kmo (by decide) rfl (r_goes1 l g hN hB.2.1 mo hmo kmo 1 (by decide) (by decide)) q_cX12_85 q_dX12_goes (by decide) rfl rfl hl.1 rfl (Nat.le_of_ble_eq_true rfl) dX12_setting_10 (fun y46 H locs f45 ry46 h47 hF hB => ?_)
  obtain ⟨qy46, z48⟩ := h47
  have z49 : q_z f45 mo 2 = 0 := (hF.z hmo (by rw [kmo]; rfl)).trans hf0
  have z50 : q_z f45 mo 8 = 0 := (hF.z hmo (by rw [kmo]; rfl)).trans hf1
  have z51 : q_z f45 mo 9 = (-1) := (hF.z hmo (by rw [kmo]; rfl)).trans hf2
  have z52 : q_z f45 mo 10 = 0 := (hF.z hmo (by rw [kmo]; rfl)).trans hf3
  have z53 : q_z f45 mo 11 = (-1) := (hF.z hmo (by rw [kmo]; rfl)).trans hf4
  have z54 : q_z f45 mo 21 = 0 := (hF.z hmo (by rw [kmo]; rfl)).trans hf5
  have z55 : q_z f45 mo 22 = 0 := (hF.z hmo (by rw [kmo]; rfl)).trans hf6
  have z56 : q_z f45 mo 40 = 0 := (hF.z hmo (by rw [kmo]; rfl)).trans hf7
  have z57 : q_z f45 sr 0 = 0 := (hF.z hsr (by rw [ksr]; rfl)).trans hf8
  have z58 : q_z f45 sr 1 = 0 := (hF.z hsr (by rw [ksr]; rfl)).trans hf9
  have z59 : q_z f45 sr 2 = 12 := (hF.z hsr (by rw [ksr]; rfl)).trans hf10
  have z60 : q_z f45 sr 3 = 0 := (hF.z hsr (by rw [ksr]; rfl)).trans hf11
  have z61 : q_z f45 sr 4 = 0 := (hF.z hsr (by rw [ksr]; rfl)).trans hf12
  have z62 : q_z f45 sr 5 = 1 := (hF.z hsr (by rw [ksr]; rfl)).trans hf13
  have z63 : q_z f45 sr 6 = 2 := (hF.z hsr (by rw [ksr]; rfl)).trans hf14
  have z64 : q_z f45 sr 7 = 5 := (hF.z hsr (by rw [ksr]; rfl)).trans hf15
  have z65 : q_z f45 sr 8 = 3 := (hF.z hsr (by rw [ksr]; rfl)).trans hf16
  have z66 : q_z f45 sr 9 = 0 := (hF.z hsr (by rw [ksr]; rfl)).trans hf17
  have z67 : q_r f45 mo 1 = bu := (hF.r hmo (by rw [kmo]; rfl)).trans hr0
  have z68 : q_r f45 mo 13 = sr := (hF.r hmo (by rw [kmo]; rfl)).trans hr1
  have z69 : q_r f45 mo 14 = sd := (hF.r hmo (by rw [kmo]; rfl)).trans hr2
  have z70 : q_r f45 mo 15 = as := (hF.r hmo (by rw [kmo]; rfl)).trans hr3
  have z71 : q_r f45 mo 16 = aw := (hF.r hmo (by rw [kmo]; rfl)).trans hr4
  have z72 : q_r f45 mo 17 = pa := (hF.r hmo (by rw [kmo]; rfl)).trans hr5
  have z73 : q_r f45 mo 18 = nm := (hF.r hmo (by rw [kmo]; rfl)).trans hr6
  have z74 : q_r f45 mo 19 = snm := (hF.r hmo (by rw [kmo]; rfl)).trans hr7
  have z75 : q_r f45 mo 20 = anm := (hF.r hmo (by rw [kmo]; rfl)).trans hr8
  subst qy46
  refine q_ifne (tgt := 18) cx ⟨by decide, by decide⟩ dX12_setting_13 (by decide) (fun c76 => ?_) (fun c76 => ?_)
  · refine q_ild_n cx dX12_setting_18 rfl (lv_at hl 1 rfl) ?_
    refine lv_tableIn (tgt := 73) cx.1 cx.2.1 dX12_setting_19 (by rw [q_toInt ⟨by decide, by decide⟩]; omega) (by rw [q_toInt ⟨by decide, by decide⟩]; omega) (off := 54) (by rw [q_toInt ⟨by decide, by decide⟩]; rfl) (by decide) ?_
    refine q_ald_n cx dX12_setting_73 rfl (lv_at hl 0 rfl) ?_
    refine q_cVi (As := []) (rest := []) cx hB (fun _ h => h) hN hmo kmo (by decide) rfl (r_notOut0 l g hN hB.2.1 mo hmo kmo sr hsr ksr z57 z68) q_cX12_349 q_dX12_notOut (by decide) rfl rfl hl.1 rfl (Nat.le_of_ble_eq_true rfl) dX12_setting_74 (fun y79 H locs f78 ry79 h80 hF hB => ?_)
    obtain ⟨rfl, qy79⟩ := h80
    subst qy79
    refine q_iret cx hr hlk hB dX12_setting_77 ⟨by decide, by decide⟩ ?_
    exact ⟨rfl, z48⟩
  · exact absurd c76 (by omega)
set_option maxHeartbeats 4000000 in
set_option maxRecDepth 100000 in
theorem p_setting9 (l : Launch) (g : q_G) {K : Nat → Nat} {L : List Nat} (hN : L.Nodup) {f : Nat → va_E} (hT : q_Ty g K L f) (mo : Nat) (hmo : mo ∈ L) (kmo : K mo = 12) (a0 : Int) (la0 : 9 ≤ a0) (ua0 : a0 ≤ 9) (bu : Nat) (hbu : bu ∈ L) (kbu : K bu = 150) (sr : Nat) (hsr : sr ∈ L) (ksr : K sr = 151) (sd : Nat) (hsd : sd ∈ L) (ksd : K sd = 152) (as : Nat) (has : as ∈ L) (kas : K as = 153) (aw : Nat) (haw : aw ∈ L) (kaw : K aw = 154) (pa : Nat) (hpa : pa ∈ L) (kpa : K pa = 155) (nm : Nat) (hnm : nm ∈ L) (knm : K nm = 156) (snm : Nat) (hsnm : snm ∈ L) (ksnm : K snm = 157) (anm : Nat) (hanm : anm ∈ L) (kanm : K anm = 158) (hf0 : q_z f mo 2 = 0) (hf1 : q_z f mo 8 = 0) (hf2 : q_z f mo 9 = (-1)) (hf3 : q_z f mo 10 = 0) (hf4 : q_z f mo 11 = (-1)) (hf5 : q_z f mo 21 = 0) (hf6 : q_z f mo 22 = 0) (hf7 : q_z f mo 40 = 0) (hf8 : q_z f sr 0 = 0) (hf9 : q_z f sr 1 = 0) (hf10 : q_z f sr 2 = 12) (hf11 : q_z f sr 3 = 0) (hf12 : q_z f sr 4 = 0) (hf13 : q_z f sr 5 = 1) (hf14 : q_z f sr 6 = 2) (hf15 : q_z f sr 7 = 5) (hf16 : q_z f sr 8 = 3) (hf17 : q_z f sr 9 = 0) (hr0 : q_r f mo 1 = bu) (hr1 : q_r f mo 13 = sr) (hr2 : q_r f mo 14 = sd) (hr3 : q_r f mo 15 = as) (hr4 : q_r f mo 16 = aw) (hr5 : q_r f mo 17 = pa) (hr6 : q_r f mo 18 = nm) (hr7 : q_r f mo 19 = snm) (hr8 : q_r f mo 20 = anm) : q_Ct l g K L yX12_setting cX12_setting 2 (some .int) 2 41 [.ref mo, .int (q_i a0)] f [(12, 0, 40), (150, 0, 599), (151, 0, 657), (152, 0, 657), (153, 0, 657), (154, 0, 657), (155, 0, 3947), (156, 0, 9), (157, 0, 9), (158, 0, 9)] (q_Pi (fun (z : Int) (f1 : Nat → va_E) => z = 0 ∧ q_z f1 mo 0 = 0)) := by
  obtain rfl : a0 = 9 := by omega
  refine q_ofb (by decide +kernel) hN hT (Nat.le_of_ble_eq_true rfl) ?_
  intro p e s m below meth c ls cx hr hlk hB hl
  have hl : lv_has ls 2 [(0, .ref mo), (1, .int (q_i 9))] := hl
  obtain ⟨H, hH⟩ : ∃ H : Heap, H = s.heap := ⟨_, rfl⟩
  obtain ⟨locs, hlocs⟩ : ∃ z : List Loc, z = [] := ⟨_, rfl⟩
  rw [← hH, ← hlocs] at hB
  rw [← hH, ← hlocs]
  refine q_ald_n cx dX12_setting_0 rfl (lv_at hl 0 rfl) ?_
  refine q_ild_n cx dX12_setting_1 rfl (lv_at hl 1 rfl) ?_
  refine q_i2l cx ⟨by decide, by decide⟩ dX12_setting_2 ?_
  refine q_lconst (z := 0) cx (by decide) dX12_setting_3 ?_
  refine lv_ldc2 (v := q_l 10) cx.1 cx.2.1 cx.2.2.2.1 (cx.2.2.2.2 _ q_h1859) dX12_setting_4 ?_
  refine q_cSi (As := [.long (q_l 9), .long (q_l 0), .long (q_l 10)]) (rest := [.ref mo]) cx hB (fun _ h => h) hN (r_isIn l g hN hB.2.1 9 (by decide) (by decide) 0 (by decide) (by decide) 10 (by decide) (by decide)) q_cX12_93 q_dX12_isIn (by decide) rfl rfl hl.1 rfl (Nat.le_of_ble_eq_true rfl) dX12_setting_7 (fun y42 H locs f41 ry42 h43 hF hB => ?_)
  obtain ⟨rfl, ly42, uy42, t44⟩ := h43
  obtain rfl : y42 = 1 := by omega
  refine q_cVi (As := [.int (q_i 1)]) (rest := []) cx hB (fun _ h => h) hN hmo kmo (by decide) rfl (r_goes1 l g hN hB.2.1 mo hmo kmo 1 (by decide) (by decide)) q_cX12_85 q_dX12_goes (by decide) rfl rfl hl.1 rfl (Nat.le_of_ble_eq_true rfl) dX12_setting_10 (fun y46 H locs f45 ry46 h47 hF hB => ?_)
  obtain ⟨qy46, z48⟩ := h47
  have z49 : q_z f45 mo 2 = 0 := (hF.z hmo (by rw [kmo]; rfl)).trans hf0
  have z50 : q_z f45 mo 8 = 0 := (hF.z hmo (by rw [kmo]; rfl)).trans hf1
  have z51 : q_z f45 mo 9 = (-1) := (hF.z hmo (by rw [kmo]; rfl)).trans hf2
  have z52 : q_z f45 mo 10 = 0 := (hF.z hmo (by rw [kmo]; rfl)).trans hf3
  have z53 : q_z f45 mo 11 = (-1) := (hF.z hmo (by rw [kmo]; rfl)).trans hf4
  have z54 : q_z f45 mo 21 = 0 := (hF.z hmo (by rw [kmo]; rfl)).trans hf5
  have z55 : q_z f45 mo 22 = 0 := (hF.z hmo (by rw [kmo]; rfl)).trans hf6
  have z56 : q_z f45 mo 40 = 0 := (hF.z hmo (by rw [kmo]; rfl)).trans hf7
  have z57 : q_z f45 sr 0 = 0 := (hF.z hsr (by rw [ksr]; rfl)).trans hf8
  have z58 : q_z f45 sr 1 = 0 := (hF.z hsr (by rw [ksr]; rfl)).trans hf9
  have z59 : q_z f45 sr 2 = 12 := (hF.z hsr (by rw [ksr]; rfl)).trans hf10
  have z60 : q_z f45 sr 3 = 0 := (hF.z hsr (by rw [ksr]; rfl)).trans hf11
  have z61 : q_z f45 sr 4 = 0 := (hF.z hsr (by rw [ksr]; rfl)).trans hf12
  have z62 : q_z f45 sr 5 = 1 := (hF.z hsr (by rw [ksr]; rfl)).trans hf13
  have z63 : q_z f45 sr 6 = 2 := (hF.z hsr (by rw [ksr]; rfl)).trans hf14
  have z64 : q_z f45 sr 7 = 5 := (hF.z hsr (by rw [ksr]; rfl)).trans hf15
  have z65 : q_z f45 sr 8 = 3 := (hF.z hsr (by rw [ksr]; rfl)).trans hf16
  have z66 : q_z f45 sr 9 = 0 := (hF.z hsr (by rw [ksr]; rfl)).trans hf17
  have z67 : q_r f45 mo 1 = bu := (hF.r hmo (by rw [kmo]; rfl)).trans hr0
  have z68 : q_r f45 mo 13 = sr := (hF.r hmo (by rw [kmo]; rfl)).trans hr1
  have z69 : q_r f45 mo 14 = sd := (hF.r hmo (by rw [kmo]; rfl)).trans hr2
  have z70 : q_r f45 mo 15 = as := (hF.r hmo (by rw [kmo]; rfl)).trans hr3
  have z71 : q_r f45 mo 16 = aw := (hF.r hmo (by rw [kmo]; rfl)).trans hr4
  have z72 : q_r f45 mo 17 = pa := (hF.r hmo (by rw [kmo]; rfl)).trans hr5
  have z73 : q_r f45 mo 18 = nm := (hF.r hmo (by rw [kmo]; rfl)).trans hr6
  have z74 : q_r f45 mo 19 = snm := (hF.r hmo (by rw [kmo]; rfl)).trans hr7
  have z75 : q_r f45 mo 20 = anm := (hF.r hmo (by rw [kmo]; rfl)).trans hr8
  subst qy46
  refine q_ifne (tgt := 18) cx ⟨by decide, by decide⟩ dX12_setting_13 (by decide) (fun c76 => ?_) (fun c76 => ?_)
  · refine q_ild_n cx dX12_setting_18 rfl (lv_at hl 1 rfl) ?_
    refine lv_tableIn (tgt := 78) cx.1 cx.2.1 dX12_setting_19 (by rw [q_toInt ⟨by decide, by decide⟩]; omega) (by rw [q_toInt ⟨by decide, by decide⟩]; omega) (off := 59) (by rw [q_toInt ⟨by decide, by decide⟩]; rfl) (by decide) ?_
    refine q_ald_n cx dX12_setting_78 rfl (lv_at hl 0 rfl) ?_
    refine q_gX12_20 cx hB hmo kmo z68 dX12_setting_79 (fun hb78 kb78 => ?_)
    refine q_bipush cx dX12_setting_82 rfl ?_
    refine q_iald (lo := (-2147483648)) (hi := 2147483647) (n := 658) cx hB hsr ksr (by decide) rfl rfl (by decide) (by decide) (by decide) rfl z66 dX12_setting_84 (fun lb80 ub80 => ?_)
    refine q_iret cx hr hlk hB dX12_setting_85 ⟨by decide, by decide⟩ ?_
    exact ⟨rfl, z48⟩
  · exact absurd c76 (by omega)
set_option maxHeartbeats 4000000 in
set_option maxRecDepth 100000 in
theorem p_setting10 (l : Launch) (g : q_G) {K : Nat → Nat} {L : List Nat} (hN : L.Nodup) {f : Nat → va_E} (hT : q_Ty g K L f) (mo : Nat) (hmo : mo ∈ L) (kmo : K mo = 12) (a0 : Int) (la0 : 10 ≤ a0) (ua0 : a0 ≤ 10) (bu : Nat) (hbu : bu ∈ L) (kbu : K bu = 150) (sr : Nat) (hsr : sr ∈ L) (ksr : K sr = 151) (sd : Nat) (hsd : sd ∈ L) (ksd : K sd = 152) (as : Nat) (has : as ∈ L) (kas : K as = 153) (aw : Nat) (haw : aw ∈ L) (kaw : K aw = 154) (pa : Nat) (hpa : pa ∈ L) (kpa : K pa = 155) (nm : Nat) (hnm : nm ∈ L) (knm : K nm = 156) (snm : Nat) (hsnm : snm ∈ L) (ksnm : K snm = 157) (anm : Nat) (hanm : anm ∈ L) (kanm : K anm = 158) (hf0 : q_z f mo 2 = 0) (hf1 : q_z f mo 8 = 0) (hf2 : q_z f mo 9 = (-1)) (hf3 : q_z f mo 10 = 0) (hf4 : q_z f mo 11 = (-1)) (hf5 : q_z f mo 21 = 0) (hf6 : q_z f mo 22 = 0) (hf7 : q_z f mo 40 = 0) (hf8 : q_z f sr 0 = 0) (hf9 : q_z f sr 1 = 0) (hf10 : q_z f sr 2 = 12) (hf11 : q_z f sr 3 = 0) (hf12 : q_z f sr 4 = 0) (hf13 : q_z f sr 5 = 1) (hf14 : q_z f sr 6 = 2) (hf15 : q_z f sr 7 = 5) (hf16 : q_z f sr 8 = 3) (hf17 : q_z f sr 9 = 0) (hr0 : q_r f mo 1 = bu) (hr1 : q_r f mo 13 = sr) (hr2 : q_r f mo 14 = sd) (hr3 : q_r f mo 15 = as) (hr4 : q_r f mo 16 = aw) (hr5 : q_r f mo 17 = pa) (hr6 : q_r f mo 18 = nm) (hr7 : q_r f mo 19 = snm) (hr8 : q_r f mo 20 = anm) : q_Ct l g K L yX12_setting cX12_setting 2 (some .int) 2 41 [.ref mo, .int (q_i a0)] f [(12, 0, 40), (150, 0, 599), (151, 0, 657), (152, 0, 657), (153, 0, 657), (154, 0, 657), (155, 0, 3947), (156, 0, 9), (157, 0, 9), (158, 0, 9)] (q_Pi (fun (z : Int) (f1 : Nat → va_E) => z = 0 ∧ q_z f1 mo 0 = 0)) := by
  obtain rfl : a0 = 10 := by omega
  refine q_ofb (by decide +kernel) hN hT (Nat.le_of_ble_eq_true rfl) ?_
  intro p e s m below meth c ls cx hr hlk hB hl
  have hl : lv_has ls 2 [(0, .ref mo), (1, .int (q_i 10))] := hl
  obtain ⟨H, hH⟩ : ∃ H : Heap, H = s.heap := ⟨_, rfl⟩
  obtain ⟨locs, hlocs⟩ : ∃ z : List Loc, z = [] := ⟨_, rfl⟩
  rw [← hH, ← hlocs] at hB
  rw [← hH, ← hlocs]
  refine q_ald_n cx dX12_setting_0 rfl (lv_at hl 0 rfl) ?_
  refine q_ild_n cx dX12_setting_1 rfl (lv_at hl 1 rfl) ?_
  refine q_i2l cx ⟨by decide, by decide⟩ dX12_setting_2 ?_
  refine q_lconst (z := 0) cx (by decide) dX12_setting_3 ?_
  refine lv_ldc2 (v := q_l 10) cx.1 cx.2.1 cx.2.2.2.1 (cx.2.2.2.2 _ q_h1859) dX12_setting_4 ?_
  refine q_cSi (As := [.long (q_l 10), .long (q_l 0), .long (q_l 10)]) (rest := [.ref mo]) cx hB (fun _ h => h) hN (r_isIn l g hN hB.2.1 10 (by decide) (by decide) 0 (by decide) (by decide) 10 (by decide) (by decide)) q_cX12_93 q_dX12_isIn (by decide) rfl rfl hl.1 rfl (Nat.le_of_ble_eq_true rfl) dX12_setting_7 (fun y40 H locs f39 ry40 h41 hF hB => ?_)
  obtain ⟨rfl, ly40, uy40, t42⟩ := h41
  obtain rfl : y40 = 1 := by omega
  refine q_cVi (As := [.int (q_i 1)]) (rest := []) cx hB (fun _ h => h) hN hmo kmo (by decide) rfl (r_goes1 l g hN hB.2.1 mo hmo kmo 1 (by decide) (by decide)) q_cX12_85 q_dX12_goes (by decide) rfl rfl hl.1 rfl (Nat.le_of_ble_eq_true rfl) dX12_setting_10 (fun y44 H locs f43 ry44 h45 hF hB => ?_)
  obtain ⟨qy44, z46⟩ := h45
  have z47 : q_z f43 mo 2 = 0 := (hF.z hmo (by rw [kmo]; rfl)).trans hf0
  have z48 : q_z f43 mo 8 = 0 := (hF.z hmo (by rw [kmo]; rfl)).trans hf1
  have z49 : q_z f43 mo 9 = (-1) := (hF.z hmo (by rw [kmo]; rfl)).trans hf2
  have z50 : q_z f43 mo 10 = 0 := (hF.z hmo (by rw [kmo]; rfl)).trans hf3
  have z51 : q_z f43 mo 11 = (-1) := (hF.z hmo (by rw [kmo]; rfl)).trans hf4
  have z52 : q_z f43 mo 21 = 0 := (hF.z hmo (by rw [kmo]; rfl)).trans hf5
  have z53 : q_z f43 mo 22 = 0 := (hF.z hmo (by rw [kmo]; rfl)).trans hf6
  have z54 : q_z f43 mo 40 = 0 := (hF.z hmo (by rw [kmo]; rfl)).trans hf7
  have z55 : q_z f43 sr 0 = 0 := (hF.z hsr (by rw [ksr]; rfl)).trans hf8
  have z56 : q_z f43 sr 1 = 0 := (hF.z hsr (by rw [ksr]; rfl)).trans hf9
  have z57 : q_z f43 sr 2 = 12 := (hF.z hsr (by rw [ksr]; rfl)).trans hf10
  have z58 : q_z f43 sr 3 = 0 := (hF.z hsr (by rw [ksr]; rfl)).trans hf11
  have z59 : q_z f43 sr 4 = 0 := (hF.z hsr (by rw [ksr]; rfl)).trans hf12
  have z60 : q_z f43 sr 5 = 1 := (hF.z hsr (by rw [ksr]; rfl)).trans hf13
  have z61 : q_z f43 sr 6 = 2 := (hF.z hsr (by rw [ksr]; rfl)).trans hf14
  have z62 : q_z f43 sr 7 = 5 := (hF.z hsr (by rw [ksr]; rfl)).trans hf15
  have z63 : q_z f43 sr 8 = 3 := (hF.z hsr (by rw [ksr]; rfl)).trans hf16
  have z64 : q_z f43 sr 9 = 0 := (hF.z hsr (by rw [ksr]; rfl)).trans hf17
  have z65 : q_r f43 mo 1 = bu := (hF.r hmo (by rw [kmo]; rfl)).trans hr0
  have z66 : q_r f43 mo 13 = sr := (hF.r hmo (by rw [kmo]; rfl)).trans hr1
  have z67 : q_r f43 mo 14 = sd := (hF.r hmo (by rw [kmo]; rfl)).trans hr2
  have z68 : q_r f43 mo 15 = as := (hF.r hmo (by rw [kmo]; rfl)).trans hr3
  have z69 : q_r f43 mo 16 = aw := (hF.r hmo (by rw [kmo]; rfl)).trans hr4
  have z70 : q_r f43 mo 17 = pa := (hF.r hmo (by rw [kmo]; rfl)).trans hr5
  have z71 : q_r f43 mo 18 = nm := (hF.r hmo (by rw [kmo]; rfl)).trans hr6
  have z72 : q_r f43 mo 19 = snm := (hF.r hmo (by rw [kmo]; rfl)).trans hr7
  have z73 : q_r f43 mo 20 = anm := (hF.r hmo (by rw [kmo]; rfl)).trans hr8
  subst qy44
  refine q_ifne (tgt := 18) cx ⟨by decide, by decide⟩ dX12_setting_13 (by decide) (fun c74 => ?_) (fun c74 => ?_)
  · refine q_ild_n cx dX12_setting_18 rfl (lv_at hl 1 rfl) ?_
    refine lv_tableIn (tgt := 86) cx.1 cx.2.1 dX12_setting_19 (by rw [q_toInt ⟨by decide, by decide⟩]; omega) (by rw [q_toInt ⟨by decide, by decide⟩]; omega) (off := 67) (by rw [q_toInt ⟨by decide, by decide⟩]; rfl) (by decide) ?_
    refine q_ald_n cx dX12_setting_86 rfl (lv_at hl 0 rfl) ?_
    refine q_gX12_158 cx hB hmo kmo z52 dX12_setting_87 (fun lb76 ub76 => ?_)
    refine q_iret cx hr hlk hB dX12_setting_90 ⟨by decide, by decide⟩ ?_
    exact ⟨rfl, z46⟩
  · exact absurd c74 (by omega)
set_option maxHeartbeats 4000000 in
set_option maxRecDepth 100000 in
theorem p_settinga (l : Launch) (g : q_G) {K : Nat → Nat} {L : List Nat} (hN : L.Nodup) {f : Nat → va_E} (hT : q_Ty g K L f) (mo : Nat) (hmo : mo ∈ L) (kmo : K mo = 12) (a0 : Int) (la0 : (-2147483648) ≤ a0) (ua0 : a0 ≤ (-1)) (bu : Nat) (hbu : bu ∈ L) (kbu : K bu = 150) (sr : Nat) (hsr : sr ∈ L) (ksr : K sr = 151) (sd : Nat) (hsd : sd ∈ L) (ksd : K sd = 152) (as : Nat) (has : as ∈ L) (kas : K as = 153) (aw : Nat) (haw : aw ∈ L) (kaw : K aw = 154) (pa : Nat) (hpa : pa ∈ L) (kpa : K pa = 155) (nm : Nat) (hnm : nm ∈ L) (knm : K nm = 156) (snm : Nat) (hsnm : snm ∈ L) (ksnm : K snm = 157) (anm : Nat) (hanm : anm ∈ L) (kanm : K anm = 158) (hf0 : q_z f mo 2 = 0) (hf1 : q_z f mo 8 = 0) (hf2 : q_z f mo 9 = (-1)) (hf3 : q_z f mo 10 = 0) (hf4 : q_z f mo 11 = (-1)) (hf5 : q_z f mo 21 = 0) (hf6 : q_z f mo 22 = 0) (hf7 : q_z f mo 40 = 0) (hf8 : q_z f sr 0 = 0) (hf9 : q_z f sr 1 = 0) (hf10 : q_z f sr 2 = 12) (hf11 : q_z f sr 3 = 0) (hf12 : q_z f sr 4 = 0) (hf13 : q_z f sr 5 = 1) (hf14 : q_z f sr 6 = 2) (hf15 : q_z f sr 7 = 5) (hf16 : q_z f sr 8 = 3) (hf17 : q_z f sr 9 = 0) (hr0 : q_r f mo 1 = bu) (hr1 : q_r f mo 13 = sr) (hr2 : q_r f mo 14 = sd) (hr3 : q_r f mo 15 = as) (hr4 : q_r f mo 16 = aw) (hr5 : q_r f mo 17 = pa) (hr6 : q_r f mo 18 = nm) (hr7 : q_r f mo 19 = snm) (hr8 : q_r f mo 20 = anm) : q_Ct l g K L yX12_setting cX12_setting 2 (some .int) 2 41 [.ref mo, .int (q_i a0)] f [(12, 0, 40), (150, 0, 599), (151, 0, 657), (152, 0, 657), (153, 0, 657), (154, 0, 657), (155, 0, 3947), (156, 0, 9), (157, 0, 9), (158, 0, 9)] (q_Pi (fun (z : Int) (f1 : Nat → va_E) => z = 0 ∧ q_z f1 mo 0 = 1)) := by
  refine q_ofb (by decide +kernel) hN hT (Nat.le_of_ble_eq_true rfl) ?_
  intro p e s m below meth c ls cx hr hlk hB hl
  have hl : lv_has ls 2 [(0, .ref mo), (1, .int (q_i a0))] := hl
  obtain ⟨H, hH⟩ : ∃ H : Heap, H = s.heap := ⟨_, rfl⟩
  obtain ⟨locs, hlocs⟩ : ∃ z : List Loc, z = [] := ⟨_, rfl⟩
  rw [← hH, ← hlocs] at hB
  rw [← hH, ← hlocs]
  refine q_ald_n cx dX12_setting_0 rfl (lv_at hl 0 rfl) ?_
  refine q_ild_n cx dX12_setting_1 rfl (lv_at hl 1 rfl) ?_
  refine q_i2l cx ⟨by omega, by omega⟩ dX12_setting_2 ?_
  refine q_lconst (z := 0) cx (by decide) dX12_setting_3 ?_
  refine lv_ldc2 (v := q_l 10) cx.1 cx.2.1 cx.2.2.2.1 (cx.2.2.2.2 _ q_h1859) dX12_setting_4 ?_
  refine q_cSi (As := [.long (q_l a0), .long (q_l 0), .long (q_l 10)]) (rest := [.ref mo]) cx hB (fun _ h => h) hN (r_isIn l g hN hB.2.1 a0 (by omega) (by omega) 0 (by decide) (by decide) 10 (by decide) (by decide)) q_cX12_93 q_dX12_isIn (by decide) rfl rfl hl.1 rfl (Nat.le_of_ble_eq_true rfl) dX12_setting_7 (fun y38 H locs f37 ry38 h39 hF hB => ?_)
  obtain ⟨rfl, ly38, uy38, t40⟩ := h39
  obtain rfl : y38 = 0 := by omega
  refine q_cVi (As := [.int (q_i 0)]) (rest := []) cx hB (fun _ h => h) hN hmo kmo (by decide) rfl (r_goes0 l g hN hB.2.1 mo hmo kmo 0 (by decide) (by decide)) q_cX12_85 q_dX12_goes (by decide) rfl rfl hl.1 rfl (Nat.le_of_ble_eq_true rfl) dX12_setting_10 (fun y42 H locs f41 ry42 h43 hF hB => ?_)
  obtain ⟨qy42, z44⟩ := h43
  have z45 : q_z f41 mo 2 = 0 := (hF.z hmo (by rw [kmo]; rfl)).trans hf0
  have z46 : q_z f41 mo 8 = 0 := (hF.z hmo (by rw [kmo]; rfl)).trans hf1
  have z47 : q_z f41 mo 9 = (-1) := (hF.z hmo (by rw [kmo]; rfl)).trans hf2
  have z48 : q_z f41 mo 10 = 0 := (hF.z hmo (by rw [kmo]; rfl)).trans hf3
  have z49 : q_z f41 mo 11 = (-1) := (hF.z hmo (by rw [kmo]; rfl)).trans hf4
  have z50 : q_z f41 mo 21 = 0 := (hF.z hmo (by rw [kmo]; rfl)).trans hf5
  have z51 : q_z f41 mo 22 = 0 := (hF.z hmo (by rw [kmo]; rfl)).trans hf6
  have z52 : q_z f41 mo 40 = 0 := (hF.z hmo (by rw [kmo]; rfl)).trans hf7
  have z53 : q_z f41 sr 0 = 0 := (hF.z hsr (by rw [ksr]; rfl)).trans hf8
  have z54 : q_z f41 sr 1 = 0 := (hF.z hsr (by rw [ksr]; rfl)).trans hf9
  have z55 : q_z f41 sr 2 = 12 := (hF.z hsr (by rw [ksr]; rfl)).trans hf10
  have z56 : q_z f41 sr 3 = 0 := (hF.z hsr (by rw [ksr]; rfl)).trans hf11
  have z57 : q_z f41 sr 4 = 0 := (hF.z hsr (by rw [ksr]; rfl)).trans hf12
  have z58 : q_z f41 sr 5 = 1 := (hF.z hsr (by rw [ksr]; rfl)).trans hf13
  have z59 : q_z f41 sr 6 = 2 := (hF.z hsr (by rw [ksr]; rfl)).trans hf14
  have z60 : q_z f41 sr 7 = 5 := (hF.z hsr (by rw [ksr]; rfl)).trans hf15
  have z61 : q_z f41 sr 8 = 3 := (hF.z hsr (by rw [ksr]; rfl)).trans hf16
  have z62 : q_z f41 sr 9 = 0 := (hF.z hsr (by rw [ksr]; rfl)).trans hf17
  have z63 : q_r f41 mo 1 = bu := (hF.r hmo (by rw [kmo]; rfl)).trans hr0
  have z64 : q_r f41 mo 13 = sr := (hF.r hmo (by rw [kmo]; rfl)).trans hr1
  have z65 : q_r f41 mo 14 = sd := (hF.r hmo (by rw [kmo]; rfl)).trans hr2
  have z66 : q_r f41 mo 15 = as := (hF.r hmo (by rw [kmo]; rfl)).trans hr3
  have z67 : q_r f41 mo 16 = aw := (hF.r hmo (by rw [kmo]; rfl)).trans hr4
  have z68 : q_r f41 mo 17 = pa := (hF.r hmo (by rw [kmo]; rfl)).trans hr5
  have z69 : q_r f41 mo 18 = nm := (hF.r hmo (by rw [kmo]; rfl)).trans hr6
  have z70 : q_r f41 mo 19 = snm := (hF.r hmo (by rw [kmo]; rfl)).trans hr7
  have z71 : q_r f41 mo 20 = anm := (hF.r hmo (by rw [kmo]; rfl)).trans hr8
  subst qy42
  refine q_ifne (tgt := 18) cx ⟨by decide, by decide⟩ dX12_setting_13 (by decide) (fun c72 => ?_) (fun c72 => ?_)
  · exact absurd c72 (by omega)
  · refine q_iconst cx dX12_setting_16 ?_
    refine q_iret cx hr hlk hB dX12_setting_17 ⟨by decide, by decide⟩ ?_
    exact ⟨rfl, z44⟩
set_option maxHeartbeats 4000000 in
set_option maxRecDepth 100000 in
theorem p_settingc (l : Launch) (g : q_G) {K : Nat → Nat} {L : List Nat} (hN : L.Nodup) {f : Nat → va_E} (hT : q_Ty g K L f) (mo : Nat) (hmo : mo ∈ L) (kmo : K mo = 12) (a0 : Int) (la0 : 11 ≤ a0) (ua0 : a0 ≤ 2147483647) (bu : Nat) (hbu : bu ∈ L) (kbu : K bu = 150) (sr : Nat) (hsr : sr ∈ L) (ksr : K sr = 151) (sd : Nat) (hsd : sd ∈ L) (ksd : K sd = 152) (as : Nat) (has : as ∈ L) (kas : K as = 153) (aw : Nat) (haw : aw ∈ L) (kaw : K aw = 154) (pa : Nat) (hpa : pa ∈ L) (kpa : K pa = 155) (nm : Nat) (hnm : nm ∈ L) (knm : K nm = 156) (snm : Nat) (hsnm : snm ∈ L) (ksnm : K snm = 157) (anm : Nat) (hanm : anm ∈ L) (kanm : K anm = 158) (hf0 : q_z f mo 2 = 0) (hf1 : q_z f mo 8 = 0) (hf2 : q_z f mo 9 = (-1)) (hf3 : q_z f mo 10 = 0) (hf4 : q_z f mo 11 = (-1)) (hf5 : q_z f mo 21 = 0) (hf6 : q_z f mo 22 = 0) (hf7 : q_z f mo 40 = 0) (hf8 : q_z f sr 0 = 0) (hf9 : q_z f sr 1 = 0) (hf10 : q_z f sr 2 = 12) (hf11 : q_z f sr 3 = 0) (hf12 : q_z f sr 4 = 0) (hf13 : q_z f sr 5 = 1) (hf14 : q_z f sr 6 = 2) (hf15 : q_z f sr 7 = 5) (hf16 : q_z f sr 8 = 3) (hf17 : q_z f sr 9 = 0) (hr0 : q_r f mo 1 = bu) (hr1 : q_r f mo 13 = sr) (hr2 : q_r f mo 14 = sd) (hr3 : q_r f mo 15 = as) (hr4 : q_r f mo 16 = aw) (hr5 : q_r f mo 17 = pa) (hr6 : q_r f mo 18 = nm) (hr7 : q_r f mo 19 = snm) (hr8 : q_r f mo 20 = anm) : q_Ct l g K L yX12_setting cX12_setting 2 (some .int) 2 41 [.ref mo, .int (q_i a0)] f [(12, 0, 40), (150, 0, 599), (151, 0, 657), (152, 0, 657), (153, 0, 657), (154, 0, 657), (155, 0, 3947), (156, 0, 9), (157, 0, 9), (158, 0, 9)] (q_Pi (fun (z : Int) (f1 : Nat → va_E) => z = 0 ∧ q_z f1 mo 0 = 1)) := by
  refine q_ofb (by decide +kernel) hN hT (Nat.le_of_ble_eq_true rfl) ?_
  intro p e s m below meth c ls cx hr hlk hB hl
  have hl : lv_has ls 2 [(0, .ref mo), (1, .int (q_i a0))] := hl
  obtain ⟨H, hH⟩ : ∃ H : Heap, H = s.heap := ⟨_, rfl⟩
  obtain ⟨locs, hlocs⟩ : ∃ z : List Loc, z = [] := ⟨_, rfl⟩
  rw [← hH, ← hlocs] at hB
  rw [← hH, ← hlocs]
  refine q_ald_n cx dX12_setting_0 rfl (lv_at hl 0 rfl) ?_
  refine q_ild_n cx dX12_setting_1 rfl (lv_at hl 1 rfl) ?_
  refine q_i2l cx ⟨by omega, by omega⟩ dX12_setting_2 ?_
  refine q_lconst (z := 0) cx (by decide) dX12_setting_3 ?_
  refine lv_ldc2 (v := q_l 10) cx.1 cx.2.1 cx.2.2.2.1 (cx.2.2.2.2 _ q_h1859) dX12_setting_4 ?_
  refine q_cSi (As := [.long (q_l a0), .long (q_l 0), .long (q_l 10)]) (rest := [.ref mo]) cx hB (fun _ h => h) hN (r_isIn l g hN hB.2.1 a0 (by omega) (by omega) 0 (by decide) (by decide) 10 (by decide) (by decide)) q_cX12_93 q_dX12_isIn (by decide) rfl rfl hl.1 rfl (Nat.le_of_ble_eq_true rfl) dX12_setting_7 (fun y38 H locs f37 ry38 h39 hF hB => ?_)
  obtain ⟨rfl, ly38, uy38, t40⟩ := h39
  obtain rfl : y38 = 0 := by omega
  refine q_cVi (As := [.int (q_i 0)]) (rest := []) cx hB (fun _ h => h) hN hmo kmo (by decide) rfl (r_goes0 l g hN hB.2.1 mo hmo kmo 0 (by decide) (by decide)) q_cX12_85 q_dX12_goes (by decide) rfl rfl hl.1 rfl (Nat.le_of_ble_eq_true rfl) dX12_setting_10 (fun y42 H locs f41 ry42 h43 hF hB => ?_)
  obtain ⟨qy42, z44⟩ := h43
  have z45 : q_z f41 mo 2 = 0 := (hF.z hmo (by rw [kmo]; rfl)).trans hf0
  have z46 : q_z f41 mo 8 = 0 := (hF.z hmo (by rw [kmo]; rfl)).trans hf1
  have z47 : q_z f41 mo 9 = (-1) := (hF.z hmo (by rw [kmo]; rfl)).trans hf2
  have z48 : q_z f41 mo 10 = 0 := (hF.z hmo (by rw [kmo]; rfl)).trans hf3
  have z49 : q_z f41 mo 11 = (-1) := (hF.z hmo (by rw [kmo]; rfl)).trans hf4
  have z50 : q_z f41 mo 21 = 0 := (hF.z hmo (by rw [kmo]; rfl)).trans hf5
  have z51 : q_z f41 mo 22 = 0 := (hF.z hmo (by rw [kmo]; rfl)).trans hf6
  have z52 : q_z f41 mo 40 = 0 := (hF.z hmo (by rw [kmo]; rfl)).trans hf7
  have z53 : q_z f41 sr 0 = 0 := (hF.z hsr (by rw [ksr]; rfl)).trans hf8
  have z54 : q_z f41 sr 1 = 0 := (hF.z hsr (by rw [ksr]; rfl)).trans hf9
  have z55 : q_z f41 sr 2 = 12 := (hF.z hsr (by rw [ksr]; rfl)).trans hf10
  have z56 : q_z f41 sr 3 = 0 := (hF.z hsr (by rw [ksr]; rfl)).trans hf11
  have z57 : q_z f41 sr 4 = 0 := (hF.z hsr (by rw [ksr]; rfl)).trans hf12
  have z58 : q_z f41 sr 5 = 1 := (hF.z hsr (by rw [ksr]; rfl)).trans hf13
  have z59 : q_z f41 sr 6 = 2 := (hF.z hsr (by rw [ksr]; rfl)).trans hf14
  have z60 : q_z f41 sr 7 = 5 := (hF.z hsr (by rw [ksr]; rfl)).trans hf15
  have z61 : q_z f41 sr 8 = 3 := (hF.z hsr (by rw [ksr]; rfl)).trans hf16
  have z62 : q_z f41 sr 9 = 0 := (hF.z hsr (by rw [ksr]; rfl)).trans hf17
  have z63 : q_r f41 mo 1 = bu := (hF.r hmo (by rw [kmo]; rfl)).trans hr0
  have z64 : q_r f41 mo 13 = sr := (hF.r hmo (by rw [kmo]; rfl)).trans hr1
  have z65 : q_r f41 mo 14 = sd := (hF.r hmo (by rw [kmo]; rfl)).trans hr2
  have z66 : q_r f41 mo 15 = as := (hF.r hmo (by rw [kmo]; rfl)).trans hr3
  have z67 : q_r f41 mo 16 = aw := (hF.r hmo (by rw [kmo]; rfl)).trans hr4
  have z68 : q_r f41 mo 17 = pa := (hF.r hmo (by rw [kmo]; rfl)).trans hr5
  have z69 : q_r f41 mo 18 = nm := (hF.r hmo (by rw [kmo]; rfl)).trans hr6
  have z70 : q_r f41 mo 19 = snm := (hF.r hmo (by rw [kmo]; rfl)).trans hr7
  have z71 : q_r f41 mo 20 = anm := (hF.r hmo (by rw [kmo]; rfl)).trans hr8
  subst qy42
  refine q_ifne (tgt := 18) cx ⟨by decide, by decide⟩ dX12_setting_13 (by decide) (fun c72 => ?_) (fun c72 => ?_)
  · exact absurd c72 (by omega)
  · refine q_iconst cx dX12_setting_16 ?_
    refine q_iret cx hr hlk hB dX12_setting_17 ⟨by decide, by decide⟩ ?_
    exact ⟨rfl, z44⟩
set_option maxHeartbeats 4000000 in
set_option maxRecDepth 100000 in
theorem p_node (l : Launch) (g : q_G) {K : Nat → Nat} {L : List Nat} (hN : L.Nodup) {f : Nat → va_E} (hT : q_Ty g K L f) (mo : Nat) (hmo : mo ∈ L) (kmo : K mo = 12) (a0 : Int) (la0 : (-2147483648) ≤ a0) (ua0 : a0 ≤ 2147483647) (b0 : Int) (lb0 : (-2147483648) ≤ b0) (ub0 : b0 ≤ 2147483647) (bu : Nat) (hbu : bu ∈ L) (kbu : K bu = 150) (sr : Nat) (hsr : sr ∈ L) (ksr : K sr = 151) (sd : Nat) (hsd : sd ∈ L) (ksd : K sd = 152) (as : Nat) (has : as ∈ L) (kas : K as = 153) (aw : Nat) (haw : aw ∈ L) (kaw : K aw = 154) (pa : Nat) (hpa : pa ∈ L) (kpa : K pa = 155) (nm : Nat) (hnm : nm ∈ L) (knm : K nm = 156) (snm : Nat) (hsnm : snm ∈ L) (ksnm : K snm = 157) (anm : Nat) (hanm : anm ∈ L) (kanm : K anm = 158) (hf0 : q_z f mo 2 = 0) (hf1 : q_z f mo 8 = 0) (hf2 : q_z f mo 9 = (-1)) (hf3 : q_z f mo 10 = 0) (hf4 : q_z f mo 11 = (-1)) (hf5 : q_z f mo 21 = 0) (hf6 : q_z f mo 22 = 0) (hf7 : q_z f mo 40 = 0) (hf8 : q_z f sr 0 = 0) (hf9 : q_z f sr 1 = 0) (hf10 : q_z f sr 2 = 12) (hf11 : q_z f sr 3 = 0) (hf12 : q_z f sr 4 = 0) (hf13 : q_z f sr 5 = 1) (hf14 : q_z f sr 6 = 2) (hf15 : q_z f sr 7 = 5) (hf16 : q_z f sr 8 = 3) (hf17 : q_z f sr 9 = 0) (hr0 : q_r f mo 1 = bu) (hr1 : q_r f mo 13 = sr) (hr2 : q_r f mo 14 = sd) (hr3 : q_r f mo 15 = as) (hr4 : q_r f mo 16 = aw) (hr5 : q_r f mo 17 = pa) (hr6 : q_r f mo 18 = nm) (hr7 : q_r f mo 19 = snm) (hr8 : q_r f mo 20 = anm) : q_Ct l g K L yX12_node cX12_node 3 (some .int) 2 46 [.ref mo, .int (q_i a0), .int (q_i b0)] f [(12, 0, 40), (150, 0, 599), (151, 0, 657), (152, 0, 657), (153, 0, 657), (154, 0, 657), (155, 0, 3947), (156, 0, 9), (157, 0, 9), (158, 0, 9)] (q_Pi (fun (z : Int) (f1 : Nat → va_E) => z = 0 ∧ q_z f1 mo 0 = 1)) := by
  refine q_ofb (by decide +kernel) hN hT (Nat.le_of_ble_eq_true rfl) ?_
  intro p e s m below meth c ls cx hr hlk hB hl
  have hl : lv_has ls 3 [(0, .ref mo), (1, .int (q_i a0)), (2, .int (q_i b0))] := hl
  obtain ⟨H, hH⟩ : ∃ H : Heap, H = s.heap := ⟨_, rfl⟩
  obtain ⟨locs, hlocs⟩ : ∃ z : List Loc, z = [] := ⟨_, rfl⟩
  rw [← hH, ← hlocs] at hB
  rw [← hH, ← hlocs]
  refine q_ald_n cx dX12_node_0 rfl (lv_at hl 0 rfl) ?_
  refine q_ald_n cx dX12_node_1 rfl (lv_at hl 0 rfl) ?_
  refine q_ild_n cx dX12_node_2 rfl (lv_at hl 1 rfl) ?_
  refine q_cVi (As := [.int (q_i a0)]) (rest := [.ref mo]) cx hB (fun _ h => h) hN hmo kmo (by decide) rfl (r_isNode0 l g hN hB.2.1 mo hmo kmo a0 (by omega) (by omega) sr hsr ksr hf8 hr1) q_cX12_355 q_dX12_isNode (by decide) rfl rfl hl.1 rfl (Nat.le_of_ble_eq_true rfl) dX12_node_3 (fun y115 H locs f114 ry115 h116 hF hB => ?_)
  obtain ⟨rfl, qy115⟩ := h116
  subst qy115
  refine q_ild_n cx dX12_node_6 rfl (lv_at hl 2 rfl) ?_
  refine q_i2l cx ⟨by omega, by omega⟩ dX12_node_7 ?_
  refine q_lconst (z := 0) cx (by decide) dX12_node_8 ?_
  refine lv_ldc2 (v := q_l 10) cx.1 cx.2.1 cx.2.2.2.1 (cx.2.2.2.2 _ q_h1859) dX12_node_9 ?_
  by_cases c117 : b0 ≤ (-1)
  · refine q_cSi (As := [.long (q_l b0), .long (q_l 0), .long (q_l 10)]) (rest := [.int (q_i 0), .ref mo]) cx hB (fun _ h => h) hN (r_isIn l g hN hB.2.1 b0 (by omega) (by omega) 0 (by decide) (by decide) 10 (by decide) (by decide)) q_cX12_93 q_dX12_isIn (by decide) rfl rfl hl.1 rfl (Nat.le_of_ble_eq_true rfl) dX12_node_12 (fun y119 H locs f118 ry119 h120 hF hB => ?_)
    obtain ⟨rfl, ly119, uy119, t121⟩ := h120
    obtain rfl : y119 = 0 := by omega
    refine q_cVi (As := [.int (q_i 0), .int (q_i 0)]) (rest := []) cx hB (fun _ h => h) hN hmo kmo (by decide) rfl (r_goesBoth0 l g hN hB.2.1 mo hmo kmo 0 (by decide) (by decide) 0 (by decide) (by decide)) q_cX12_358 q_dX12_goesBoth (by decide) rfl rfl hl.1 rfl (Nat.le_of_ble_eq_true rfl) dX12_node_15 (fun y123 H locs f122 ry123 h124 hF hB => ?_)
    obtain ⟨qy123, z125⟩ := h124
    have z126 : q_z f122 mo 2 = 0 := (hF.z hmo (by rw [kmo]; rfl)).trans hf0
    have z127 : q_z f122 mo 8 = 0 := (hF.z hmo (by rw [kmo]; rfl)).trans hf1
    have z128 : q_z f122 mo 9 = (-1) := (hF.z hmo (by rw [kmo]; rfl)).trans hf2
    have z129 : q_z f122 mo 10 = 0 := (hF.z hmo (by rw [kmo]; rfl)).trans hf3
    have z130 : q_z f122 mo 11 = (-1) := (hF.z hmo (by rw [kmo]; rfl)).trans hf4
    have z131 : q_z f122 mo 21 = 0 := (hF.z hmo (by rw [kmo]; rfl)).trans hf5
    have z132 : q_z f122 mo 22 = 0 := (hF.z hmo (by rw [kmo]; rfl)).trans hf6
    have z133 : q_z f122 mo 40 = 0 := (hF.z hmo (by rw [kmo]; rfl)).trans hf7
    have z134 : q_z f122 sr 0 = 0 := (hF.z hsr (by rw [ksr]; rfl)).trans hf8
    have z135 : q_z f122 sr 1 = 0 := (hF.z hsr (by rw [ksr]; rfl)).trans hf9
    have z136 : q_z f122 sr 2 = 12 := (hF.z hsr (by rw [ksr]; rfl)).trans hf10
    have z137 : q_z f122 sr 3 = 0 := (hF.z hsr (by rw [ksr]; rfl)).trans hf11
    have z138 : q_z f122 sr 4 = 0 := (hF.z hsr (by rw [ksr]; rfl)).trans hf12
    have z139 : q_z f122 sr 5 = 1 := (hF.z hsr (by rw [ksr]; rfl)).trans hf13
    have z140 : q_z f122 sr 6 = 2 := (hF.z hsr (by rw [ksr]; rfl)).trans hf14
    have z141 : q_z f122 sr 7 = 5 := (hF.z hsr (by rw [ksr]; rfl)).trans hf15
    have z142 : q_z f122 sr 8 = 3 := (hF.z hsr (by rw [ksr]; rfl)).trans hf16
    have z143 : q_z f122 sr 9 = 0 := (hF.z hsr (by rw [ksr]; rfl)).trans hf17
    have z144 : q_r f122 mo 1 = bu := (hF.r hmo (by rw [kmo]; rfl)).trans hr0
    have z145 : q_r f122 mo 13 = sr := (hF.r hmo (by rw [kmo]; rfl)).trans hr1
    have z146 : q_r f122 mo 14 = sd := (hF.r hmo (by rw [kmo]; rfl)).trans hr2
    have z147 : q_r f122 mo 15 = as := (hF.r hmo (by rw [kmo]; rfl)).trans hr3
    have z148 : q_r f122 mo 16 = aw := (hF.r hmo (by rw [kmo]; rfl)).trans hr4
    have z149 : q_r f122 mo 17 = pa := (hF.r hmo (by rw [kmo]; rfl)).trans hr5
    have z150 : q_r f122 mo 18 = nm := (hF.r hmo (by rw [kmo]; rfl)).trans hr6
    have z151 : q_r f122 mo 19 = snm := (hF.r hmo (by rw [kmo]; rfl)).trans hr7
    have z152 : q_r f122 mo 20 = anm := (hF.r hmo (by rw [kmo]; rfl)).trans hr8
    subst qy123
    refine q_ifne (tgt := 23) cx ⟨by decide, by decide⟩ dX12_node_18 (by decide) (fun c153 => ?_) (fun c153 => ?_)
    · exact absurd c153 (by omega)
    · refine q_iconst cx dX12_node_21 ?_
      refine q_iret cx hr hlk hB dX12_node_22 ⟨by decide, by decide⟩ ?_
      exact ⟨rfl, z125⟩
  · by_cases c154 : b0 ≤ 10
    · refine q_cSi (As := [.long (q_l b0), .long (q_l 0), .long (q_l 10)]) (rest := [.int (q_i 0), .ref mo]) cx hB (fun _ h => h) hN (r_isIn l g hN hB.2.1 b0 (by omega) (by omega) 0 (by decide) (by decide) 10 (by decide) (by decide)) q_cX12_93 q_dX12_isIn (by decide) rfl rfl hl.1 rfl (Nat.le_of_ble_eq_true rfl) dX12_node_12 (fun y156 H locs f155 ry156 h157 hF hB => ?_)
      obtain ⟨rfl, ly156, uy156, t158⟩ := h157
      obtain rfl : y156 = 1 := by omega
      refine q_cVi (As := [.int (q_i 0), .int (q_i 1)]) (rest := []) cx hB (fun _ h => h) hN hmo kmo (by decide) rfl (r_goesBoth0 l g hN hB.2.1 mo hmo kmo 0 (by decide) (by decide) 1 (by decide) (by decide)) q_cX12_358 q_dX12_goesBoth (by decide) rfl rfl hl.1 rfl (Nat.le_of_ble_eq_true rfl) dX12_node_15 (fun y160 H locs f159 ry160 h161 hF hB => ?_)
      obtain ⟨qy160, z162⟩ := h161
      have z163 : q_z f159 mo 2 = 0 := (hF.z hmo (by rw [kmo]; rfl)).trans hf0
      have z164 : q_z f159 mo 8 = 0 := (hF.z hmo (by rw [kmo]; rfl)).trans hf1
      have z165 : q_z f159 mo 9 = (-1) := (hF.z hmo (by rw [kmo]; rfl)).trans hf2
      have z166 : q_z f159 mo 10 = 0 := (hF.z hmo (by rw [kmo]; rfl)).trans hf3
      have z167 : q_z f159 mo 11 = (-1) := (hF.z hmo (by rw [kmo]; rfl)).trans hf4
      have z168 : q_z f159 mo 21 = 0 := (hF.z hmo (by rw [kmo]; rfl)).trans hf5
      have z169 : q_z f159 mo 22 = 0 := (hF.z hmo (by rw [kmo]; rfl)).trans hf6
      have z170 : q_z f159 mo 40 = 0 := (hF.z hmo (by rw [kmo]; rfl)).trans hf7
      have z171 : q_z f159 sr 0 = 0 := (hF.z hsr (by rw [ksr]; rfl)).trans hf8
      have z172 : q_z f159 sr 1 = 0 := (hF.z hsr (by rw [ksr]; rfl)).trans hf9
      have z173 : q_z f159 sr 2 = 12 := (hF.z hsr (by rw [ksr]; rfl)).trans hf10
      have z174 : q_z f159 sr 3 = 0 := (hF.z hsr (by rw [ksr]; rfl)).trans hf11
      have z175 : q_z f159 sr 4 = 0 := (hF.z hsr (by rw [ksr]; rfl)).trans hf12
      have z176 : q_z f159 sr 5 = 1 := (hF.z hsr (by rw [ksr]; rfl)).trans hf13
      have z177 : q_z f159 sr 6 = 2 := (hF.z hsr (by rw [ksr]; rfl)).trans hf14
      have z178 : q_z f159 sr 7 = 5 := (hF.z hsr (by rw [ksr]; rfl)).trans hf15
      have z179 : q_z f159 sr 8 = 3 := (hF.z hsr (by rw [ksr]; rfl)).trans hf16
      have z180 : q_z f159 sr 9 = 0 := (hF.z hsr (by rw [ksr]; rfl)).trans hf17
      have z181 : q_r f159 mo 1 = bu := (hF.r hmo (by rw [kmo]; rfl)).trans hr0
      have z182 : q_r f159 mo 13 = sr := (hF.r hmo (by rw [kmo]; rfl)).trans hr1
      have z183 : q_r f159 mo 14 = sd := (hF.r hmo (by rw [kmo]; rfl)).trans hr2
      have z184 : q_r f159 mo 15 = as := (hF.r hmo (by rw [kmo]; rfl)).trans hr3
      have z185 : q_r f159 mo 16 = aw := (hF.r hmo (by rw [kmo]; rfl)).trans hr4
      have z186 : q_r f159 mo 17 = pa := (hF.r hmo (by rw [kmo]; rfl)).trans hr5
      have z187 : q_r f159 mo 18 = nm := (hF.r hmo (by rw [kmo]; rfl)).trans hr6
      have z188 : q_r f159 mo 19 = snm := (hF.r hmo (by rw [kmo]; rfl)).trans hr7
      have z189 : q_r f159 mo 20 = anm := (hF.r hmo (by rw [kmo]; rfl)).trans hr8
      subst qy160
      refine q_ifne (tgt := 23) cx ⟨by decide, by decide⟩ dX12_node_18 (by decide) (fun c190 => ?_) (fun c190 => ?_)
      · exact absurd c190 (by omega)
      · refine q_iconst cx dX12_node_21 ?_
        refine q_iret cx hr hlk hB dX12_node_22 ⟨by decide, by decide⟩ ?_
        exact ⟨rfl, z162⟩
    · refine q_cSi (As := [.long (q_l b0), .long (q_l 0), .long (q_l 10)]) (rest := [.int (q_i 0), .ref mo]) cx hB (fun _ h => h) hN (r_isIn l g hN hB.2.1 b0 (by omega) (by omega) 0 (by decide) (by decide) 10 (by decide) (by decide)) q_cX12_93 q_dX12_isIn (by decide) rfl rfl hl.1 rfl (Nat.le_of_ble_eq_true rfl) dX12_node_12 (fun y192 H locs f191 ry192 h193 hF hB => ?_)
      obtain ⟨rfl, ly192, uy192, t194⟩ := h193
      obtain rfl : y192 = 0 := by omega
      refine q_cVi (As := [.int (q_i 0), .int (q_i 0)]) (rest := []) cx hB (fun _ h => h) hN hmo kmo (by decide) rfl (r_goesBoth0 l g hN hB.2.1 mo hmo kmo 0 (by decide) (by decide) 0 (by decide) (by decide)) q_cX12_358 q_dX12_goesBoth (by decide) rfl rfl hl.1 rfl (Nat.le_of_ble_eq_true rfl) dX12_node_15 (fun y196 H locs f195 ry196 h197 hF hB => ?_)
      obtain ⟨qy196, z198⟩ := h197
      have z199 : q_z f195 mo 2 = 0 := (hF.z hmo (by rw [kmo]; rfl)).trans hf0
      have z200 : q_z f195 mo 8 = 0 := (hF.z hmo (by rw [kmo]; rfl)).trans hf1
      have z201 : q_z f195 mo 9 = (-1) := (hF.z hmo (by rw [kmo]; rfl)).trans hf2
      have z202 : q_z f195 mo 10 = 0 := (hF.z hmo (by rw [kmo]; rfl)).trans hf3
      have z203 : q_z f195 mo 11 = (-1) := (hF.z hmo (by rw [kmo]; rfl)).trans hf4
      have z204 : q_z f195 mo 21 = 0 := (hF.z hmo (by rw [kmo]; rfl)).trans hf5
      have z205 : q_z f195 mo 22 = 0 := (hF.z hmo (by rw [kmo]; rfl)).trans hf6
      have z206 : q_z f195 mo 40 = 0 := (hF.z hmo (by rw [kmo]; rfl)).trans hf7
      have z207 : q_z f195 sr 0 = 0 := (hF.z hsr (by rw [ksr]; rfl)).trans hf8
      have z208 : q_z f195 sr 1 = 0 := (hF.z hsr (by rw [ksr]; rfl)).trans hf9
      have z209 : q_z f195 sr 2 = 12 := (hF.z hsr (by rw [ksr]; rfl)).trans hf10
      have z210 : q_z f195 sr 3 = 0 := (hF.z hsr (by rw [ksr]; rfl)).trans hf11
      have z211 : q_z f195 sr 4 = 0 := (hF.z hsr (by rw [ksr]; rfl)).trans hf12
      have z212 : q_z f195 sr 5 = 1 := (hF.z hsr (by rw [ksr]; rfl)).trans hf13
      have z213 : q_z f195 sr 6 = 2 := (hF.z hsr (by rw [ksr]; rfl)).trans hf14
      have z214 : q_z f195 sr 7 = 5 := (hF.z hsr (by rw [ksr]; rfl)).trans hf15
      have z215 : q_z f195 sr 8 = 3 := (hF.z hsr (by rw [ksr]; rfl)).trans hf16
      have z216 : q_z f195 sr 9 = 0 := (hF.z hsr (by rw [ksr]; rfl)).trans hf17
      have z217 : q_r f195 mo 1 = bu := (hF.r hmo (by rw [kmo]; rfl)).trans hr0
      have z218 : q_r f195 mo 13 = sr := (hF.r hmo (by rw [kmo]; rfl)).trans hr1
      have z219 : q_r f195 mo 14 = sd := (hF.r hmo (by rw [kmo]; rfl)).trans hr2
      have z220 : q_r f195 mo 15 = as := (hF.r hmo (by rw [kmo]; rfl)).trans hr3
      have z221 : q_r f195 mo 16 = aw := (hF.r hmo (by rw [kmo]; rfl)).trans hr4
      have z222 : q_r f195 mo 17 = pa := (hF.r hmo (by rw [kmo]; rfl)).trans hr5
      have z223 : q_r f195 mo 18 = nm := (hF.r hmo (by rw [kmo]; rfl)).trans hr6
      have z224 : q_r f195 mo 19 = snm := (hF.r hmo (by rw [kmo]; rfl)).trans hr7
      have z225 : q_r f195 mo 20 = anm := (hF.r hmo (by rw [kmo]; rfl)).trans hr8
      subst qy196
      refine q_ifne (tgt := 23) cx ⟨by decide, by decide⟩ dX12_node_18 (by decide) (fun c226 => ?_) (fun c226 => ?_)
      · exact absurd c226 (by omega)
      · refine q_iconst cx dX12_node_21 ?_
        refine q_iret cx hr hlk hB dX12_node_22 ⟨by decide, by decide⟩ ?_
        exact ⟨rfl, z198⟩
set_option maxHeartbeats 4000000 in
set_option maxRecDepth 100000 in
theorem p_message (l : Launch) (g : q_G) {K : Nat → Nat} {L : List Nat} (hN : L.Nodup) {f : Nat → va_E} (hT : q_Ty g K L f) (mo : Nat) (hmo : mo ∈ L) (kmo : K mo = 12) (a0 : Int) (la0 : (-2147483648) ≤ a0) (ua0 : a0 ≤ 2147483647) (b0 : Int) (lb0 : (-2147483648) ≤ b0) (ub0 : b0 ≤ 2147483647) (bu : Nat) (hbu : bu ∈ L) (kbu : K bu = 150) (sr : Nat) (hsr : sr ∈ L) (ksr : K sr = 151) (sd : Nat) (hsd : sd ∈ L) (ksd : K sd = 152) (as : Nat) (has : as ∈ L) (kas : K as = 153) (aw : Nat) (haw : aw ∈ L) (kaw : K aw = 154) (pa : Nat) (hpa : pa ∈ L) (kpa : K pa = 155) (nm : Nat) (hnm : nm ∈ L) (knm : K nm = 156) (snm : Nat) (hsnm : snm ∈ L) (ksnm : K snm = 157) (anm : Nat) (hanm : anm ∈ L) (kanm : K anm = 158) (hf0 : q_z f mo 2 = 0) (hf1 : q_z f mo 8 = 0) (hf2 : q_z f mo 9 = (-1)) (hf3 : q_z f mo 10 = 0) (hf4 : q_z f mo 11 = (-1)) (hf5 : q_z f mo 21 = 0) (hf6 : q_z f mo 22 = 0) (hf7 : q_z f mo 40 = 0) (hf8 : q_z f sr 0 = 0) (hf9 : q_z f sr 1 = 0) (hf10 : q_z f sr 2 = 12) (hf11 : q_z f sr 3 = 0) (hf12 : q_z f sr 4 = 0) (hf13 : q_z f sr 5 = 1) (hf14 : q_z f sr 6 = 2) (hf15 : q_z f sr 7 = 5) (hf16 : q_z f sr 8 = 3) (hf17 : q_z f sr 9 = 0) (hr0 : q_r f mo 1 = bu) (hr1 : q_r f mo 13 = sr) (hr2 : q_r f mo 14 = sd) (hr3 : q_r f mo 15 = as) (hr4 : q_r f mo 16 = aw) (hr5 : q_r f mo 17 = pa) (hr6 : q_r f mo 18 = nm) (hr7 : q_r f mo 19 = snm) (hr8 : q_r f mo 20 = anm) : q_Ct l g K L yX12_message cX12_message 3 (some .int) 2 46 [.ref mo, .int (q_i a0), .int (q_i b0)] f [(12, 0, 40), (150, 0, 599), (151, 0, 657), (152, 0, 657), (153, 0, 657), (154, 0, 657), (155, 0, 3947), (156, 0, 9), (157, 0, 9), (158, 0, 9)] (q_Pi (fun (z : Int) (f1 : Nat → va_E) => z = 0 ∧ q_z f1 mo 0 = 1)) := by
  refine q_ofb (by decide +kernel) hN hT (Nat.le_of_ble_eq_true rfl) ?_
  intro p e s m below meth c ls cx hr hlk hB hl
  have hl : lv_has ls 3 [(0, .ref mo), (1, .int (q_i a0)), (2, .int (q_i b0))] := hl
  obtain ⟨H, hH⟩ : ∃ H : Heap, H = s.heap := ⟨_, rfl⟩
  obtain ⟨locs, hlocs⟩ : ∃ z : List Loc, z = [] := ⟨_, rfl⟩
  rw [← hH, ← hlocs] at hB
  rw [← hH, ← hlocs]
  refine q_ald_n cx dX12_message_0 rfl (lv_at hl 0 rfl) ?_
  refine q_ald_n cx dX12_message_1 rfl (lv_at hl 0 rfl) ?_
  refine q_ild_n cx dX12_message_2 rfl (lv_at hl 1 rfl) ?_
  refine q_cVi (As := [.int (q_i a0)]) (rest := [.ref mo]) cx hB (fun _ h => h) hN hmo kmo (by decide) rfl (r_isMessage0 l g hN hB.2.1 mo hmo kmo a0 (by omega) (by omega) sr hsr ksr hf12 hr1) q_cX12_373 q_dX12_isMessage (by decide) rfl rfl hl.1 rfl (Nat.le_of_ble_eq_true rfl) dX12_message_3 (fun y115 H locs f114 ry115 h116 hF hB => ?_)
  obtain ⟨rfl, qy115⟩ := h116
  subst qy115
  refine q_ild_n cx dX12_message_6 rfl (lv_at hl 2 rfl) ?_
  refine q_i2l cx ⟨by omega, by omega⟩ dX12_message_7 ?_
  refine q_lconst (z := 0) cx (by decide) dX12_message_8 ?_
  refine lv_ldc2 (v := q_l 7) cx.1 cx.2.1 cx.2.2.2.1 (cx.2.2.2.2 _ q_h1945) dX12_message_9 ?_
  by_cases c117 : b0 ≤ (-1)
  · refine q_cSi (As := [.long (q_l b0), .long (q_l 0), .long (q_l 7)]) (rest := [.int (q_i 0), .ref mo]) cx hB (fun _ h => h) hN (r_isIn l g hN hB.2.1 b0 (by omega) (by omega) 0 (by decide) (by decide) 7 (by decide) (by decide)) q_cX12_93 q_dX12_isIn (by decide) rfl rfl hl.1 rfl (Nat.le_of_ble_eq_true rfl) dX12_message_12 (fun y119 H locs f118 ry119 h120 hF hB => ?_)
    obtain ⟨rfl, ly119, uy119, t121⟩ := h120
    obtain rfl : y119 = 0 := by omega
    refine q_cVi (As := [.int (q_i 0), .int (q_i 0)]) (rest := []) cx hB (fun _ h => h) hN hmo kmo (by decide) rfl (r_goesBoth0 l g hN hB.2.1 mo hmo kmo 0 (by decide) (by decide) 0 (by decide) (by decide)) q_cX12_358 q_dX12_goesBoth (by decide) rfl rfl hl.1 rfl (Nat.le_of_ble_eq_true rfl) dX12_message_15 (fun y123 H locs f122 ry123 h124 hF hB => ?_)
    obtain ⟨qy123, z125⟩ := h124
    have z126 : q_z f122 mo 2 = 0 := (hF.z hmo (by rw [kmo]; rfl)).trans hf0
    have z127 : q_z f122 mo 8 = 0 := (hF.z hmo (by rw [kmo]; rfl)).trans hf1
    have z128 : q_z f122 mo 9 = (-1) := (hF.z hmo (by rw [kmo]; rfl)).trans hf2
    have z129 : q_z f122 mo 10 = 0 := (hF.z hmo (by rw [kmo]; rfl)).trans hf3
    have z130 : q_z f122 mo 11 = (-1) := (hF.z hmo (by rw [kmo]; rfl)).trans hf4
    have z131 : q_z f122 mo 21 = 0 := (hF.z hmo (by rw [kmo]; rfl)).trans hf5
    have z132 : q_z f122 mo 22 = 0 := (hF.z hmo (by rw [kmo]; rfl)).trans hf6
    have z133 : q_z f122 mo 40 = 0 := (hF.z hmo (by rw [kmo]; rfl)).trans hf7
    have z134 : q_z f122 sr 0 = 0 := (hF.z hsr (by rw [ksr]; rfl)).trans hf8
    have z135 : q_z f122 sr 1 = 0 := (hF.z hsr (by rw [ksr]; rfl)).trans hf9
    have z136 : q_z f122 sr 2 = 12 := (hF.z hsr (by rw [ksr]; rfl)).trans hf10
    have z137 : q_z f122 sr 3 = 0 := (hF.z hsr (by rw [ksr]; rfl)).trans hf11
    have z138 : q_z f122 sr 4 = 0 := (hF.z hsr (by rw [ksr]; rfl)).trans hf12
    have z139 : q_z f122 sr 5 = 1 := (hF.z hsr (by rw [ksr]; rfl)).trans hf13
    have z140 : q_z f122 sr 6 = 2 := (hF.z hsr (by rw [ksr]; rfl)).trans hf14
    have z141 : q_z f122 sr 7 = 5 := (hF.z hsr (by rw [ksr]; rfl)).trans hf15
    have z142 : q_z f122 sr 8 = 3 := (hF.z hsr (by rw [ksr]; rfl)).trans hf16
    have z143 : q_z f122 sr 9 = 0 := (hF.z hsr (by rw [ksr]; rfl)).trans hf17
    have z144 : q_r f122 mo 1 = bu := (hF.r hmo (by rw [kmo]; rfl)).trans hr0
    have z145 : q_r f122 mo 13 = sr := (hF.r hmo (by rw [kmo]; rfl)).trans hr1
    have z146 : q_r f122 mo 14 = sd := (hF.r hmo (by rw [kmo]; rfl)).trans hr2
    have z147 : q_r f122 mo 15 = as := (hF.r hmo (by rw [kmo]; rfl)).trans hr3
    have z148 : q_r f122 mo 16 = aw := (hF.r hmo (by rw [kmo]; rfl)).trans hr4
    have z149 : q_r f122 mo 17 = pa := (hF.r hmo (by rw [kmo]; rfl)).trans hr5
    have z150 : q_r f122 mo 18 = nm := (hF.r hmo (by rw [kmo]; rfl)).trans hr6
    have z151 : q_r f122 mo 19 = snm := (hF.r hmo (by rw [kmo]; rfl)).trans hr7
    have z152 : q_r f122 mo 20 = anm := (hF.r hmo (by rw [kmo]; rfl)).trans hr8
    subst qy123
    refine q_ifeq (tgt := 30) cx ⟨by decide, by decide⟩ dX12_message_18 (by decide) (fun c153 => ?_) (fun c153 => ?_)
    · refine q_iconst cx dX12_message_30 ?_
      refine q_iret cx hr hlk hB dX12_message_31 ⟨by decide, by decide⟩ ?_
      exact ⟨rfl, z125⟩
    · exact absurd c153 (by omega)
  · by_cases c154 : b0 ≤ 7
    · refine q_cSi (As := [.long (q_l b0), .long (q_l 0), .long (q_l 7)]) (rest := [.int (q_i 0), .ref mo]) cx hB (fun _ h => h) hN (r_isIn l g hN hB.2.1 b0 (by omega) (by omega) 0 (by decide) (by decide) 7 (by decide) (by decide)) q_cX12_93 q_dX12_isIn (by decide) rfl rfl hl.1 rfl (Nat.le_of_ble_eq_true rfl) dX12_message_12 (fun y156 H locs f155 ry156 h157 hF hB => ?_)
      obtain ⟨rfl, ly156, uy156, t158⟩ := h157
      obtain rfl : y156 = 1 := by omega
      refine q_cVi (As := [.int (q_i 0), .int (q_i 1)]) (rest := []) cx hB (fun _ h => h) hN hmo kmo (by decide) rfl (r_goesBoth0 l g hN hB.2.1 mo hmo kmo 0 (by decide) (by decide) 1 (by decide) (by decide)) q_cX12_358 q_dX12_goesBoth (by decide) rfl rfl hl.1 rfl (Nat.le_of_ble_eq_true rfl) dX12_message_15 (fun y160 H locs f159 ry160 h161 hF hB => ?_)
      obtain ⟨qy160, z162⟩ := h161
      have z163 : q_z f159 mo 2 = 0 := (hF.z hmo (by rw [kmo]; rfl)).trans hf0
      have z164 : q_z f159 mo 8 = 0 := (hF.z hmo (by rw [kmo]; rfl)).trans hf1
      have z165 : q_z f159 mo 9 = (-1) := (hF.z hmo (by rw [kmo]; rfl)).trans hf2
      have z166 : q_z f159 mo 10 = 0 := (hF.z hmo (by rw [kmo]; rfl)).trans hf3
      have z167 : q_z f159 mo 11 = (-1) := (hF.z hmo (by rw [kmo]; rfl)).trans hf4
      have z168 : q_z f159 mo 21 = 0 := (hF.z hmo (by rw [kmo]; rfl)).trans hf5
      have z169 : q_z f159 mo 22 = 0 := (hF.z hmo (by rw [kmo]; rfl)).trans hf6
      have z170 : q_z f159 mo 40 = 0 := (hF.z hmo (by rw [kmo]; rfl)).trans hf7
      have z171 : q_z f159 sr 0 = 0 := (hF.z hsr (by rw [ksr]; rfl)).trans hf8
      have z172 : q_z f159 sr 1 = 0 := (hF.z hsr (by rw [ksr]; rfl)).trans hf9
      have z173 : q_z f159 sr 2 = 12 := (hF.z hsr (by rw [ksr]; rfl)).trans hf10
      have z174 : q_z f159 sr 3 = 0 := (hF.z hsr (by rw [ksr]; rfl)).trans hf11
      have z175 : q_z f159 sr 4 = 0 := (hF.z hsr (by rw [ksr]; rfl)).trans hf12
      have z176 : q_z f159 sr 5 = 1 := (hF.z hsr (by rw [ksr]; rfl)).trans hf13
      have z177 : q_z f159 sr 6 = 2 := (hF.z hsr (by rw [ksr]; rfl)).trans hf14
      have z178 : q_z f159 sr 7 = 5 := (hF.z hsr (by rw [ksr]; rfl)).trans hf15
      have z179 : q_z f159 sr 8 = 3 := (hF.z hsr (by rw [ksr]; rfl)).trans hf16
      have z180 : q_z f159 sr 9 = 0 := (hF.z hsr (by rw [ksr]; rfl)).trans hf17
      have z181 : q_r f159 mo 1 = bu := (hF.r hmo (by rw [kmo]; rfl)).trans hr0
      have z182 : q_r f159 mo 13 = sr := (hF.r hmo (by rw [kmo]; rfl)).trans hr1
      have z183 : q_r f159 mo 14 = sd := (hF.r hmo (by rw [kmo]; rfl)).trans hr2
      have z184 : q_r f159 mo 15 = as := (hF.r hmo (by rw [kmo]; rfl)).trans hr3
      have z185 : q_r f159 mo 16 = aw := (hF.r hmo (by rw [kmo]; rfl)).trans hr4
      have z186 : q_r f159 mo 17 = pa := (hF.r hmo (by rw [kmo]; rfl)).trans hr5
      have z187 : q_r f159 mo 18 = nm := (hF.r hmo (by rw [kmo]; rfl)).trans hr6
      have z188 : q_r f159 mo 19 = snm := (hF.r hmo (by rw [kmo]; rfl)).trans hr7
      have z189 : q_r f159 mo 20 = anm := (hF.r hmo (by rw [kmo]; rfl)).trans hr8
      subst qy160
      refine q_ifeq (tgt := 30) cx ⟨by decide, by decide⟩ dX12_message_18 (by decide) (fun c190 => ?_) (fun c190 => ?_)
      · refine q_iconst cx dX12_message_30 ?_
        refine q_iret cx hr hlk hB dX12_message_31 ⟨by decide, by decide⟩ ?_
        exact ⟨rfl, z162⟩
      · exact absurd c190 (by omega)
    · refine q_cSi (As := [.long (q_l b0), .long (q_l 0), .long (q_l 7)]) (rest := [.int (q_i 0), .ref mo]) cx hB (fun _ h => h) hN (r_isIn l g hN hB.2.1 b0 (by omega) (by omega) 0 (by decide) (by decide) 7 (by decide) (by decide)) q_cX12_93 q_dX12_isIn (by decide) rfl rfl hl.1 rfl (Nat.le_of_ble_eq_true rfl) dX12_message_12 (fun y192 H locs f191 ry192 h193 hF hB => ?_)
      obtain ⟨rfl, ly192, uy192, t194⟩ := h193
      obtain rfl : y192 = 0 := by omega
      refine q_cVi (As := [.int (q_i 0), .int (q_i 0)]) (rest := []) cx hB (fun _ h => h) hN hmo kmo (by decide) rfl (r_goesBoth0 l g hN hB.2.1 mo hmo kmo 0 (by decide) (by decide) 0 (by decide) (by decide)) q_cX12_358 q_dX12_goesBoth (by decide) rfl rfl hl.1 rfl (Nat.le_of_ble_eq_true rfl) dX12_message_15 (fun y196 H locs f195 ry196 h197 hF hB => ?_)
      obtain ⟨qy196, z198⟩ := h197
      have z199 : q_z f195 mo 2 = 0 := (hF.z hmo (by rw [kmo]; rfl)).trans hf0
      have z200 : q_z f195 mo 8 = 0 := (hF.z hmo (by rw [kmo]; rfl)).trans hf1
      have z201 : q_z f195 mo 9 = (-1) := (hF.z hmo (by rw [kmo]; rfl)).trans hf2
      have z202 : q_z f195 mo 10 = 0 := (hF.z hmo (by rw [kmo]; rfl)).trans hf3
      have z203 : q_z f195 mo 11 = (-1) := (hF.z hmo (by rw [kmo]; rfl)).trans hf4
      have z204 : q_z f195 mo 21 = 0 := (hF.z hmo (by rw [kmo]; rfl)).trans hf5
      have z205 : q_z f195 mo 22 = 0 := (hF.z hmo (by rw [kmo]; rfl)).trans hf6
      have z206 : q_z f195 mo 40 = 0 := (hF.z hmo (by rw [kmo]; rfl)).trans hf7
      have z207 : q_z f195 sr 0 = 0 := (hF.z hsr (by rw [ksr]; rfl)).trans hf8
      have z208 : q_z f195 sr 1 = 0 := (hF.z hsr (by rw [ksr]; rfl)).trans hf9
      have z209 : q_z f195 sr 2 = 12 := (hF.z hsr (by rw [ksr]; rfl)).trans hf10
      have z210 : q_z f195 sr 3 = 0 := (hF.z hsr (by rw [ksr]; rfl)).trans hf11
      have z211 : q_z f195 sr 4 = 0 := (hF.z hsr (by rw [ksr]; rfl)).trans hf12
      have z212 : q_z f195 sr 5 = 1 := (hF.z hsr (by rw [ksr]; rfl)).trans hf13
      have z213 : q_z f195 sr 6 = 2 := (hF.z hsr (by rw [ksr]; rfl)).trans hf14
      have z214 : q_z f195 sr 7 = 5 := (hF.z hsr (by rw [ksr]; rfl)).trans hf15
      have z215 : q_z f195 sr 8 = 3 := (hF.z hsr (by rw [ksr]; rfl)).trans hf16
      have z216 : q_z f195 sr 9 = 0 := (hF.z hsr (by rw [ksr]; rfl)).trans hf17
      have z217 : q_r f195 mo 1 = bu := (hF.r hmo (by rw [kmo]; rfl)).trans hr0
      have z218 : q_r f195 mo 13 = sr := (hF.r hmo (by rw [kmo]; rfl)).trans hr1
      have z219 : q_r f195 mo 14 = sd := (hF.r hmo (by rw [kmo]; rfl)).trans hr2
      have z220 : q_r f195 mo 15 = as := (hF.r hmo (by rw [kmo]; rfl)).trans hr3
      have z221 : q_r f195 mo 16 = aw := (hF.r hmo (by rw [kmo]; rfl)).trans hr4
      have z222 : q_r f195 mo 17 = pa := (hF.r hmo (by rw [kmo]; rfl)).trans hr5
      have z223 : q_r f195 mo 18 = nm := (hF.r hmo (by rw [kmo]; rfl)).trans hr6
      have z224 : q_r f195 mo 19 = snm := (hF.r hmo (by rw [kmo]; rfl)).trans hr7
      have z225 : q_r f195 mo 20 = anm := (hF.r hmo (by rw [kmo]; rfl)).trans hr8
      subst qy196
      refine q_ifeq (tgt := 30) cx ⟨by decide, by decide⟩ dX12_message_18 (by decide) (fun c226 => ?_) (fun c226 => ?_)
      · refine q_iconst cx dX12_message_30 ?_
        refine q_iret cx hr hlk hB dX12_message_31 ⟨by decide, by decide⟩ ?_
        exact ⟨rfl, z198⟩
      · exact absurd c226 (by omega)
set_option maxHeartbeats 4000000 in
set_option maxRecDepth 100000 in
theorem p_letter (l : Launch) (g : q_G) {K : Nat → Nat} {L : List Nat} (hN : L.Nodup) {f : Nat → va_E} (hT : q_Ty g K L f) (mo : Nat) (hmo : mo ∈ L) (kmo : K mo = 12) (a0 : Int) (la0 : (-2147483648) ≤ a0) (ua0 : a0 ≤ 2147483647) (b0 : Int) (lb0 : (-2147483648) ≤ b0) (ub0 : b0 ≤ 2147483647) (bu : Nat) (hbu : bu ∈ L) (kbu : K bu = 150) (sr : Nat) (hsr : sr ∈ L) (ksr : K sr = 151) (sd : Nat) (hsd : sd ∈ L) (ksd : K sd = 152) (as : Nat) (has : as ∈ L) (kas : K as = 153) (aw : Nat) (haw : aw ∈ L) (kaw : K aw = 154) (pa : Nat) (hpa : pa ∈ L) (kpa : K pa = 155) (nm : Nat) (hnm : nm ∈ L) (knm : K nm = 156) (snm : Nat) (hsnm : snm ∈ L) (ksnm : K snm = 157) (anm : Nat) (hanm : anm ∈ L) (kanm : K anm = 158) (hf0 : q_z f mo 2 = 0) (hf1 : q_z f mo 8 = 0) (hf2 : q_z f mo 9 = (-1)) (hf3 : q_z f mo 10 = 0) (hf4 : q_z f mo 11 = (-1)) (hf5 : q_z f mo 21 = 0) (hf6 : q_z f mo 22 = 0) (hf7 : q_z f mo 40 = 0) (hf8 : q_z f sr 0 = 0) (hf9 : q_z f sr 1 = 0) (hf10 : q_z f sr 2 = 12) (hf11 : q_z f sr 3 = 0) (hf12 : q_z f sr 4 = 0) (hf13 : q_z f sr 5 = 1) (hf14 : q_z f sr 6 = 2) (hf15 : q_z f sr 7 = 5) (hf16 : q_z f sr 8 = 3) (hf17 : q_z f sr 9 = 0) (hr0 : q_r f mo 1 = bu) (hr1 : q_r f mo 13 = sr) (hr2 : q_r f mo 14 = sd) (hr3 : q_r f mo 15 = as) (hr4 : q_r f mo 16 = aw) (hr5 : q_r f mo 17 = pa) (hr6 : q_r f mo 18 = nm) (hr7 : q_r f mo 19 = snm) (hr8 : q_r f mo 20 = anm) : q_Ct l g K L yX12_letter cX12_letter 3 (some .int) 2 46 [.ref mo, .int (q_i a0), .int (q_i b0)] f [(12, 0, 40), (150, 0, 599), (151, 0, 657), (152, 0, 657), (153, 0, 657), (154, 0, 657), (155, 0, 3947), (156, 0, 9), (157, 0, 9), (158, 0, 9)] (q_Pi (fun (z : Int) (f1 : Nat → va_E) => z = 0 ∧ q_z f1 mo 0 = 1)) := by
  refine q_ofb (by decide +kernel) hN hT (Nat.le_of_ble_eq_true rfl) ?_
  intro p e s m below meth c ls cx hr hlk hB hl
  have hl : lv_has ls 3 [(0, .ref mo), (1, .int (q_i a0)), (2, .int (q_i b0))] := hl
  obtain ⟨H, hH⟩ : ∃ H : Heap, H = s.heap := ⟨_, rfl⟩
  obtain ⟨locs, hlocs⟩ : ∃ z : List Loc, z = [] := ⟨_, rfl⟩
  rw [← hH, ← hlocs] at hB
  rw [← hH, ← hlocs]
  refine q_ald_n cx dX12_letter_0 rfl (lv_at hl 0 rfl) ?_
  refine q_ald_n cx dX12_letter_1 rfl (lv_at hl 0 rfl) ?_
  refine q_ild_n cx dX12_letter_2 rfl (lv_at hl 1 rfl) ?_
  refine q_cVi (As := [.int (q_i a0)]) (rest := [.ref mo]) cx hB (fun _ h => h) hN hmo kmo (by decide) rfl (r_isNode0 l g hN hB.2.1 mo hmo kmo a0 (by omega) (by omega) sr hsr ksr hf8 hr1) q_cX12_355 q_dX12_isNode (by decide) rfl rfl hl.1 rfl (Nat.le_of_ble_eq_true rfl) dX12_letter_3 (fun y37 H locs f36 ry37 h38 hF hB => ?_)
  obtain ⟨rfl, qy37⟩ := h38
  subst qy37
  refine q_cVi (As := [.int (q_i 0)]) (rest := []) cx hB (fun _ h => h) hN hmo kmo (by decide) rfl (r_goes0 l g hN hB.2.1 mo hmo kmo 0 (by decide) (by decide)) q_cX12_85 q_dX12_goes (by decide) rfl rfl hl.1 rfl (Nat.le_of_ble_eq_true rfl) dX12_letter_6 (fun y40 H locs f39 ry40 h41 hF hB => ?_)
  obtain ⟨qy40, z42⟩ := h41
  have z43 : q_z f39 mo 2 = 0 := (hF.z hmo (by rw [kmo]; rfl)).trans hf0
  have z44 : q_z f39 mo 8 = 0 := (hF.z hmo (by rw [kmo]; rfl)).trans hf1
  have z45 : q_z f39 mo 9 = (-1) := (hF.z hmo (by rw [kmo]; rfl)).trans hf2
  have z46 : q_z f39 mo 10 = 0 := (hF.z hmo (by rw [kmo]; rfl)).trans hf3
  have z47 : q_z f39 mo 11 = (-1) := (hF.z hmo (by rw [kmo]; rfl)).trans hf4
  have z48 : q_z f39 mo 21 = 0 := (hF.z hmo (by rw [kmo]; rfl)).trans hf5
  have z49 : q_z f39 mo 22 = 0 := (hF.z hmo (by rw [kmo]; rfl)).trans hf6
  have z50 : q_z f39 mo 40 = 0 := (hF.z hmo (by rw [kmo]; rfl)).trans hf7
  have z51 : q_z f39 sr 0 = 0 := (hF.z hsr (by rw [ksr]; rfl)).trans hf8
  have z52 : q_z f39 sr 1 = 0 := (hF.z hsr (by rw [ksr]; rfl)).trans hf9
  have z53 : q_z f39 sr 2 = 12 := (hF.z hsr (by rw [ksr]; rfl)).trans hf10
  have z54 : q_z f39 sr 3 = 0 := (hF.z hsr (by rw [ksr]; rfl)).trans hf11
  have z55 : q_z f39 sr 4 = 0 := (hF.z hsr (by rw [ksr]; rfl)).trans hf12
  have z56 : q_z f39 sr 5 = 1 := (hF.z hsr (by rw [ksr]; rfl)).trans hf13
  have z57 : q_z f39 sr 6 = 2 := (hF.z hsr (by rw [ksr]; rfl)).trans hf14
  have z58 : q_z f39 sr 7 = 5 := (hF.z hsr (by rw [ksr]; rfl)).trans hf15
  have z59 : q_z f39 sr 8 = 3 := (hF.z hsr (by rw [ksr]; rfl)).trans hf16
  have z60 : q_z f39 sr 9 = 0 := (hF.z hsr (by rw [ksr]; rfl)).trans hf17
  have z61 : q_r f39 mo 1 = bu := (hF.r hmo (by rw [kmo]; rfl)).trans hr0
  have z62 : q_r f39 mo 13 = sr := (hF.r hmo (by rw [kmo]; rfl)).trans hr1
  have z63 : q_r f39 mo 14 = sd := (hF.r hmo (by rw [kmo]; rfl)).trans hr2
  have z64 : q_r f39 mo 15 = as := (hF.r hmo (by rw [kmo]; rfl)).trans hr3
  have z65 : q_r f39 mo 16 = aw := (hF.r hmo (by rw [kmo]; rfl)).trans hr4
  have z66 : q_r f39 mo 17 = pa := (hF.r hmo (by rw [kmo]; rfl)).trans hr5
  have z67 : q_r f39 mo 18 = nm := (hF.r hmo (by rw [kmo]; rfl)).trans hr6
  have z68 : q_r f39 mo 19 = snm := (hF.r hmo (by rw [kmo]; rfl)).trans hr7
  have z69 : q_r f39 mo 20 = anm := (hF.r hmo (by rw [kmo]; rfl)).trans hr8
  subst qy40
  refine q_ifeq (tgt := 25) cx ⟨by decide, by decide⟩ dX12_letter_9 (by decide) (fun c70 => ?_) (fun c70 => ?_)
  · refine q_iconst cx dX12_letter_25 ?_
    refine q_iret cx hr hlk hB dX12_letter_26 ⟨by decide, by decide⟩ ?_
    exact ⟨rfl, z42⟩
  · exact absurd c70 (by omega)
set_option maxHeartbeats 4000000 in
set_option maxRecDepth 100000 in
theorem p_inTable (l : Launch) (g : q_G) {K : Nat → Nat} {L : List Nat} (hN : L.Nodup) {f : Nat → va_E} (hT : q_Ty g K L f) (mo : Nat) (hmo : mo ∈ L) (kmo : K mo = 12) (a0 : Int) (la0 : (-2147483648) ≤ a0) (ua0 : a0 ≤ 2147483647) (b0 : Int) (lb0 : (-2147483648) ≤ b0) (ub0 : b0 ≤ 2147483647) (bu : Nat) (hbu : bu ∈ L) (kbu : K bu = 150) (sr : Nat) (hsr : sr ∈ L) (ksr : K sr = 151) (sd : Nat) (hsd : sd ∈ L) (ksd : K sd = 152) (as : Nat) (has : as ∈ L) (kas : K as = 153) (aw : Nat) (haw : aw ∈ L) (kaw : K aw = 154) (pa : Nat) (hpa : pa ∈ L) (kpa : K pa = 155) (nm : Nat) (hnm : nm ∈ L) (knm : K nm = 156) (snm : Nat) (hsnm : snm ∈ L) (ksnm : K snm = 157) (anm : Nat) (hanm : anm ∈ L) (kanm : K anm = 158) (hf0 : q_z f mo 2 = 0) (hf1 : q_z f mo 8 = 0) (hf2 : q_z f mo 9 = (-1)) (hf3 : q_z f mo 10 = 0) (hf4 : q_z f mo 11 = (-1)) (hf5 : q_z f mo 21 = 0) (hf6 : q_z f mo 22 = 0) (hf7 : q_z f mo 40 = 0) (hf8 : q_z f sr 0 = 0) (hf9 : q_z f sr 1 = 0) (hf10 : q_z f sr 2 = 12) (hf11 : q_z f sr 3 = 0) (hf12 : q_z f sr 4 = 0) (hf13 : q_z f sr 5 = 1) (hf14 : q_z f sr 6 = 2) (hf15 : q_z f sr 7 = 5) (hf16 : q_z f sr 8 = 3) (hf17 : q_z f sr 9 = 0) (hr0 : q_r f mo 1 = bu) (hr1 : q_r f mo 13 = sr) (hr2 : q_r f mo 14 = sd) (hr3 : q_r f mo 15 = as) (hr4 : q_r f mo 16 = aw) (hr5 : q_r f mo 17 = pa) (hr6 : q_r f mo 18 = nm) (hr7 : q_r f mo 19 = snm) (hr8 : q_r f mo 20 = anm) : q_Ct l g K L yX12_inTable cX12_inTable 3 (some .boolean) 2 46 [.ref mo, .int (q_i a0), .int (q_i b0)] f [(12, 0, 40), (150, 0, 599), (151, 0, 657), (152, 0, 657), (153, 0, 657), (154, 0, 657), (155, 0, 3947), (156, 0, 9), (157, 0, 9), (158, 0, 9)] (q_Pi (fun (z : Int) (f1 : Nat → va_E) => z = 0 ∧ q_z f1 mo 0 = 1)) := by
  refine q_ofb (by decide +kernel) hN hT (Nat.le_of_ble_eq_true rfl) ?_
  intro p e s m below meth c ls cx hr hlk hB hl
  have hl : lv_has ls 3 [(0, .ref mo), (1, .int (q_i a0)), (2, .int (q_i b0))] := hl
  obtain ⟨H, hH⟩ : ∃ H : Heap, H = s.heap := ⟨_, rfl⟩
  obtain ⟨locs, hlocs⟩ : ∃ z : List Loc, z = [] := ⟨_, rfl⟩
  rw [← hH, ← hlocs] at hB
  rw [← hH, ← hlocs]
  refine q_ald_n cx dX12_inTable_0 rfl (lv_at hl 0 rfl) ?_
  refine q_ald_n cx dX12_inTable_1 rfl (lv_at hl 0 rfl) ?_
  refine q_ild_n cx dX12_inTable_2 rfl (lv_at hl 1 rfl) ?_
  refine q_cVi (As := [.int (q_i a0)]) (rest := [.ref mo]) cx hB (fun _ h => h) hN hmo kmo (by decide) rfl (r_isNode0 l g hN hB.2.1 mo hmo kmo a0 (by omega) (by omega) sr hsr ksr hf8 hr1) q_cX12_355 q_dX12_isNode (by decide) rfl rfl hl.1 rfl (Nat.le_of_ble_eq_true rfl) dX12_inTable_3 (fun y40 H locs f39 ry40 h41 hF hB => ?_)
  obtain ⟨rfl, qy40⟩ := h41
  subst qy40
  refine q_ald_n cx dX12_inTable_6 rfl (lv_at hl 0 rfl) ?_
  refine q_ild_n cx dX12_inTable_7 rfl (lv_at hl 2 rfl) ?_
  refine q_cVi (As := [.int (q_i b0)]) (rest := [.int (q_i 0), .ref mo]) cx hB (fun _ h => h) hN hmo kmo (by decide) rfl (r_isDay0 l g hN hB.2.1 mo hmo kmo b0 (by omega) (by omega) sr hsr ksr hf10 hr1) q_cX12_388 q_dX12_isDay (by decide) rfl rfl hl.1 rfl (Nat.le_of_ble_eq_true rfl) dX12_inTable_8 (fun y43 H locs f42 ry43 h44 hF hB => ?_)
  obtain ⟨rfl, ly43, uy43⟩ := h44
  refine q_cVi (As := [.int (q_i 0), .int (q_i y43)]) (rest := []) cx hB (fun _ h => h) hN hmo kmo (by decide) rfl (r_goesBoth0 l g hN hB.2.1 mo hmo kmo 0 (by decide) (by decide) y43 (by omega) (by omega)) q_cX12_358 q_dX12_goesBoth (by decide) rfl rfl hl.1 rfl (Nat.le_of_ble_eq_true rfl) dX12_inTable_11 (fun y46 H locs f45 ry46 h47 hF hB => ?_)
  obtain ⟨qy46, z48⟩ := h47
  have z49 : q_z f45 mo 2 = 0 := (hF.z hmo (by rw [kmo]; rfl)).trans hf0
  have z50 : q_z f45 mo 8 = 0 := (hF.z hmo (by rw [kmo]; rfl)).trans hf1
  have z51 : q_z f45 mo 9 = (-1) := (hF.z hmo (by rw [kmo]; rfl)).trans hf2
  have z52 : q_z f45 mo 10 = 0 := (hF.z hmo (by rw [kmo]; rfl)).trans hf3
  have z53 : q_z f45 mo 11 = (-1) := (hF.z hmo (by rw [kmo]; rfl)).trans hf4
  have z54 : q_z f45 mo 21 = 0 := (hF.z hmo (by rw [kmo]; rfl)).trans hf5
  have z55 : q_z f45 mo 22 = 0 := (hF.z hmo (by rw [kmo]; rfl)).trans hf6
  have z56 : q_z f45 mo 40 = 0 := (hF.z hmo (by rw [kmo]; rfl)).trans hf7
  have z57 : q_z f45 sr 0 = 0 := (hF.z hsr (by rw [ksr]; rfl)).trans hf8
  have z58 : q_z f45 sr 1 = 0 := (hF.z hsr (by rw [ksr]; rfl)).trans hf9
  have z59 : q_z f45 sr 2 = 12 := (hF.z hsr (by rw [ksr]; rfl)).trans hf10
  have z60 : q_z f45 sr 3 = 0 := (hF.z hsr (by rw [ksr]; rfl)).trans hf11
  have z61 : q_z f45 sr 4 = 0 := (hF.z hsr (by rw [ksr]; rfl)).trans hf12
  have z62 : q_z f45 sr 5 = 1 := (hF.z hsr (by rw [ksr]; rfl)).trans hf13
  have z63 : q_z f45 sr 6 = 2 := (hF.z hsr (by rw [ksr]; rfl)).trans hf14
  have z64 : q_z f45 sr 7 = 5 := (hF.z hsr (by rw [ksr]; rfl)).trans hf15
  have z65 : q_z f45 sr 8 = 3 := (hF.z hsr (by rw [ksr]; rfl)).trans hf16
  have z66 : q_z f45 sr 9 = 0 := (hF.z hsr (by rw [ksr]; rfl)).trans hf17
  have z67 : q_r f45 mo 1 = bu := (hF.r hmo (by rw [kmo]; rfl)).trans hr0
  have z68 : q_r f45 mo 13 = sr := (hF.r hmo (by rw [kmo]; rfl)).trans hr1
  have z69 : q_r f45 mo 14 = sd := (hF.r hmo (by rw [kmo]; rfl)).trans hr2
  have z70 : q_r f45 mo 15 = as := (hF.r hmo (by rw [kmo]; rfl)).trans hr3
  have z71 : q_r f45 mo 16 = aw := (hF.r hmo (by rw [kmo]; rfl)).trans hr4
  have z72 : q_r f45 mo 17 = pa := (hF.r hmo (by rw [kmo]; rfl)).trans hr5
  have z73 : q_r f45 mo 18 = nm := (hF.r hmo (by rw [kmo]; rfl)).trans hr6
  have z74 : q_r f45 mo 19 = snm := (hF.r hmo (by rw [kmo]; rfl)).trans hr7
  have z75 : q_r f45 mo 20 = anm := (hF.r hmo (by rw [kmo]; rfl)).trans hr8
  subst qy46
  refine q_ifeq (tgt := 30) cx ⟨by decide, by decide⟩ dX12_inTable_14 (by decide) (fun c76 => ?_) (fun c76 => ?_)
  · refine q_iconst cx dX12_inTable_30 ?_
    refine q_zret cx hr hlk hB dX12_inTable_31 (by decide) (by decide) ?_
    exact ⟨rfl, z48⟩
  · exact absurd c76 (by omega)
set_option maxHeartbeats 4000000 in
set_option maxRecDepth 100000 in
theorem p_duty (l : Launch) (g : q_G) {K : Nat → Nat} {L : List Nat} (hN : L.Nodup) {f : Nat → va_E} (hT : q_Ty g K L f) (mo : Nat) (hmo : mo ∈ L) (kmo : K mo = 12) (a0 : Int) (la0 : (-2147483648) ≤ a0) (ua0 : a0 ≤ 2147483647) (bu : Nat) (hbu : bu ∈ L) (kbu : K bu = 150) (sr : Nat) (hsr : sr ∈ L) (ksr : K sr = 151) (sd : Nat) (hsd : sd ∈ L) (ksd : K sd = 152) (as : Nat) (has : as ∈ L) (kas : K as = 153) (aw : Nat) (haw : aw ∈ L) (kaw : K aw = 154) (pa : Nat) (hpa : pa ∈ L) (kpa : K pa = 155) (nm : Nat) (hnm : nm ∈ L) (knm : K nm = 156) (snm : Nat) (hsnm : snm ∈ L) (ksnm : K snm = 157) (anm : Nat) (hanm : anm ∈ L) (kanm : K anm = 158) (hf0 : q_z f mo 2 = 0) (hf1 : q_z f mo 8 = 0) (hf2 : q_z f mo 9 = (-1)) (hf3 : q_z f mo 10 = 0) (hf4 : q_z f mo 11 = (-1)) (hf5 : q_z f mo 21 = 0) (hf6 : q_z f mo 22 = 0) (hf7 : q_z f mo 40 = 0) (hf8 : q_z f sr 0 = 0) (hf9 : q_z f sr 1 = 0) (hf10 : q_z f sr 2 = 12) (hf11 : q_z f sr 3 = 0) (hf12 : q_z f sr 4 = 0) (hf13 : q_z f sr 5 = 1) (hf14 : q_z f sr 6 = 2) (hf15 : q_z f sr 7 = 5) (hf16 : q_z f sr 8 = 3) (hf17 : q_z f sr 9 = 0) (hr0 : q_r f mo 1 = bu) (hr1 : q_r f mo 13 = sr) (hr2 : q_r f mo 14 = sd) (hr3 : q_r f mo 15 = as) (hr4 : q_r f mo 16 = aw) (hr5 : q_r f mo 17 = pa) (hr6 : q_r f mo 18 = nm) (hr7 : q_r f mo 19 = snm) (hr8 : q_r f mo 20 = anm) : q_Ct l g K L yX12_duty cX12_duty 2 (some .float) 2 46 [.ref mo, .int (q_i a0)] f [(12, 0, 40), (150, 0, 599), (151, 0, 657), (152, 0, 657), (153, 0, 657), (154, 0, 657), (155, 0, 3947), (156, 0, 9), (157, 0, 9), (158, 0, 9)] (q_Pf (fun (z : UInt32) (f1 : Nat → va_E) => z = 0 ∧ q_z f1 mo 0 = 1)) := by
  refine q_ofb (by decide +kernel) hN hT (Nat.le_of_ble_eq_true rfl) ?_
  intro p e s m below meth c ls cx hr hlk hB hl
  have hl : lv_has ls 2 [(0, .ref mo), (1, .int (q_i a0))] := hl
  obtain ⟨H, hH⟩ : ∃ H : Heap, H = s.heap := ⟨_, rfl⟩
  obtain ⟨locs, hlocs⟩ : ∃ z : List Loc, z = [] := ⟨_, rfl⟩
  rw [← hH, ← hlocs] at hB
  rw [← hH, ← hlocs]
  refine q_ald_n cx dX12_duty_0 rfl (lv_at hl 0 rfl) ?_
  refine q_ald_n cx dX12_duty_1 rfl (lv_at hl 0 rfl) ?_
  refine q_ild_n cx dX12_duty_2 rfl (lv_at hl 1 rfl) ?_
  refine q_cVi (As := [.int (q_i a0)]) (rest := [.ref mo]) cx hB (fun _ h => h) hN hmo kmo (by decide) rfl (r_isNode0 l g hN hB.2.1 mo hmo kmo a0 (by omega) (by omega) sr hsr ksr hf8 hr1) q_cX12_355 q_dX12_isNode (by decide) rfl rfl hl.1 rfl (Nat.le_of_ble_eq_true rfl) dX12_duty_3 (fun y37 H locs f36 ry37 h38 hF hB => ?_)
  obtain ⟨rfl, qy37⟩ := h38
  subst qy37
  refine q_cVi (As := [.int (q_i 0)]) (rest := []) cx hB (fun _ h => h) hN hmo kmo (by decide) rfl (r_goes0 l g hN hB.2.1 mo hmo kmo 0 (by decide) (by decide)) q_cX12_85 q_dX12_goes (by decide) rfl rfl hl.1 rfl (Nat.le_of_ble_eq_true rfl) dX12_duty_6 (fun y40 H locs f39 ry40 h41 hF hB => ?_)
  obtain ⟨qy40, z42⟩ := h41
  have z43 : q_z f39 mo 2 = 0 := (hF.z hmo (by rw [kmo]; rfl)).trans hf0
  have z44 : q_z f39 mo 8 = 0 := (hF.z hmo (by rw [kmo]; rfl)).trans hf1
  have z45 : q_z f39 mo 9 = (-1) := (hF.z hmo (by rw [kmo]; rfl)).trans hf2
  have z46 : q_z f39 mo 10 = 0 := (hF.z hmo (by rw [kmo]; rfl)).trans hf3
  have z47 : q_z f39 mo 11 = (-1) := (hF.z hmo (by rw [kmo]; rfl)).trans hf4
  have z48 : q_z f39 mo 21 = 0 := (hF.z hmo (by rw [kmo]; rfl)).trans hf5
  have z49 : q_z f39 mo 22 = 0 := (hF.z hmo (by rw [kmo]; rfl)).trans hf6
  have z50 : q_z f39 mo 40 = 0 := (hF.z hmo (by rw [kmo]; rfl)).trans hf7
  have z51 : q_z f39 sr 0 = 0 := (hF.z hsr (by rw [ksr]; rfl)).trans hf8
  have z52 : q_z f39 sr 1 = 0 := (hF.z hsr (by rw [ksr]; rfl)).trans hf9
  have z53 : q_z f39 sr 2 = 12 := (hF.z hsr (by rw [ksr]; rfl)).trans hf10
  have z54 : q_z f39 sr 3 = 0 := (hF.z hsr (by rw [ksr]; rfl)).trans hf11
  have z55 : q_z f39 sr 4 = 0 := (hF.z hsr (by rw [ksr]; rfl)).trans hf12
  have z56 : q_z f39 sr 5 = 1 := (hF.z hsr (by rw [ksr]; rfl)).trans hf13
  have z57 : q_z f39 sr 6 = 2 := (hF.z hsr (by rw [ksr]; rfl)).trans hf14
  have z58 : q_z f39 sr 7 = 5 := (hF.z hsr (by rw [ksr]; rfl)).trans hf15
  have z59 : q_z f39 sr 8 = 3 := (hF.z hsr (by rw [ksr]; rfl)).trans hf16
  have z60 : q_z f39 sr 9 = 0 := (hF.z hsr (by rw [ksr]; rfl)).trans hf17
  have z61 : q_r f39 mo 1 = bu := (hF.r hmo (by rw [kmo]; rfl)).trans hr0
  have z62 : q_r f39 mo 13 = sr := (hF.r hmo (by rw [kmo]; rfl)).trans hr1
  have z63 : q_r f39 mo 14 = sd := (hF.r hmo (by rw [kmo]; rfl)).trans hr2
  have z64 : q_r f39 mo 15 = as := (hF.r hmo (by rw [kmo]; rfl)).trans hr3
  have z65 : q_r f39 mo 16 = aw := (hF.r hmo (by rw [kmo]; rfl)).trans hr4
  have z66 : q_r f39 mo 17 = pa := (hF.r hmo (by rw [kmo]; rfl)).trans hr5
  have z67 : q_r f39 mo 18 = nm := (hF.r hmo (by rw [kmo]; rfl)).trans hr6
  have z68 : q_r f39 mo 19 = snm := (hF.r hmo (by rw [kmo]; rfl)).trans hr7
  have z69 : q_r f39 mo 20 = anm := (hF.r hmo (by rw [kmo]; rfl)).trans hr8
  subst qy40
  refine q_ifeq (tgt := 29) cx ⟨by decide, by decide⟩ dX12_duty_9 (by decide) (fun c70 => ?_) (fun c70 => ?_)
  · refine lv_fconst0 cx.1 cx.2.1 dX12_duty_29 ?_
    refine q_fret cx hr hlk hB dX12_duty_30 ?_
    exact ⟨rfl, z42⟩
  · exact absurd c70 (by omega)
set_option maxHeartbeats 4000000 in
set_option maxRecDepth 100000 in
theorem p_meetsIn (l : Launch) (g : q_G) {K : Nat → Nat} {L : List Nat} (hN : L.Nodup) {f : Nat → va_E} (hT : q_Ty g K L f) (mo : Nat) (hmo : mo ∈ L) (kmo : K mo = 12) (a0 : Int) (la0 : (-2147483648) ≤ a0) (ua0 : a0 ≤ 2147483647) (b0 : Int) (lb0 : (-2147483648) ≤ b0) (ub0 : b0 ≤ 2147483647) (bu : Nat) (hbu : bu ∈ L) (kbu : K bu = 150) (sr : Nat) (hsr : sr ∈ L) (ksr : K sr = 151) (sd : Nat) (hsd : sd ∈ L) (ksd : K sd = 152) (as : Nat) (has : as ∈ L) (kas : K as = 153) (aw : Nat) (haw : aw ∈ L) (kaw : K aw = 154) (pa : Nat) (hpa : pa ∈ L) (kpa : K pa = 155) (nm : Nat) (hnm : nm ∈ L) (knm : K nm = 156) (snm : Nat) (hsnm : snm ∈ L) (ksnm : K snm = 157) (anm : Nat) (hanm : anm ∈ L) (kanm : K anm = 158) (hf0 : q_z f mo 2 = 0) (hf1 : q_z f mo 8 = 0) (hf2 : q_z f mo 9 = (-1)) (hf3 : q_z f mo 10 = 0) (hf4 : q_z f mo 11 = (-1)) (hf5 : q_z f mo 21 = 0) (hf6 : q_z f mo 22 = 0) (hf7 : q_z f mo 40 = 0) (hf8 : q_z f sr 0 = 0) (hf9 : q_z f sr 1 = 0) (hf10 : q_z f sr 2 = 12) (hf11 : q_z f sr 3 = 0) (hf12 : q_z f sr 4 = 0) (hf13 : q_z f sr 5 = 1) (hf14 : q_z f sr 6 = 2) (hf15 : q_z f sr 7 = 5) (hf16 : q_z f sr 8 = 3) (hf17 : q_z f sr 9 = 0) (hr0 : q_r f mo 1 = bu) (hr1 : q_r f mo 13 = sr) (hr2 : q_r f mo 14 = sd) (hr3 : q_r f mo 15 = as) (hr4 : q_r f mo 16 = aw) (hr5 : q_r f mo 17 = pa) (hr6 : q_r f mo 18 = nm) (hr7 : q_r f mo 19 = snm) (hr8 : q_r f mo 20 = anm) : q_Ct l g K L yX12_meetsIn cX12_meetsIn 3 (some .int) 2 46 [.ref mo, .int (q_i a0), .int (q_i b0)] f [(12, 0, 40), (150, 0, 599), (151, 0, 657), (152, 0, 657), (153, 0, 657), (154, 0, 657), (155, 0, 3947), (156, 0, 9), (157, 0, 9), (158, 0, 9)] (q_Pi (fun (z : Int) (f1 : Nat → va_E) => z = 0 ∧ q_z f1 mo 0 = 1)) := by
  refine q_ofb (by decide +kernel) hN hT (Nat.le_of_ble_eq_true rfl) ?_
  intro p e s m below meth c ls cx hr hlk hB hl
  have hl : lv_has ls 3 [(0, .ref mo), (1, .int (q_i a0)), (2, .int (q_i b0))] := hl
  obtain ⟨H, hH⟩ : ∃ H : Heap, H = s.heap := ⟨_, rfl⟩
  obtain ⟨locs, hlocs⟩ : ∃ z : List Loc, z = [] := ⟨_, rfl⟩
  rw [← hH, ← hlocs] at hB
  rw [← hH, ← hlocs]
  refine q_ald_n cx dX12_meetsIn_0 rfl (lv_at hl 0 rfl) ?_
  refine q_ald_n cx dX12_meetsIn_1 rfl (lv_at hl 0 rfl) ?_
  refine q_ild_n cx dX12_meetsIn_2 rfl (lv_at hl 1 rfl) ?_
  refine q_cVi (As := [.int (q_i a0)]) (rest := [.ref mo]) cx hB (fun _ h => h) hN hmo kmo (by decide) rfl (r_isNode0 l g hN hB.2.1 mo hmo kmo a0 (by omega) (by omega) sr hsr ksr hf8 hr1) q_cX12_355 q_dX12_isNode (by decide) rfl rfl hl.1 rfl (Nat.le_of_ble_eq_true rfl) dX12_meetsIn_3 (fun y38 H locs f37 ry38 h39 hF hB => ?_)
  obtain ⟨rfl, qy38⟩ := h39
  subst qy38
  refine q_ifeq (tgt := 21) cx ⟨by decide, by decide⟩ dX12_meetsIn_6 (by decide) (fun c40 => ?_) (fun c40 => ?_)
  · refine q_iconst cx dX12_meetsIn_21 ?_
    refine q_cVi (As := [.int (q_i 0)]) (rest := []) cx hB (fun _ h => h) hN hmo kmo (by decide) rfl (r_goes0 l g hN hB.2.1 mo hmo kmo 0 (by decide) (by decide)) q_cX12_85 q_dX12_goes (by decide) rfl rfl hl.1 rfl (Nat.le_of_ble_eq_true rfl) dX12_meetsIn_22 (fun y42 H locs f41 ry42 h43 hF hB => ?_)
    obtain ⟨qy42, z44⟩ := h43
    have z45 : q_z f41 mo 2 = 0 := (hF.z hmo (by rw [kmo]; rfl)).trans hf0
    have z46 : q_z f41 mo 8 = 0 := (hF.z hmo (by rw [kmo]; rfl)).trans hf1
    have z47 : q_z f41 mo 9 = (-1) := (hF.z hmo (by rw [kmo]; rfl)).trans hf2
    have z48 : q_z f41 mo 10 = 0 := (hF.z hmo (by rw [kmo]; rfl)).trans hf3
    have z49 : q_z f41 mo 11 = (-1) := (hF.z hmo (by rw [kmo]; rfl)).trans hf4
    have z50 : q_z f41 mo 21 = 0 := (hF.z hmo (by rw [kmo]; rfl)).trans hf5
    have z51 : q_z f41 mo 22 = 0 := (hF.z hmo (by rw [kmo]; rfl)).trans hf6
    have z52 : q_z f41 mo 40 = 0 := (hF.z hmo (by rw [kmo]; rfl)).trans hf7
    have z53 : q_z f41 sr 0 = 0 := (hF.z hsr (by rw [ksr]; rfl)).trans hf8
    have z54 : q_z f41 sr 1 = 0 := (hF.z hsr (by rw [ksr]; rfl)).trans hf9
    have z55 : q_z f41 sr 2 = 12 := (hF.z hsr (by rw [ksr]; rfl)).trans hf10
    have z56 : q_z f41 sr 3 = 0 := (hF.z hsr (by rw [ksr]; rfl)).trans hf11
    have z57 : q_z f41 sr 4 = 0 := (hF.z hsr (by rw [ksr]; rfl)).trans hf12
    have z58 : q_z f41 sr 5 = 1 := (hF.z hsr (by rw [ksr]; rfl)).trans hf13
    have z59 : q_z f41 sr 6 = 2 := (hF.z hsr (by rw [ksr]; rfl)).trans hf14
    have z60 : q_z f41 sr 7 = 5 := (hF.z hsr (by rw [ksr]; rfl)).trans hf15
    have z61 : q_z f41 sr 8 = 3 := (hF.z hsr (by rw [ksr]; rfl)).trans hf16
    have z62 : q_z f41 sr 9 = 0 := (hF.z hsr (by rw [ksr]; rfl)).trans hf17
    have z63 : q_r f41 mo 1 = bu := (hF.r hmo (by rw [kmo]; rfl)).trans hr0
    have z64 : q_r f41 mo 13 = sr := (hF.r hmo (by rw [kmo]; rfl)).trans hr1
    have z65 : q_r f41 mo 14 = sd := (hF.r hmo (by rw [kmo]; rfl)).trans hr2
    have z66 : q_r f41 mo 15 = as := (hF.r hmo (by rw [kmo]; rfl)).trans hr3
    have z67 : q_r f41 mo 16 = aw := (hF.r hmo (by rw [kmo]; rfl)).trans hr4
    have z68 : q_r f41 mo 17 = pa := (hF.r hmo (by rw [kmo]; rfl)).trans hr5
    have z69 : q_r f41 mo 18 = nm := (hF.r hmo (by rw [kmo]; rfl)).trans hr6
    have z70 : q_r f41 mo 19 = snm := (hF.r hmo (by rw [kmo]; rfl)).trans hr7
    have z71 : q_r f41 mo 20 = anm := (hF.r hmo (by rw [kmo]; rfl)).trans hr8
    subst qy42
    refine q_ifeq (tgt := 37) cx ⟨by decide, by decide⟩ dX12_meetsIn_25 (by decide) (fun c72 => ?_) (fun c72 => ?_)
    · refine q_iconst cx dX12_meetsIn_37 ?_
      refine q_iret cx hr hlk hB dX12_meetsIn_38 ⟨by decide, by decide⟩ ?_
      exact ⟨rfl, z44⟩
    · exact absurd c72 (by omega)
  · exact absurd c40 (by omega)
set_option maxHeartbeats 4000000 in
set_option maxRecDepth 100000 in
theorem p_hops (l : Launch) (g : q_G) {K : Nat → Nat} {L : List Nat} (hN : L.Nodup) {f : Nat → va_E} (hT : q_Ty g K L f) (mo : Nat) (hmo : mo ∈ L) (kmo : K mo = 12) (a0 : Int) (la0 : (-2147483648) ≤ a0) (ua0 : a0 ≤ 2147483647) (b0 : Int) (lb0 : (-2147483648) ≤ b0) (ub0 : b0 ≤ 2147483647) (bu : Nat) (hbu : bu ∈ L) (kbu : K bu = 150) (sr : Nat) (hsr : sr ∈ L) (ksr : K sr = 151) (sd : Nat) (hsd : sd ∈ L) (ksd : K sd = 152) (as : Nat) (has : as ∈ L) (kas : K as = 153) (aw : Nat) (haw : aw ∈ L) (kaw : K aw = 154) (pa : Nat) (hpa : pa ∈ L) (kpa : K pa = 155) (nm : Nat) (hnm : nm ∈ L) (knm : K nm = 156) (snm : Nat) (hsnm : snm ∈ L) (ksnm : K snm = 157) (anm : Nat) (hanm : anm ∈ L) (kanm : K anm = 158) (hf0 : q_z f mo 2 = 0) (hf1 : q_z f mo 8 = 0) (hf2 : q_z f mo 9 = (-1)) (hf3 : q_z f mo 10 = 0) (hf4 : q_z f mo 11 = (-1)) (hf5 : q_z f mo 21 = 0) (hf6 : q_z f mo 22 = 0) (hf7 : q_z f mo 40 = 0) (hf8 : q_z f sr 0 = 0) (hf9 : q_z f sr 1 = 0) (hf10 : q_z f sr 2 = 12) (hf11 : q_z f sr 3 = 0) (hf12 : q_z f sr 4 = 0) (hf13 : q_z f sr 5 = 1) (hf14 : q_z f sr 6 = 2) (hf15 : q_z f sr 7 = 5) (hf16 : q_z f sr 8 = 3) (hf17 : q_z f sr 9 = 0) (hr0 : q_r f mo 1 = bu) (hr1 : q_r f mo 13 = sr) (hr2 : q_r f mo 14 = sd) (hr3 : q_r f mo 15 = as) (hr4 : q_r f mo 16 = aw) (hr5 : q_r f mo 17 = pa) (hr6 : q_r f mo 18 = nm) (hr7 : q_r f mo 19 = snm) (hr8 : q_r f mo 20 = anm) : q_Ct l g K L yX12_hops cX12_hops 3 (some .int) 2 46 [.ref mo, .int (q_i a0), .int (q_i b0)] f [(12, 0, 40), (150, 0, 599), (151, 0, 657), (152, 0, 657), (153, 0, 657), (154, 0, 657), (155, 0, 3947), (156, 0, 9), (157, 0, 9), (158, 0, 9)] (q_Pi (fun (z : Int) (f1 : Nat → va_E) => z = 0 ∧ q_z f1 mo 0 = 1)) := by
  refine q_ofb (by decide +kernel) hN hT (Nat.le_of_ble_eq_true rfl) ?_
  intro p e s m below meth c ls cx hr hlk hB hl
  have hl : lv_has ls 3 [(0, .ref mo), (1, .int (q_i a0)), (2, .int (q_i b0))] := hl
  obtain ⟨H, hH⟩ : ∃ H : Heap, H = s.heap := ⟨_, rfl⟩
  obtain ⟨locs, hlocs⟩ : ∃ z : List Loc, z = [] := ⟨_, rfl⟩
  rw [← hH, ← hlocs] at hB
  rw [← hH, ← hlocs]
  refine q_ald_n cx dX12_hops_0 rfl (lv_at hl 0 rfl) ?_
  refine q_ald_n cx dX12_hops_1 rfl (lv_at hl 0 rfl) ?_
  refine q_ild_n cx dX12_hops_2 rfl (lv_at hl 1 rfl) ?_
  refine q_cVi (As := [.int (q_i a0)]) (rest := [.ref mo]) cx hB (fun _ h => h) hN hmo kmo (by decide) rfl (r_isNode0 l g hN hB.2.1 mo hmo kmo a0 (by omega) (by omega) sr hsr ksr hf8 hr1) q_cX12_355 q_dX12_isNode (by decide) rfl rfl hl.1 rfl (Nat.le_of_ble_eq_true rfl) dX12_hops_3 (fun y38 H locs f37 ry38 h39 hF hB => ?_)
  obtain ⟨rfl, qy38⟩ := h39
  subst qy38
  refine q_ifeq (tgt := 21) cx ⟨by decide, by decide⟩ dX12_hops_6 (by decide) (fun c40 => ?_) (fun c40 => ?_)
  · refine q_iconst cx dX12_hops_21 ?_
    refine q_cVi (As := [.int (q_i 0)]) (rest := []) cx hB (fun _ h => h) hN hmo kmo (by decide) rfl (r_goes0 l g hN hB.2.1 mo hmo kmo 0 (by decide) (by decide)) q_cX12_85 q_dX12_goes (by decide) rfl rfl hl.1 rfl (Nat.le_of_ble_eq_true rfl) dX12_hops_22 (fun y42 H locs f41 ry42 h43 hF hB => ?_)
    obtain ⟨qy42, z44⟩ := h43
    have z45 : q_z f41 mo 2 = 0 := (hF.z hmo (by rw [kmo]; rfl)).trans hf0
    have z46 : q_z f41 mo 8 = 0 := (hF.z hmo (by rw [kmo]; rfl)).trans hf1
    have z47 : q_z f41 mo 9 = (-1) := (hF.z hmo (by rw [kmo]; rfl)).trans hf2
    have z48 : q_z f41 mo 10 = 0 := (hF.z hmo (by rw [kmo]; rfl)).trans hf3
    have z49 : q_z f41 mo 11 = (-1) := (hF.z hmo (by rw [kmo]; rfl)).trans hf4
    have z50 : q_z f41 mo 21 = 0 := (hF.z hmo (by rw [kmo]; rfl)).trans hf5
    have z51 : q_z f41 mo 22 = 0 := (hF.z hmo (by rw [kmo]; rfl)).trans hf6
    have z52 : q_z f41 mo 40 = 0 := (hF.z hmo (by rw [kmo]; rfl)).trans hf7
    have z53 : q_z f41 sr 0 = 0 := (hF.z hsr (by rw [ksr]; rfl)).trans hf8
    have z54 : q_z f41 sr 1 = 0 := (hF.z hsr (by rw [ksr]; rfl)).trans hf9
    have z55 : q_z f41 sr 2 = 12 := (hF.z hsr (by rw [ksr]; rfl)).trans hf10
    have z56 : q_z f41 sr 3 = 0 := (hF.z hsr (by rw [ksr]; rfl)).trans hf11
    have z57 : q_z f41 sr 4 = 0 := (hF.z hsr (by rw [ksr]; rfl)).trans hf12
    have z58 : q_z f41 sr 5 = 1 := (hF.z hsr (by rw [ksr]; rfl)).trans hf13
    have z59 : q_z f41 sr 6 = 2 := (hF.z hsr (by rw [ksr]; rfl)).trans hf14
    have z60 : q_z f41 sr 7 = 5 := (hF.z hsr (by rw [ksr]; rfl)).trans hf15
    have z61 : q_z f41 sr 8 = 3 := (hF.z hsr (by rw [ksr]; rfl)).trans hf16
    have z62 : q_z f41 sr 9 = 0 := (hF.z hsr (by rw [ksr]; rfl)).trans hf17
    have z63 : q_r f41 mo 1 = bu := (hF.r hmo (by rw [kmo]; rfl)).trans hr0
    have z64 : q_r f41 mo 13 = sr := (hF.r hmo (by rw [kmo]; rfl)).trans hr1
    have z65 : q_r f41 mo 14 = sd := (hF.r hmo (by rw [kmo]; rfl)).trans hr2
    have z66 : q_r f41 mo 15 = as := (hF.r hmo (by rw [kmo]; rfl)).trans hr3
    have z67 : q_r f41 mo 16 = aw := (hF.r hmo (by rw [kmo]; rfl)).trans hr4
    have z68 : q_r f41 mo 17 = pa := (hF.r hmo (by rw [kmo]; rfl)).trans hr5
    have z69 : q_r f41 mo 18 = nm := (hF.r hmo (by rw [kmo]; rfl)).trans hr6
    have z70 : q_r f41 mo 19 = snm := (hF.r hmo (by rw [kmo]; rfl)).trans hr7
    have z71 : q_r f41 mo 20 = anm := (hF.r hmo (by rw [kmo]; rfl)).trans hr8
    subst qy42
    refine q_ifeq (tgt := 37) cx ⟨by decide, by decide⟩ dX12_hops_25 (by decide) (fun c72 => ?_) (fun c72 => ?_)
    · refine q_iconst cx dX12_hops_37 ?_
      refine q_iret cx hr hlk hB dX12_hops_38 ⟨by decide, by decide⟩ ?_
      exact ⟨rfl, z44⟩
    · exact absurd c72 (by omega)
  · exact absurd c40 (by omega)
set_option maxHeartbeats 4000000 in
set_option maxRecDepth 100000 in
theorem p_nextNode (l : Launch) (g : q_G) {K : Nat → Nat} {L : List Nat} (hN : L.Nodup) {f : Nat → va_E} (hT : q_Ty g K L f) (mo : Nat) (hmo : mo ∈ L) (kmo : K mo = 12) (a0 : Int) (la0 : (-2147483648) ≤ a0) (ua0 : a0 ≤ 2147483647) (b0 : Int) (lb0 : (-2147483648) ≤ b0) (ub0 : b0 ≤ 2147483647) (bu : Nat) (hbu : bu ∈ L) (kbu : K bu = 150) (sr : Nat) (hsr : sr ∈ L) (ksr : K sr = 151) (sd : Nat) (hsd : sd ∈ L) (ksd : K sd = 152) (as : Nat) (has : as ∈ L) (kas : K as = 153) (aw : Nat) (haw : aw ∈ L) (kaw : K aw = 154) (pa : Nat) (hpa : pa ∈ L) (kpa : K pa = 155) (nm : Nat) (hnm : nm ∈ L) (knm : K nm = 156) (snm : Nat) (hsnm : snm ∈ L) (ksnm : K snm = 157) (anm : Nat) (hanm : anm ∈ L) (kanm : K anm = 158) (hf0 : q_z f mo 2 = 0) (hf1 : q_z f mo 8 = 0) (hf2 : q_z f mo 9 = (-1)) (hf3 : q_z f mo 10 = 0) (hf4 : q_z f mo 11 = (-1)) (hf5 : q_z f mo 21 = 0) (hf6 : q_z f mo 22 = 0) (hf7 : q_z f mo 40 = 0) (hf8 : q_z f sr 0 = 0) (hf9 : q_z f sr 1 = 0) (hf10 : q_z f sr 2 = 12) (hf11 : q_z f sr 3 = 0) (hf12 : q_z f sr 4 = 0) (hf13 : q_z f sr 5 = 1) (hf14 : q_z f sr 6 = 2) (hf15 : q_z f sr 7 = 5) (hf16 : q_z f sr 8 = 3) (hf17 : q_z f sr 9 = 0) (hr0 : q_r f mo 1 = bu) (hr1 : q_r f mo 13 = sr) (hr2 : q_r f mo 14 = sd) (hr3 : q_r f mo 15 = as) (hr4 : q_r f mo 16 = aw) (hr5 : q_r f mo 17 = pa) (hr6 : q_r f mo 18 = nm) (hr7 : q_r f mo 19 = snm) (hr8 : q_r f mo 20 = anm) : q_Ct l g K L yX12_nextNode cX12_nextNode 3 (some .int) 2 46 [.ref mo, .int (q_i a0), .int (q_i b0)] f [(12, 0, 40), (150, 0, 599), (151, 0, 657), (152, 0, 657), (153, 0, 657), (154, 0, 657), (155, 0, 3947), (156, 0, 9), (157, 0, 9), (158, 0, 9)] (q_Pi (fun (z : Int) (f1 : Nat → va_E) => z = 0 ∧ q_z f1 mo 0 = 1)) := by
  refine q_ofb (by decide +kernel) hN hT (Nat.le_of_ble_eq_true rfl) ?_
  intro p e s m below meth c ls cx hr hlk hB hl
  have hl : lv_has ls 3 [(0, .ref mo), (1, .int (q_i a0)), (2, .int (q_i b0))] := hl
  obtain ⟨H, hH⟩ : ∃ H : Heap, H = s.heap := ⟨_, rfl⟩
  obtain ⟨locs, hlocs⟩ : ∃ z : List Loc, z = [] := ⟨_, rfl⟩
  rw [← hH, ← hlocs] at hB
  rw [← hH, ← hlocs]
  refine q_ald_n cx dX12_nextNode_0 rfl (lv_at hl 0 rfl) ?_
  refine q_ald_n cx dX12_nextNode_1 rfl (lv_at hl 0 rfl) ?_
  refine q_ild_n cx dX12_nextNode_2 rfl (lv_at hl 1 rfl) ?_
  refine q_cVi (As := [.int (q_i a0)]) (rest := [.ref mo]) cx hB (fun _ h => h) hN hmo kmo (by decide) rfl (r_isNode0 l g hN hB.2.1 mo hmo kmo a0 (by omega) (by omega) sr hsr ksr hf8 hr1) q_cX12_355 q_dX12_isNode (by decide) rfl rfl hl.1 rfl (Nat.le_of_ble_eq_true rfl) dX12_nextNode_3 (fun y38 H locs f37 ry38 h39 hF hB => ?_)
  obtain ⟨rfl, qy38⟩ := h39
  subst qy38
  refine q_ifeq (tgt := 21) cx ⟨by decide, by decide⟩ dX12_nextNode_6 (by decide) (fun c40 => ?_) (fun c40 => ?_)
  · refine q_iconst cx dX12_nextNode_21 ?_
    refine q_cVi (As := [.int (q_i 0)]) (rest := []) cx hB (fun _ h => h) hN hmo kmo (by decide) rfl (r_goes0 l g hN hB.2.1 mo hmo kmo 0 (by decide) (by decide)) q_cX12_85 q_dX12_goes (by decide) rfl rfl hl.1 rfl (Nat.le_of_ble_eq_true rfl) dX12_nextNode_22 (fun y42 H locs f41 ry42 h43 hF hB => ?_)
    obtain ⟨qy42, z44⟩ := h43
    have z45 : q_z f41 mo 2 = 0 := (hF.z hmo (by rw [kmo]; rfl)).trans hf0
    have z46 : q_z f41 mo 8 = 0 := (hF.z hmo (by rw [kmo]; rfl)).trans hf1
    have z47 : q_z f41 mo 9 = (-1) := (hF.z hmo (by rw [kmo]; rfl)).trans hf2
    have z48 : q_z f41 mo 10 = 0 := (hF.z hmo (by rw [kmo]; rfl)).trans hf3
    have z49 : q_z f41 mo 11 = (-1) := (hF.z hmo (by rw [kmo]; rfl)).trans hf4
    have z50 : q_z f41 mo 21 = 0 := (hF.z hmo (by rw [kmo]; rfl)).trans hf5
    have z51 : q_z f41 mo 22 = 0 := (hF.z hmo (by rw [kmo]; rfl)).trans hf6
    have z52 : q_z f41 mo 40 = 0 := (hF.z hmo (by rw [kmo]; rfl)).trans hf7
    have z53 : q_z f41 sr 0 = 0 := (hF.z hsr (by rw [ksr]; rfl)).trans hf8
    have z54 : q_z f41 sr 1 = 0 := (hF.z hsr (by rw [ksr]; rfl)).trans hf9
    have z55 : q_z f41 sr 2 = 12 := (hF.z hsr (by rw [ksr]; rfl)).trans hf10
    have z56 : q_z f41 sr 3 = 0 := (hF.z hsr (by rw [ksr]; rfl)).trans hf11
    have z57 : q_z f41 sr 4 = 0 := (hF.z hsr (by rw [ksr]; rfl)).trans hf12
    have z58 : q_z f41 sr 5 = 1 := (hF.z hsr (by rw [ksr]; rfl)).trans hf13
    have z59 : q_z f41 sr 6 = 2 := (hF.z hsr (by rw [ksr]; rfl)).trans hf14
    have z60 : q_z f41 sr 7 = 5 := (hF.z hsr (by rw [ksr]; rfl)).trans hf15
    have z61 : q_z f41 sr 8 = 3 := (hF.z hsr (by rw [ksr]; rfl)).trans hf16
    have z62 : q_z f41 sr 9 = 0 := (hF.z hsr (by rw [ksr]; rfl)).trans hf17
    have z63 : q_r f41 mo 1 = bu := (hF.r hmo (by rw [kmo]; rfl)).trans hr0
    have z64 : q_r f41 mo 13 = sr := (hF.r hmo (by rw [kmo]; rfl)).trans hr1
    have z65 : q_r f41 mo 14 = sd := (hF.r hmo (by rw [kmo]; rfl)).trans hr2
    have z66 : q_r f41 mo 15 = as := (hF.r hmo (by rw [kmo]; rfl)).trans hr3
    have z67 : q_r f41 mo 16 = aw := (hF.r hmo (by rw [kmo]; rfl)).trans hr4
    have z68 : q_r f41 mo 17 = pa := (hF.r hmo (by rw [kmo]; rfl)).trans hr5
    have z69 : q_r f41 mo 18 = nm := (hF.r hmo (by rw [kmo]; rfl)).trans hr6
    have z70 : q_r f41 mo 19 = snm := (hF.r hmo (by rw [kmo]; rfl)).trans hr7
    have z71 : q_r f41 mo 20 = anm := (hF.r hmo (by rw [kmo]; rfl)).trans hr8
    subst qy42
    refine q_ifeq (tgt := 37) cx ⟨by decide, by decide⟩ dX12_nextNode_25 (by decide) (fun c72 => ?_) (fun c72 => ?_)
    · refine q_iconst cx dX12_nextNode_37 ?_
      refine q_iret cx hr hlk hB dX12_nextNode_38 ⟨by decide, by decide⟩ ?_
      exact ⟨rfl, z44⟩
    · exact absurd c72 (by omega)
  · exact absurd c40 (by omega)
set_option maxHeartbeats 4000000 in
set_option maxRecDepth 100000 in
theorem p_arrives (l : Launch) (g : q_G) {K : Nat → Nat} {L : List Nat} (hN : L.Nodup) {f : Nat → va_E} (hT : q_Ty g K L f) (mo : Nat) (hmo : mo ∈ L) (kmo : K mo = 12) (a0 : Int) (la0 : (-2147483648) ≤ a0) (ua0 : a0 ≤ 2147483647) (bu : Nat) (hbu : bu ∈ L) (kbu : K bu = 150) (sr : Nat) (hsr : sr ∈ L) (ksr : K sr = 151) (sd : Nat) (hsd : sd ∈ L) (ksd : K sd = 152) (as : Nat) (has : as ∈ L) (kas : K as = 153) (aw : Nat) (haw : aw ∈ L) (kaw : K aw = 154) (pa : Nat) (hpa : pa ∈ L) (kpa : K pa = 155) (nm : Nat) (hnm : nm ∈ L) (knm : K nm = 156) (snm : Nat) (hsnm : snm ∈ L) (ksnm : K snm = 157) (anm : Nat) (hanm : anm ∈ L) (kanm : K anm = 158) (hf0 : q_z f mo 2 = 0) (hf1 : q_z f mo 8 = 0) (hf2 : q_z f mo 9 = (-1)) (hf3 : q_z f mo 10 = 0) (hf4 : q_z f mo 11 = (-1)) (hf5 : q_z f mo 21 = 0) (hf6 : q_z f mo 22 = 0) (hf7 : q_z f mo 40 = 0) (hf8 : q_z f sr 0 = 0) (hf9 : q_z f sr 1 = 0) (hf10 : q_z f sr 2 = 12) (hf11 : q_z f sr 3 = 0) (hf12 : q_z f sr 4 = 0) (hf13 : q_z f sr 5 = 1) (hf14 : q_z f sr 6 = 2) (hf15 : q_z f sr 7 = 5) (hf16 : q_z f sr 8 = 3) (hf17 : q_z f sr 9 = 0) (hr0 : q_r f mo 1 = bu) (hr1 : q_r f mo 13 = sr) (hr2 : q_r f mo 14 = sd) (hr3 : q_r f mo 15 = as) (hr4 : q_r f mo 16 = aw) (hr5 : q_r f mo 17 = pa) (hr6 : q_r f mo 18 = nm) (hr7 : q_r f mo 19 = snm) (hr8 : q_r f mo 20 = anm) : q_Ct l g K L yX12_arrives cX12_arrives 2 (some .int) 2 46 [.ref mo, .int (q_i a0)] f [(12, 0, 40), (150, 0, 599), (151, 0, 657), (152, 0, 657), (153, 0, 657), (154, 0, 657), (155, 0, 3947), (156, 0, 9), (157, 0, 9), (158, 0, 9)] (q_Pi (fun (z : Int) (f1 : Nat → va_E) => z = 0 ∧ q_z f1 mo 0 = 1)) := by
  refine q_ofb (by decide +kernel) hN hT (Nat.le_of_ble_eq_true rfl) ?_
  intro p e s m below meth c ls cx hr hlk hB hl
  have hl : lv_has ls 2 [(0, .ref mo), (1, .int (q_i a0))] := hl
  obtain ⟨H, hH⟩ : ∃ H : Heap, H = s.heap := ⟨_, rfl⟩
  obtain ⟨locs, hlocs⟩ : ∃ z : List Loc, z = [] := ⟨_, rfl⟩
  rw [← hH, ← hlocs] at hB
  rw [← hH, ← hlocs]
  refine q_ald_n cx dX12_arrives_0 rfl (lv_at hl 0 rfl) ?_
  refine q_ald_n cx dX12_arrives_1 rfl (lv_at hl 0 rfl) ?_
  refine q_ild_n cx dX12_arrives_2 rfl (lv_at hl 1 rfl) ?_
  refine q_cVi (As := [.int (q_i a0)]) (rest := [.ref mo]) cx hB (fun _ h => h) hN hmo kmo (by decide) rfl (r_isMessage0 l g hN hB.2.1 mo hmo kmo a0 (by omega) (by omega) sr hsr ksr hf12 hr1) q_cX12_373 q_dX12_isMessage (by decide) rfl rfl hl.1 rfl (Nat.le_of_ble_eq_true rfl) dX12_arrives_3 (fun y37 H locs f36 ry37 h38 hF hB => ?_)
  obtain ⟨rfl, qy37⟩ := h38
  subst qy37
  refine q_cVi (As := [.int (q_i 0)]) (rest := []) cx hB (fun _ h => h) hN hmo kmo (by decide) rfl (r_goes0 l g hN hB.2.1 mo hmo kmo 0 (by decide) (by decide)) q_cX12_85 q_dX12_goes (by decide) rfl rfl hl.1 rfl (Nat.le_of_ble_eq_true rfl) dX12_arrives_6 (fun y40 H locs f39 ry40 h41 hF hB => ?_)
  obtain ⟨qy40, z42⟩ := h41
  have z43 : q_z f39 mo 2 = 0 := (hF.z hmo (by rw [kmo]; rfl)).trans hf0
  have z44 : q_z f39 mo 8 = 0 := (hF.z hmo (by rw [kmo]; rfl)).trans hf1
  have z45 : q_z f39 mo 9 = (-1) := (hF.z hmo (by rw [kmo]; rfl)).trans hf2
  have z46 : q_z f39 mo 10 = 0 := (hF.z hmo (by rw [kmo]; rfl)).trans hf3
  have z47 : q_z f39 mo 11 = (-1) := (hF.z hmo (by rw [kmo]; rfl)).trans hf4
  have z48 : q_z f39 mo 21 = 0 := (hF.z hmo (by rw [kmo]; rfl)).trans hf5
  have z49 : q_z f39 mo 22 = 0 := (hF.z hmo (by rw [kmo]; rfl)).trans hf6
  have z50 : q_z f39 mo 40 = 0 := (hF.z hmo (by rw [kmo]; rfl)).trans hf7
  have z51 : q_z f39 sr 0 = 0 := (hF.z hsr (by rw [ksr]; rfl)).trans hf8
  have z52 : q_z f39 sr 1 = 0 := (hF.z hsr (by rw [ksr]; rfl)).trans hf9
  have z53 : q_z f39 sr 2 = 12 := (hF.z hsr (by rw [ksr]; rfl)).trans hf10
  have z54 : q_z f39 sr 3 = 0 := (hF.z hsr (by rw [ksr]; rfl)).trans hf11
  have z55 : q_z f39 sr 4 = 0 := (hF.z hsr (by rw [ksr]; rfl)).trans hf12
  have z56 : q_z f39 sr 5 = 1 := (hF.z hsr (by rw [ksr]; rfl)).trans hf13
  have z57 : q_z f39 sr 6 = 2 := (hF.z hsr (by rw [ksr]; rfl)).trans hf14
  have z58 : q_z f39 sr 7 = 5 := (hF.z hsr (by rw [ksr]; rfl)).trans hf15
  have z59 : q_z f39 sr 8 = 3 := (hF.z hsr (by rw [ksr]; rfl)).trans hf16
  have z60 : q_z f39 sr 9 = 0 := (hF.z hsr (by rw [ksr]; rfl)).trans hf17
  have z61 : q_r f39 mo 1 = bu := (hF.r hmo (by rw [kmo]; rfl)).trans hr0
  have z62 : q_r f39 mo 13 = sr := (hF.r hmo (by rw [kmo]; rfl)).trans hr1
  have z63 : q_r f39 mo 14 = sd := (hF.r hmo (by rw [kmo]; rfl)).trans hr2
  have z64 : q_r f39 mo 15 = as := (hF.r hmo (by rw [kmo]; rfl)).trans hr3
  have z65 : q_r f39 mo 16 = aw := (hF.r hmo (by rw [kmo]; rfl)).trans hr4
  have z66 : q_r f39 mo 17 = pa := (hF.r hmo (by rw [kmo]; rfl)).trans hr5
  have z67 : q_r f39 mo 18 = nm := (hF.r hmo (by rw [kmo]; rfl)).trans hr6
  have z68 : q_r f39 mo 19 = snm := (hF.r hmo (by rw [kmo]; rfl)).trans hr7
  have z69 : q_r f39 mo 20 = anm := (hF.r hmo (by rw [kmo]; rfl)).trans hr8
  subst qy40
  refine q_ifne (tgt := 14) cx ⟨by decide, by decide⟩ dX12_arrives_9 (by decide) (fun c70 => ?_) (fun c70 => ?_)
  · exact absurd c70 (by omega)
  · refine q_iconst cx dX12_arrives_12 ?_
    refine q_iret cx hr hlk hB dX12_arrives_13 ⟨by decide, by decide⟩ ?_
    exact ⟨rfl, z42⟩
set_option maxHeartbeats 4000000 in
set_option maxRecDepth 100000 in
theorem p_wouldArrive (l : Launch) (g : q_G) {K : Nat → Nat} {L : List Nat} (hN : L.Nodup) {f : Nat → va_E} (hT : q_Ty g K L f) (mo : Nat) (hmo : mo ∈ L) (kmo : K mo = 12) (a0 : Int) (la0 : (-2147483648) ≤ a0) (ua0 : a0 ≤ 2147483647) (b0 : Int) (lb0 : (-2147483648) ≤ b0) (ub0 : b0 ≤ 2147483647) (z0 : Int) (lz0 : 0 ≤ z0) (uz0 : z0 ≤ 1) (bu : Nat) (hbu : bu ∈ L) (kbu : K bu = 150) (sr : Nat) (hsr : sr ∈ L) (ksr : K sr = 151) (sd : Nat) (hsd : sd ∈ L) (ksd : K sd = 152) (as : Nat) (has : as ∈ L) (kas : K as = 153) (aw : Nat) (haw : aw ∈ L) (kaw : K aw = 154) (pa : Nat) (hpa : pa ∈ L) (kpa : K pa = 155) (nm : Nat) (hnm : nm ∈ L) (knm : K nm = 156) (snm : Nat) (hsnm : snm ∈ L) (ksnm : K snm = 157) (anm : Nat) (hanm : anm ∈ L) (kanm : K anm = 158) (hf0 : q_z f mo 2 = 0) (hf1 : q_z f mo 8 = 0) (hf2 : q_z f mo 9 = (-1)) (hf3 : q_z f mo 10 = 0) (hf4 : q_z f mo 11 = (-1)) (hf5 : q_z f mo 21 = 0) (hf6 : q_z f mo 22 = 0) (hf7 : q_z f mo 40 = 0) (hf8 : q_z f sr 0 = 0) (hf9 : q_z f sr 1 = 0) (hf10 : q_z f sr 2 = 12) (hf11 : q_z f sr 3 = 0) (hf12 : q_z f sr 4 = 0) (hf13 : q_z f sr 5 = 1) (hf14 : q_z f sr 6 = 2) (hf15 : q_z f sr 7 = 5) (hf16 : q_z f sr 8 = 3) (hf17 : q_z f sr 9 = 0) (hr0 : q_r f mo 1 = bu) (hr1 : q_r f mo 13 = sr) (hr2 : q_r f mo 14 = sd) (hr3 : q_r f mo 15 = as) (hr4 : q_r f mo 16 = aw) (hr5 : q_r f mo 17 = pa) (hr6 : q_r f mo 18 = nm) (hr7 : q_r f mo 19 = snm) (hr8 : q_r f mo 20 = anm) : q_Ct l g K L yX12_wouldArrive cX12_wouldArrive 4 (some .int) 2 46 [.ref mo, .int (q_i a0), .int (q_i b0), .int (q_i z0)] f [(12, 0, 40), (150, 0, 599), (151, 0, 657), (152, 0, 657), (153, 0, 657), (154, 0, 657), (155, 0, 3947), (156, 0, 9), (157, 0, 9), (158, 0, 9)] (q_Pi (fun (z : Int) (f1 : Nat → va_E) => z = 0 ∧ q_z f1 mo 0 = 1)) := by
  refine q_ofb (by decide +kernel) hN hT (Nat.le_of_ble_eq_true rfl) ?_
  intro p e s m below meth c ls cx hr hlk hB hl
  have hl : lv_has ls 4 [(0, .ref mo), (1, .int (q_i a0)), (2, .int (q_i b0)), (3, .int (q_i z0))] := hl
  obtain ⟨H, hH⟩ : ∃ H : Heap, H = s.heap := ⟨_, rfl⟩
  obtain ⟨locs, hlocs⟩ : ∃ z : List Loc, z = [] := ⟨_, rfl⟩
  rw [← hH, ← hlocs] at hB
  rw [← hH, ← hlocs]
  refine q_ald_n cx dX12_wouldArrive_0 rfl (lv_at hl 0 rfl) ?_
  refine q_ald_n cx dX12_wouldArrive_1 rfl (lv_at hl 0 rfl) ?_
  refine q_ild_n cx dX12_wouldArrive_2 rfl (lv_at hl 1 rfl) ?_
  refine q_cVi (As := [.int (q_i a0)]) (rest := [.ref mo]) cx hB (fun _ h => h) hN hmo kmo (by decide) rfl (r_isNode0 l g hN hB.2.1 mo hmo kmo a0 (by omega) (by omega) sr hsr ksr hf8 hr1) q_cX12_355 q_dX12_isNode (by decide) rfl rfl hl.1 rfl (Nat.le_of_ble_eq_true rfl) dX12_wouldArrive_3 (fun y71 H locs f70 ry71 h72 hF hB => ?_)
  obtain ⟨rfl, qy71⟩ := h72
  subst qy71
  refine q_ifeq (tgt := 21) cx ⟨by decide, by decide⟩ dX12_wouldArrive_6 (by decide) (fun c73 => ?_) (fun c73 => ?_)
  · refine q_iconst cx dX12_wouldArrive_21 ?_
    refine q_ild_n cx dX12_wouldArrive_22 rfl (lv_at hl 1 rfl) ?_
    refine q_ild_n cx dX12_wouldArrive_23 rfl (lv_at hl 2 rfl) ?_
    refine q_iceq (tgt := 31) cx ⟨by omega, by omega⟩ ⟨by omega, by omega⟩ dX12_wouldArrive_24 (by decide) (fun c74 => ?_) (fun c74 => ?_)
    · refine q_iconst cx dX12_wouldArrive_31 ?_
      refine q_cVi (As := [.int (q_i 0), .int (q_i 0)]) (rest := []) cx hB (fun _ h => h) hN hmo kmo (by decide) rfl (r_goesBoth0 l g hN hB.2.1 mo hmo kmo 0 (by decide) (by decide) 0 (by decide) (by decide)) q_cX12_358 q_dX12_goesBoth (by decide) rfl rfl hl.1 rfl (Nat.le_of_ble_eq_true rfl) dX12_wouldArrive_32 (fun y76 H locs f75 ry76 h77 hF hB => ?_)
      obtain ⟨qy76, z78⟩ := h77
      have z79 : q_z f75 mo 2 = 0 := (hF.z hmo (by rw [kmo]; rfl)).trans hf0
      have z80 : q_z f75 mo 8 = 0 := (hF.z hmo (by rw [kmo]; rfl)).trans hf1
      have z81 : q_z f75 mo 9 = (-1) := (hF.z hmo (by rw [kmo]; rfl)).trans hf2
      have z82 : q_z f75 mo 10 = 0 := (hF.z hmo (by rw [kmo]; rfl)).trans hf3
      have z83 : q_z f75 mo 11 = (-1) := (hF.z hmo (by rw [kmo]; rfl)).trans hf4
      have z84 : q_z f75 mo 21 = 0 := (hF.z hmo (by rw [kmo]; rfl)).trans hf5
      have z85 : q_z f75 mo 22 = 0 := (hF.z hmo (by rw [kmo]; rfl)).trans hf6
      have z86 : q_z f75 mo 40 = 0 := (hF.z hmo (by rw [kmo]; rfl)).trans hf7
      have z87 : q_z f75 sr 0 = 0 := (hF.z hsr (by rw [ksr]; rfl)).trans hf8
      have z88 : q_z f75 sr 1 = 0 := (hF.z hsr (by rw [ksr]; rfl)).trans hf9
      have z89 : q_z f75 sr 2 = 12 := (hF.z hsr (by rw [ksr]; rfl)).trans hf10
      have z90 : q_z f75 sr 3 = 0 := (hF.z hsr (by rw [ksr]; rfl)).trans hf11
      have z91 : q_z f75 sr 4 = 0 := (hF.z hsr (by rw [ksr]; rfl)).trans hf12
      have z92 : q_z f75 sr 5 = 1 := (hF.z hsr (by rw [ksr]; rfl)).trans hf13
      have z93 : q_z f75 sr 6 = 2 := (hF.z hsr (by rw [ksr]; rfl)).trans hf14
      have z94 : q_z f75 sr 7 = 5 := (hF.z hsr (by rw [ksr]; rfl)).trans hf15
      have z95 : q_z f75 sr 8 = 3 := (hF.z hsr (by rw [ksr]; rfl)).trans hf16
      have z96 : q_z f75 sr 9 = 0 := (hF.z hsr (by rw [ksr]; rfl)).trans hf17
      have z97 : q_r f75 mo 1 = bu := (hF.r hmo (by rw [kmo]; rfl)).trans hr0
      have z98 : q_r f75 mo 13 = sr := (hF.r hmo (by rw [kmo]; rfl)).trans hr1
      have z99 : q_r f75 mo 14 = sd := (hF.r hmo (by rw [kmo]; rfl)).trans hr2
      have z100 : q_r f75 mo 15 = as := (hF.r hmo (by rw [kmo]; rfl)).trans hr3
      have z101 : q_r f75 mo 16 = aw := (hF.r hmo (by rw [kmo]; rfl)).trans hr4
      have z102 : q_r f75 mo 17 = pa := (hF.r hmo (by rw [kmo]; rfl)).trans hr5
      have z103 : q_r f75 mo 18 = nm := (hF.r hmo (by rw [kmo]; rfl)).trans hr6
      have z104 : q_r f75 mo 19 = snm := (hF.r hmo (by rw [kmo]; rfl)).trans hr7
      have z105 : q_r f75 mo 20 = anm := (hF.r hmo (by rw [kmo]; rfl)).trans hr8
      subst qy76
      refine q_ifne (tgt := 40) cx ⟨by decide, by decide⟩ dX12_wouldArrive_35 (by decide) (fun c106 => ?_) (fun c106 => ?_)
      · exact absurd c106 (by omega)
      · refine q_iconst cx dX12_wouldArrive_38 ?_
        refine q_iret cx hr hlk hB dX12_wouldArrive_39 ⟨by decide, by decide⟩ ?_
        exact ⟨rfl, z78⟩
    · refine q_iconst cx dX12_wouldArrive_27 ?_
      refine lv_goto (tgt := 32) cx.1 cx.2.1 dX12_wouldArrive_28 (by decide) ?_
      refine q_cVi (As := [.int (q_i 0), .int (q_i 1)]) (rest := []) cx hB (fun _ h => h) hN hmo kmo (by decide) rfl (r_goesBoth0 l g hN hB.2.1 mo hmo kmo 0 (by decide) (by decide) 1 (by decide) (by decide)) q_cX12_358 q_dX12_goesBoth (by decide) rfl rfl hl.1 rfl (Nat.le_of_ble_eq_true rfl) dX12_wouldArrive_32 (fun y108 H locs f107 ry108 h109 hF hB => ?_)
      obtain ⟨qy108, z110⟩ := h109
      have z111 : q_z f107 mo 2 = 0 := (hF.z hmo (by rw [kmo]; rfl)).trans hf0
      have z112 : q_z f107 mo 8 = 0 := (hF.z hmo (by rw [kmo]; rfl)).trans hf1
      have z113 : q_z f107 mo 9 = (-1) := (hF.z hmo (by rw [kmo]; rfl)).trans hf2
      have z114 : q_z f107 mo 10 = 0 := (hF.z hmo (by rw [kmo]; rfl)).trans hf3
      have z115 : q_z f107 mo 11 = (-1) := (hF.z hmo (by rw [kmo]; rfl)).trans hf4
      have z116 : q_z f107 mo 21 = 0 := (hF.z hmo (by rw [kmo]; rfl)).trans hf5
      have z117 : q_z f107 mo 22 = 0 := (hF.z hmo (by rw [kmo]; rfl)).trans hf6
      have z118 : q_z f107 mo 40 = 0 := (hF.z hmo (by rw [kmo]; rfl)).trans hf7
      have z119 : q_z f107 sr 0 = 0 := (hF.z hsr (by rw [ksr]; rfl)).trans hf8
      have z120 : q_z f107 sr 1 = 0 := (hF.z hsr (by rw [ksr]; rfl)).trans hf9
      have z121 : q_z f107 sr 2 = 12 := (hF.z hsr (by rw [ksr]; rfl)).trans hf10
      have z122 : q_z f107 sr 3 = 0 := (hF.z hsr (by rw [ksr]; rfl)).trans hf11
      have z123 : q_z f107 sr 4 = 0 := (hF.z hsr (by rw [ksr]; rfl)).trans hf12
      have z124 : q_z f107 sr 5 = 1 := (hF.z hsr (by rw [ksr]; rfl)).trans hf13
      have z125 : q_z f107 sr 6 = 2 := (hF.z hsr (by rw [ksr]; rfl)).trans hf14
      have z126 : q_z f107 sr 7 = 5 := (hF.z hsr (by rw [ksr]; rfl)).trans hf15
      have z127 : q_z f107 sr 8 = 3 := (hF.z hsr (by rw [ksr]; rfl)).trans hf16
      have z128 : q_z f107 sr 9 = 0 := (hF.z hsr (by rw [ksr]; rfl)).trans hf17
      have z129 : q_r f107 mo 1 = bu := (hF.r hmo (by rw [kmo]; rfl)).trans hr0
      have z130 : q_r f107 mo 13 = sr := (hF.r hmo (by rw [kmo]; rfl)).trans hr1
      have z131 : q_r f107 mo 14 = sd := (hF.r hmo (by rw [kmo]; rfl)).trans hr2
      have z132 : q_r f107 mo 15 = as := (hF.r hmo (by rw [kmo]; rfl)).trans hr3
      have z133 : q_r f107 mo 16 = aw := (hF.r hmo (by rw [kmo]; rfl)).trans hr4
      have z134 : q_r f107 mo 17 = pa := (hF.r hmo (by rw [kmo]; rfl)).trans hr5
      have z135 : q_r f107 mo 18 = nm := (hF.r hmo (by rw [kmo]; rfl)).trans hr6
      have z136 : q_r f107 mo 19 = snm := (hF.r hmo (by rw [kmo]; rfl)).trans hr7
      have z137 : q_r f107 mo 20 = anm := (hF.r hmo (by rw [kmo]; rfl)).trans hr8
      subst qy108
      refine q_ifne (tgt := 40) cx ⟨by decide, by decide⟩ dX12_wouldArrive_35 (by decide) (fun c138 => ?_) (fun c138 => ?_)
      · exact absurd c138 (by omega)
      · refine q_iconst cx dX12_wouldArrive_38 ?_
        refine q_iret cx hr hlk hB dX12_wouldArrive_39 ⟨by decide, by decide⟩ ?_
        exact ⟨rfl, z110⟩
  · exact absurd c73 (by omega)
set_option maxHeartbeats 4000000 in
set_option maxRecDepth 100000 in
theorem p_outIn (l : Launch) (g : q_G) {K : Nat → Nat} {L : List Nat} (hN : L.Nodup) {f : Nat → va_E} (hT : q_Ty g K L f) (mo : Nat) (hmo : mo ∈ L) (kmo : K mo = 12) (a0 : Int) (la0 : (-2147483648) ≤ a0) (ua0 : a0 ≤ 2147483647) (bu : Nat) (hbu : bu ∈ L) (kbu : K bu = 150) (sr : Nat) (hsr : sr ∈ L) (ksr : K sr = 151) (sd : Nat) (hsd : sd ∈ L) (ksd : K sd = 152) (as : Nat) (has : as ∈ L) (kas : K as = 153) (aw : Nat) (haw : aw ∈ L) (kaw : K aw = 154) (pa : Nat) (hpa : pa ∈ L) (kpa : K pa = 155) (nm : Nat) (hnm : nm ∈ L) (knm : K nm = 156) (snm : Nat) (hsnm : snm ∈ L) (ksnm : K snm = 157) (anm : Nat) (hanm : anm ∈ L) (kanm : K anm = 158) (hf0 : q_z f mo 2 = 0) (hf1 : q_z f mo 8 = 0) (hf2 : q_z f mo 9 = (-1)) (hf3 : q_z f mo 10 = 0) (hf4 : q_z f mo 11 = (-1)) (hf5 : q_z f mo 21 = 0) (hf6 : q_z f mo 22 = 0) (hf7 : q_z f mo 40 = 0) (hf8 : q_z f sr 0 = 0) (hf9 : q_z f sr 1 = 0) (hf10 : q_z f sr 2 = 12) (hf11 : q_z f sr 3 = 0) (hf12 : q_z f sr 4 = 0) (hf13 : q_z f sr 5 = 1) (hf14 : q_z f sr 6 = 2) (hf15 : q_z f sr 7 = 5) (hf16 : q_z f sr 8 = 3) (hf17 : q_z f sr 9 = 0) (hr0 : q_r f mo 1 = bu) (hr1 : q_r f mo 13 = sr) (hr2 : q_r f mo 14 = sd) (hr3 : q_r f mo 15 = as) (hr4 : q_r f mo 16 = aw) (hr5 : q_r f mo 17 = pa) (hr6 : q_r f mo 18 = nm) (hr7 : q_r f mo 19 = snm) (hr8 : q_r f mo 20 = anm) : q_Ct l g K L yX12_outIn cX12_outIn 4 (some .int) 2 46 [.ref mo, .int (q_i a0)] f [(12, 0, 40), (150, 0, 599), (151, 0, 657), (152, 0, 657), (153, 0, 657), (154, 0, 657), (155, 0, 3947), (156, 0, 9), (157, 0, 9), (158, 0, 9)] (q_Pi (fun (z : Int) (f1 : Nat → va_E) => z = 0 ∧ q_z f1 mo 0 = 1)) := by
  refine q_ofb (by decide +kernel) hN hT (Nat.le_of_ble_eq_true rfl) ?_
  intro p e s m below meth c ls cx hr hlk hB hl
  have hl : lv_has ls 4 [(0, .ref mo), (1, .int (q_i a0))] := hl
  obtain ⟨H, hH⟩ : ∃ H : Heap, H = s.heap := ⟨_, rfl⟩
  obtain ⟨locs, hlocs⟩ : ∃ z : List Loc, z = [] := ⟨_, rfl⟩
  rw [← hH, ← hlocs] at hB
  rw [← hH, ← hlocs]
  refine q_ald_n cx dX12_outIn_0 rfl (lv_at hl 0 rfl) ?_
  refine q_ald_n cx dX12_outIn_1 rfl (lv_at hl 0 rfl) ?_
  refine q_ild_n cx dX12_outIn_2 rfl (lv_at hl 1 rfl) ?_
  refine q_cVi (As := [.int (q_i a0)]) (rest := [.ref mo]) cx hB (fun _ h => h) hN hmo kmo (by decide) rfl (r_isNode0 l g hN hB.2.1 mo hmo kmo a0 (by omega) (by omega) sr hsr ksr hf8 hr1) q_cX12_355 q_dX12_isNode (by decide) rfl rfl hl.1 rfl (Nat.le_of_ble_eq_true rfl) dX12_outIn_3 (fun y37 H locs f36 ry37 h38 hF hB => ?_)
  obtain ⟨rfl, qy37⟩ := h38
  subst qy37
  refine q_cVi (As := [.int (q_i 0)]) (rest := []) cx hB (fun _ h => h) hN hmo kmo (by decide) rfl (r_goes0 l g hN hB.2.1 mo hmo kmo 0 (by decide) (by decide)) q_cX12_85 q_dX12_goes (by decide) rfl rfl hl.1 rfl (Nat.le_of_ble_eq_true rfl) dX12_outIn_6 (fun y40 H locs f39 ry40 h41 hF hB => ?_)
  obtain ⟨qy40, z42⟩ := h41
  have z43 : q_z f39 mo 2 = 0 := (hF.z hmo (by rw [kmo]; rfl)).trans hf0
  have z44 : q_z f39 mo 8 = 0 := (hF.z hmo (by rw [kmo]; rfl)).trans hf1
  have z45 : q_z f39 mo 9 = (-1) := (hF.z hmo (by rw [kmo]; rfl)).trans hf2
  have z46 : q_z f39 mo 10 = 0 := (hF.z hmo (by rw [kmo]; rfl)).trans hf3
  have z47 : q_z f39 mo 11 = (-1) := (hF.z hmo (by rw [kmo]; rfl)).trans hf4
  have z48 : q_z f39 mo 21 = 0 := (hF.z hmo (by rw [kmo]; rfl)).trans hf5
  have z49 : q_z f39 mo 22 = 0 := (hF.z hmo (by rw [kmo]; rfl)).trans hf6
  have z50 : q_z f39 mo 40 = 0 := (hF.z hmo (by rw [kmo]; rfl)).trans hf7
  have z51 : q_z f39 sr 0 = 0 := (hF.z hsr (by rw [ksr]; rfl)).trans hf8
  have z52 : q_z f39 sr 1 = 0 := (hF.z hsr (by rw [ksr]; rfl)).trans hf9
  have z53 : q_z f39 sr 2 = 12 := (hF.z hsr (by rw [ksr]; rfl)).trans hf10
  have z54 : q_z f39 sr 3 = 0 := (hF.z hsr (by rw [ksr]; rfl)).trans hf11
  have z55 : q_z f39 sr 4 = 0 := (hF.z hsr (by rw [ksr]; rfl)).trans hf12
  have z56 : q_z f39 sr 5 = 1 := (hF.z hsr (by rw [ksr]; rfl)).trans hf13
  have z57 : q_z f39 sr 6 = 2 := (hF.z hsr (by rw [ksr]; rfl)).trans hf14
  have z58 : q_z f39 sr 7 = 5 := (hF.z hsr (by rw [ksr]; rfl)).trans hf15
  have z59 : q_z f39 sr 8 = 3 := (hF.z hsr (by rw [ksr]; rfl)).trans hf16
  have z60 : q_z f39 sr 9 = 0 := (hF.z hsr (by rw [ksr]; rfl)).trans hf17
  have z61 : q_r f39 mo 1 = bu := (hF.r hmo (by rw [kmo]; rfl)).trans hr0
  have z62 : q_r f39 mo 13 = sr := (hF.r hmo (by rw [kmo]; rfl)).trans hr1
  have z63 : q_r f39 mo 14 = sd := (hF.r hmo (by rw [kmo]; rfl)).trans hr2
  have z64 : q_r f39 mo 15 = as := (hF.r hmo (by rw [kmo]; rfl)).trans hr3
  have z65 : q_r f39 mo 16 = aw := (hF.r hmo (by rw [kmo]; rfl)).trans hr4
  have z66 : q_r f39 mo 17 = pa := (hF.r hmo (by rw [kmo]; rfl)).trans hr5
  have z67 : q_r f39 mo 18 = nm := (hF.r hmo (by rw [kmo]; rfl)).trans hr6
  have z68 : q_r f39 mo 19 = snm := (hF.r hmo (by rw [kmo]; rfl)).trans hr7
  have z69 : q_r f39 mo 20 = anm := (hF.r hmo (by rw [kmo]; rfl)).trans hr8
  subst qy40
  refine q_ifne (tgt := 14) cx ⟨by decide, by decide⟩ dX12_outIn_9 (by decide) (fun c70 => ?_) (fun c70 => ?_)
  · exact absurd c70 (by omega)
  · refine q_iconst cx dX12_outIn_12 ?_
    refine q_iret cx hr hlk hB dX12_outIn_13 ⟨by decide, by decide⟩ ?_
    exact ⟨rfl, z42⟩
set_option maxHeartbeats 4000000 in
set_option maxRecDepth 100000 in
theorem p_energyIn (l : Launch) (g : q_G) {K : Nat → Nat} {L : List Nat} (hN : L.Nodup) {f : Nat → va_E} (hT : q_Ty g K L f) (mo : Nat) (hmo : mo ∈ L) (kmo : K mo = 12) (a0 : Int) (la0 : (-2147483648) ≤ a0) (ua0 : a0 ≤ 2147483647) (b0 : Int) (lb0 : (-2147483648) ≤ b0) (ub0 : b0 ≤ 2147483647) (bu : Nat) (hbu : bu ∈ L) (kbu : K bu = 150) (sr : Nat) (hsr : sr ∈ L) (ksr : K sr = 151) (sd : Nat) (hsd : sd ∈ L) (ksd : K sd = 152) (as : Nat) (has : as ∈ L) (kas : K as = 153) (aw : Nat) (haw : aw ∈ L) (kaw : K aw = 154) (pa : Nat) (hpa : pa ∈ L) (kpa : K pa = 155) (nm : Nat) (hnm : nm ∈ L) (knm : K nm = 156) (snm : Nat) (hsnm : snm ∈ L) (ksnm : K snm = 157) (anm : Nat) (hanm : anm ∈ L) (kanm : K anm = 158) (hf0 : q_z f mo 2 = 0) (hf1 : q_z f mo 8 = 0) (hf2 : q_z f mo 9 = (-1)) (hf3 : q_z f mo 10 = 0) (hf4 : q_z f mo 11 = (-1)) (hf5 : q_z f mo 21 = 0) (hf6 : q_z f mo 22 = 0) (hf7 : q_z f mo 40 = 0) (hf8 : q_z f sr 0 = 0) (hf9 : q_z f sr 1 = 0) (hf10 : q_z f sr 2 = 12) (hf11 : q_z f sr 3 = 0) (hf12 : q_z f sr 4 = 0) (hf13 : q_z f sr 5 = 1) (hf14 : q_z f sr 6 = 2) (hf15 : q_z f sr 7 = 5) (hf16 : q_z f sr 8 = 3) (hf17 : q_z f sr 9 = 0) (hr0 : q_r f mo 1 = bu) (hr1 : q_r f mo 13 = sr) (hr2 : q_r f mo 14 = sd) (hr3 : q_r f mo 15 = as) (hr4 : q_r f mo 16 = aw) (hr5 : q_r f mo 17 = pa) (hr6 : q_r f mo 18 = nm) (hr7 : q_r f mo 19 = snm) (hr8 : q_r f mo 20 = anm) : q_Ct l g K L yX12_energyIn cX12_energyIn 4 (some .int) 2 46 [.ref mo, .int (q_i a0), .int (q_i b0)] f [(12, 0, 40), (150, 0, 599), (151, 0, 657), (152, 0, 657), (153, 0, 657), (154, 0, 657), (155, 0, 3947), (156, 0, 9), (157, 0, 9), (158, 0, 9)] (q_Pi (fun (z : Int) (f1 : Nat → va_E) => z = 0 ∧ q_z f1 mo 0 = 1)) := by
  refine q_ofb (by decide +kernel) hN hT (Nat.le_of_ble_eq_true rfl) ?_
  intro p e s m below meth c ls cx hr hlk hB hl
  have hl : lv_has ls 4 [(0, .ref mo), (1, .int (q_i a0)), (2, .int (q_i b0))] := hl
  obtain ⟨H, hH⟩ : ∃ H : Heap, H = s.heap := ⟨_, rfl⟩
  obtain ⟨locs, hlocs⟩ : ∃ z : List Loc, z = [] := ⟨_, rfl⟩
  rw [← hH, ← hlocs] at hB
  rw [← hH, ← hlocs]
  refine q_ald_n cx dX12_energyIn_0 rfl (lv_at hl 0 rfl) ?_
  refine q_ald_n cx dX12_energyIn_1 rfl (lv_at hl 0 rfl) ?_
  refine q_ild_n cx dX12_energyIn_2 rfl (lv_at hl 1 rfl) ?_
  refine q_cVi (As := [.int (q_i a0)]) (rest := [.ref mo]) cx hB (fun _ h => h) hN hmo kmo (by decide) rfl (r_isNode0 l g hN hB.2.1 mo hmo kmo a0 (by omega) (by omega) sr hsr ksr hf8 hr1) q_cX12_355 q_dX12_isNode (by decide) rfl rfl hl.1 rfl (Nat.le_of_ble_eq_true rfl) dX12_energyIn_3 (fun y115 H locs f114 ry115 h116 hF hB => ?_)
  obtain ⟨rfl, qy115⟩ := h116
  subst qy115
  refine q_ild_n cx dX12_energyIn_6 rfl (lv_at hl 2 rfl) ?_
  refine q_i2l cx ⟨by omega, by omega⟩ dX12_energyIn_7 ?_
  refine q_lconst (z := 0) cx (by decide) dX12_energyIn_8 ?_
  refine lv_ldc2 (v := q_l 200) cx.1 cx.2.1 cx.2.2.2.1 (cx.2.2.2.2 _ q_h2119) dX12_energyIn_9 ?_
  by_cases c117 : b0 ≤ (-1)
  · refine q_cSi (As := [.long (q_l b0), .long (q_l 0), .long (q_l 200)]) (rest := [.int (q_i 0), .ref mo]) cx hB (fun _ h => h) hN (r_isIn l g hN hB.2.1 b0 (by omega) (by omega) 0 (by decide) (by decide) 200 (by decide) (by decide)) q_cX12_93 q_dX12_isIn (by decide) rfl rfl hl.1 rfl (Nat.le_of_ble_eq_true rfl) dX12_energyIn_12 (fun y119 H locs f118 ry119 h120 hF hB => ?_)
    obtain ⟨rfl, ly119, uy119, t121⟩ := h120
    obtain rfl : y119 = 0 := by omega
    refine q_cVi (As := [.int (q_i 0), .int (q_i 0)]) (rest := []) cx hB (fun _ h => h) hN hmo kmo (by decide) rfl (r_goesBoth0 l g hN hB.2.1 mo hmo kmo 0 (by decide) (by decide) 0 (by decide) (by decide)) q_cX12_358 q_dX12_goesBoth (by decide) rfl rfl hl.1 rfl (Nat.le_of_ble_eq_true rfl) dX12_energyIn_15 (fun y123 H locs f122 ry123 h124 hF hB => ?_)
    obtain ⟨qy123, z125⟩ := h124
    have z126 : q_z f122 mo 2 = 0 := (hF.z hmo (by rw [kmo]; rfl)).trans hf0
    have z127 : q_z f122 mo 8 = 0 := (hF.z hmo (by rw [kmo]; rfl)).trans hf1
    have z128 : q_z f122 mo 9 = (-1) := (hF.z hmo (by rw [kmo]; rfl)).trans hf2
    have z129 : q_z f122 mo 10 = 0 := (hF.z hmo (by rw [kmo]; rfl)).trans hf3
    have z130 : q_z f122 mo 11 = (-1) := (hF.z hmo (by rw [kmo]; rfl)).trans hf4
    have z131 : q_z f122 mo 21 = 0 := (hF.z hmo (by rw [kmo]; rfl)).trans hf5
    have z132 : q_z f122 mo 22 = 0 := (hF.z hmo (by rw [kmo]; rfl)).trans hf6
    have z133 : q_z f122 mo 40 = 0 := (hF.z hmo (by rw [kmo]; rfl)).trans hf7
    have z134 : q_z f122 sr 0 = 0 := (hF.z hsr (by rw [ksr]; rfl)).trans hf8
    have z135 : q_z f122 sr 1 = 0 := (hF.z hsr (by rw [ksr]; rfl)).trans hf9
    have z136 : q_z f122 sr 2 = 12 := (hF.z hsr (by rw [ksr]; rfl)).trans hf10
    have z137 : q_z f122 sr 3 = 0 := (hF.z hsr (by rw [ksr]; rfl)).trans hf11
    have z138 : q_z f122 sr 4 = 0 := (hF.z hsr (by rw [ksr]; rfl)).trans hf12
    have z139 : q_z f122 sr 5 = 1 := (hF.z hsr (by rw [ksr]; rfl)).trans hf13
    have z140 : q_z f122 sr 6 = 2 := (hF.z hsr (by rw [ksr]; rfl)).trans hf14
    have z141 : q_z f122 sr 7 = 5 := (hF.z hsr (by rw [ksr]; rfl)).trans hf15
    have z142 : q_z f122 sr 8 = 3 := (hF.z hsr (by rw [ksr]; rfl)).trans hf16
    have z143 : q_z f122 sr 9 = 0 := (hF.z hsr (by rw [ksr]; rfl)).trans hf17
    have z144 : q_r f122 mo 1 = bu := (hF.r hmo (by rw [kmo]; rfl)).trans hr0
    have z145 : q_r f122 mo 13 = sr := (hF.r hmo (by rw [kmo]; rfl)).trans hr1
    have z146 : q_r f122 mo 14 = sd := (hF.r hmo (by rw [kmo]; rfl)).trans hr2
    have z147 : q_r f122 mo 15 = as := (hF.r hmo (by rw [kmo]; rfl)).trans hr3
    have z148 : q_r f122 mo 16 = aw := (hF.r hmo (by rw [kmo]; rfl)).trans hr4
    have z149 : q_r f122 mo 17 = pa := (hF.r hmo (by rw [kmo]; rfl)).trans hr5
    have z150 : q_r f122 mo 18 = nm := (hF.r hmo (by rw [kmo]; rfl)).trans hr6
    have z151 : q_r f122 mo 19 = snm := (hF.r hmo (by rw [kmo]; rfl)).trans hr7
    have z152 : q_r f122 mo 20 = anm := (hF.r hmo (by rw [kmo]; rfl)).trans hr8
    subst qy123
    refine q_ifne (tgt := 23) cx ⟨by decide, by decide⟩ dX12_energyIn_18 (by decide) (fun c153 => ?_) (fun c153 => ?_)
    · exact absurd c153 (by omega)
    · refine q_iconst cx dX12_energyIn_21 ?_
      refine q_iret cx hr hlk hB dX12_energyIn_22 ⟨by decide, by decide⟩ ?_
      exact ⟨rfl, z125⟩
  · by_cases c154 : b0 ≤ 200
    · refine q_cSi (As := [.long (q_l b0), .long (q_l 0), .long (q_l 200)]) (rest := [.int (q_i 0), .ref mo]) cx hB (fun _ h => h) hN (r_isIn l g hN hB.2.1 b0 (by omega) (by omega) 0 (by decide) (by decide) 200 (by decide) (by decide)) q_cX12_93 q_dX12_isIn (by decide) rfl rfl hl.1 rfl (Nat.le_of_ble_eq_true rfl) dX12_energyIn_12 (fun y156 H locs f155 ry156 h157 hF hB => ?_)
      obtain ⟨rfl, ly156, uy156, t158⟩ := h157
      obtain rfl : y156 = 1 := by omega
      refine q_cVi (As := [.int (q_i 0), .int (q_i 1)]) (rest := []) cx hB (fun _ h => h) hN hmo kmo (by decide) rfl (r_goesBoth0 l g hN hB.2.1 mo hmo kmo 0 (by decide) (by decide) 1 (by decide) (by decide)) q_cX12_358 q_dX12_goesBoth (by decide) rfl rfl hl.1 rfl (Nat.le_of_ble_eq_true rfl) dX12_energyIn_15 (fun y160 H locs f159 ry160 h161 hF hB => ?_)
      obtain ⟨qy160, z162⟩ := h161
      have z163 : q_z f159 mo 2 = 0 := (hF.z hmo (by rw [kmo]; rfl)).trans hf0
      have z164 : q_z f159 mo 8 = 0 := (hF.z hmo (by rw [kmo]; rfl)).trans hf1
      have z165 : q_z f159 mo 9 = (-1) := (hF.z hmo (by rw [kmo]; rfl)).trans hf2
      have z166 : q_z f159 mo 10 = 0 := (hF.z hmo (by rw [kmo]; rfl)).trans hf3
      have z167 : q_z f159 mo 11 = (-1) := (hF.z hmo (by rw [kmo]; rfl)).trans hf4
      have z168 : q_z f159 mo 21 = 0 := (hF.z hmo (by rw [kmo]; rfl)).trans hf5
      have z169 : q_z f159 mo 22 = 0 := (hF.z hmo (by rw [kmo]; rfl)).trans hf6
      have z170 : q_z f159 mo 40 = 0 := (hF.z hmo (by rw [kmo]; rfl)).trans hf7
      have z171 : q_z f159 sr 0 = 0 := (hF.z hsr (by rw [ksr]; rfl)).trans hf8
      have z172 : q_z f159 sr 1 = 0 := (hF.z hsr (by rw [ksr]; rfl)).trans hf9
      have z173 : q_z f159 sr 2 = 12 := (hF.z hsr (by rw [ksr]; rfl)).trans hf10
      have z174 : q_z f159 sr 3 = 0 := (hF.z hsr (by rw [ksr]; rfl)).trans hf11
      have z175 : q_z f159 sr 4 = 0 := (hF.z hsr (by rw [ksr]; rfl)).trans hf12
      have z176 : q_z f159 sr 5 = 1 := (hF.z hsr (by rw [ksr]; rfl)).trans hf13
      have z177 : q_z f159 sr 6 = 2 := (hF.z hsr (by rw [ksr]; rfl)).trans hf14
      have z178 : q_z f159 sr 7 = 5 := (hF.z hsr (by rw [ksr]; rfl)).trans hf15
      have z179 : q_z f159 sr 8 = 3 := (hF.z hsr (by rw [ksr]; rfl)).trans hf16
      have z180 : q_z f159 sr 9 = 0 := (hF.z hsr (by rw [ksr]; rfl)).trans hf17
      have z181 : q_r f159 mo 1 = bu := (hF.r hmo (by rw [kmo]; rfl)).trans hr0
      have z182 : q_r f159 mo 13 = sr := (hF.r hmo (by rw [kmo]; rfl)).trans hr1
      have z183 : q_r f159 mo 14 = sd := (hF.r hmo (by rw [kmo]; rfl)).trans hr2
      have z184 : q_r f159 mo 15 = as := (hF.r hmo (by rw [kmo]; rfl)).trans hr3
      have z185 : q_r f159 mo 16 = aw := (hF.r hmo (by rw [kmo]; rfl)).trans hr4
      have z186 : q_r f159 mo 17 = pa := (hF.r hmo (by rw [kmo]; rfl)).trans hr5
      have z187 : q_r f159 mo 18 = nm := (hF.r hmo (by rw [kmo]; rfl)).trans hr6
      have z188 : q_r f159 mo 19 = snm := (hF.r hmo (by rw [kmo]; rfl)).trans hr7
      have z189 : q_r f159 mo 20 = anm := (hF.r hmo (by rw [kmo]; rfl)).trans hr8
      subst qy160
      refine q_ifne (tgt := 23) cx ⟨by decide, by decide⟩ dX12_energyIn_18 (by decide) (fun c190 => ?_) (fun c190 => ?_)
      · exact absurd c190 (by omega)
      · refine q_iconst cx dX12_energyIn_21 ?_
        refine q_iret cx hr hlk hB dX12_energyIn_22 ⟨by decide, by decide⟩ ?_
        exact ⟨rfl, z162⟩
    · refine q_cSi (As := [.long (q_l b0), .long (q_l 0), .long (q_l 200)]) (rest := [.int (q_i 0), .ref mo]) cx hB (fun _ h => h) hN (r_isIn l g hN hB.2.1 b0 (by omega) (by omega) 0 (by decide) (by decide) 200 (by decide) (by decide)) q_cX12_93 q_dX12_isIn (by decide) rfl rfl hl.1 rfl (Nat.le_of_ble_eq_true rfl) dX12_energyIn_12 (fun y192 H locs f191 ry192 h193 hF hB => ?_)
      obtain ⟨rfl, ly192, uy192, t194⟩ := h193
      obtain rfl : y192 = 0 := by omega
      refine q_cVi (As := [.int (q_i 0), .int (q_i 0)]) (rest := []) cx hB (fun _ h => h) hN hmo kmo (by decide) rfl (r_goesBoth0 l g hN hB.2.1 mo hmo kmo 0 (by decide) (by decide) 0 (by decide) (by decide)) q_cX12_358 q_dX12_goesBoth (by decide) rfl rfl hl.1 rfl (Nat.le_of_ble_eq_true rfl) dX12_energyIn_15 (fun y196 H locs f195 ry196 h197 hF hB => ?_)
      obtain ⟨qy196, z198⟩ := h197
      have z199 : q_z f195 mo 2 = 0 := (hF.z hmo (by rw [kmo]; rfl)).trans hf0
      have z200 : q_z f195 mo 8 = 0 := (hF.z hmo (by rw [kmo]; rfl)).trans hf1
      have z201 : q_z f195 mo 9 = (-1) := (hF.z hmo (by rw [kmo]; rfl)).trans hf2
      have z202 : q_z f195 mo 10 = 0 := (hF.z hmo (by rw [kmo]; rfl)).trans hf3
      have z203 : q_z f195 mo 11 = (-1) := (hF.z hmo (by rw [kmo]; rfl)).trans hf4
      have z204 : q_z f195 mo 21 = 0 := (hF.z hmo (by rw [kmo]; rfl)).trans hf5
      have z205 : q_z f195 mo 22 = 0 := (hF.z hmo (by rw [kmo]; rfl)).trans hf6
      have z206 : q_z f195 mo 40 = 0 := (hF.z hmo (by rw [kmo]; rfl)).trans hf7
      have z207 : q_z f195 sr 0 = 0 := (hF.z hsr (by rw [ksr]; rfl)).trans hf8
      have z208 : q_z f195 sr 1 = 0 := (hF.z hsr (by rw [ksr]; rfl)).trans hf9
      have z209 : q_z f195 sr 2 = 12 := (hF.z hsr (by rw [ksr]; rfl)).trans hf10
      have z210 : q_z f195 sr 3 = 0 := (hF.z hsr (by rw [ksr]; rfl)).trans hf11
      have z211 : q_z f195 sr 4 = 0 := (hF.z hsr (by rw [ksr]; rfl)).trans hf12
      have z212 : q_z f195 sr 5 = 1 := (hF.z hsr (by rw [ksr]; rfl)).trans hf13
      have z213 : q_z f195 sr 6 = 2 := (hF.z hsr (by rw [ksr]; rfl)).trans hf14
      have z214 : q_z f195 sr 7 = 5 := (hF.z hsr (by rw [ksr]; rfl)).trans hf15
      have z215 : q_z f195 sr 8 = 3 := (hF.z hsr (by rw [ksr]; rfl)).trans hf16
      have z216 : q_z f195 sr 9 = 0 := (hF.z hsr (by rw [ksr]; rfl)).trans hf17
      have z217 : q_r f195 mo 1 = bu := (hF.r hmo (by rw [kmo]; rfl)).trans hr0
      have z218 : q_r f195 mo 13 = sr := (hF.r hmo (by rw [kmo]; rfl)).trans hr1
      have z219 : q_r f195 mo 14 = sd := (hF.r hmo (by rw [kmo]; rfl)).trans hr2
      have z220 : q_r f195 mo 15 = as := (hF.r hmo (by rw [kmo]; rfl)).trans hr3
      have z221 : q_r f195 mo 16 = aw := (hF.r hmo (by rw [kmo]; rfl)).trans hr4
      have z222 : q_r f195 mo 17 = pa := (hF.r hmo (by rw [kmo]; rfl)).trans hr5
      have z223 : q_r f195 mo 18 = nm := (hF.r hmo (by rw [kmo]; rfl)).trans hr6
      have z224 : q_r f195 mo 19 = snm := (hF.r hmo (by rw [kmo]; rfl)).trans hr7
      have z225 : q_r f195 mo 20 = anm := (hF.r hmo (by rw [kmo]; rfl)).trans hr8
      subst qy196
      refine q_ifne (tgt := 23) cx ⟨by decide, by decide⟩ dX12_energyIn_18 (by decide) (fun c226 => ?_) (fun c226 => ?_)
      · exact absurd c226 (by omega)
      · refine q_iconst cx dX12_energyIn_21 ?_
        refine q_iret cx hr hlk hB dX12_energyIn_22 ⟨by decide, by decide⟩ ?_
        exact ⟨rfl, z198⟩
set_option maxHeartbeats 4000000 in
set_option maxRecDepth 100000 in
theorem p_bestShift (l : Launch) (g : q_G) {K : Nat → Nat} {L : List Nat} (hN : L.Nodup) {f : Nat → va_E} (hT : q_Ty g K L f) (mo : Nat) (hmo : mo ∈ L) (kmo : K mo = 12) (a0 : Int) (la0 : (-2147483648) ≤ a0) (ua0 : a0 ≤ 2147483647) (bu : Nat) (hbu : bu ∈ L) (kbu : K bu = 150) (sr : Nat) (hsr : sr ∈ L) (ksr : K sr = 151) (sd : Nat) (hsd : sd ∈ L) (ksd : K sd = 152) (as : Nat) (has : as ∈ L) (kas : K as = 153) (aw : Nat) (haw : aw ∈ L) (kaw : K aw = 154) (pa : Nat) (hpa : pa ∈ L) (kpa : K pa = 155) (nm : Nat) (hnm : nm ∈ L) (knm : K nm = 156) (snm : Nat) (hsnm : snm ∈ L) (ksnm : K snm = 157) (anm : Nat) (hanm : anm ∈ L) (kanm : K anm = 158) (hf0 : q_z f mo 2 = 0) (hf1 : q_z f mo 8 = 0) (hf2 : q_z f mo 9 = (-1)) (hf3 : q_z f mo 10 = 0) (hf4 : q_z f mo 11 = (-1)) (hf5 : q_z f mo 21 = 0) (hf6 : q_z f mo 22 = 0) (hf7 : q_z f mo 40 = 0) (hf8 : q_z f sr 0 = 0) (hf9 : q_z f sr 1 = 0) (hf10 : q_z f sr 2 = 12) (hf11 : q_z f sr 3 = 0) (hf12 : q_z f sr 4 = 0) (hf13 : q_z f sr 5 = 1) (hf14 : q_z f sr 6 = 2) (hf15 : q_z f sr 7 = 5) (hf16 : q_z f sr 8 = 3) (hf17 : q_z f sr 9 = 0) (hr0 : q_r f mo 1 = bu) (hr1 : q_r f mo 13 = sr) (hr2 : q_r f mo 14 = sd) (hr3 : q_r f mo 15 = as) (hr4 : q_r f mo 16 = aw) (hr5 : q_r f mo 17 = pa) (hr6 : q_r f mo 18 = nm) (hr7 : q_r f mo 19 = snm) (hr8 : q_r f mo 20 = anm) : q_Ct l g K L yX12_bestShift cX12_bestShift 6 (some .int) 2 46 [.ref mo, .int (q_i a0)] f [(12, 0, 40), (150, 0, 599), (151, 0, 657), (152, 0, 657), (153, 0, 657), (154, 0, 657), (155, 0, 3947), (156, 0, 9), (157, 0, 9), (158, 0, 9)] (q_Pi (fun (z : Int) (f1 : Nat → va_E) => z = 0 ∧ q_z f1 mo 0 = 1)) := by
  refine q_ofb (by decide +kernel) hN hT (Nat.le_of_ble_eq_true rfl) ?_
  intro p e s m below meth c ls cx hr hlk hB hl
  have hl : lv_has ls 6 [(0, .ref mo), (1, .int (q_i a0))] := hl
  obtain ⟨H, hH⟩ : ∃ H : Heap, H = s.heap := ⟨_, rfl⟩
  obtain ⟨locs, hlocs⟩ : ∃ z : List Loc, z = [] := ⟨_, rfl⟩
  rw [← hH, ← hlocs] at hB
  rw [← hH, ← hlocs]
  refine q_ald_n cx dX12_bestShift_0 rfl (lv_at hl 0 rfl) ?_
  refine q_ald_n cx dX12_bestShift_1 rfl (lv_at hl 0 rfl) ?_
  refine q_ild_n cx dX12_bestShift_2 rfl (lv_at hl 1 rfl) ?_
  refine q_cVi (As := [.int (q_i a0)]) (rest := [.ref mo]) cx hB (fun _ h => h) hN hmo kmo (by decide) rfl (r_isNode0 l g hN hB.2.1 mo hmo kmo a0 (by omega) (by omega) sr hsr ksr hf8 hr1) q_cX12_355 q_dX12_isNode (by decide) rfl rfl hl.1 rfl (Nat.le_of_ble_eq_true rfl) dX12_bestShift_3 (fun y37 H locs f36 ry37 h38 hF hB => ?_)
  obtain ⟨rfl, qy37⟩ := h38
  subst qy37
  refine q_cVi (As := [.int (q_i 0)]) (rest := []) cx hB (fun _ h => h) hN hmo kmo (by decide) rfl (r_goes0 l g hN hB.2.1 mo hmo kmo 0 (by decide) (by decide)) q_cX12_85 q_dX12_goes (by decide) rfl rfl hl.1 rfl (Nat.le_of_ble_eq_true rfl) dX12_bestShift_6 (fun y40 H locs f39 ry40 h41 hF hB => ?_)
  obtain ⟨qy40, z42⟩ := h41
  have z43 : q_z f39 mo 2 = 0 := (hF.z hmo (by rw [kmo]; rfl)).trans hf0
  have z44 : q_z f39 mo 8 = 0 := (hF.z hmo (by rw [kmo]; rfl)).trans hf1
  have z45 : q_z f39 mo 9 = (-1) := (hF.z hmo (by rw [kmo]; rfl)).trans hf2
  have z46 : q_z f39 mo 10 = 0 := (hF.z hmo (by rw [kmo]; rfl)).trans hf3
  have z47 : q_z f39 mo 11 = (-1) := (hF.z hmo (by rw [kmo]; rfl)).trans hf4
  have z48 : q_z f39 mo 21 = 0 := (hF.z hmo (by rw [kmo]; rfl)).trans hf5
  have z49 : q_z f39 mo 22 = 0 := (hF.z hmo (by rw [kmo]; rfl)).trans hf6
  have z50 : q_z f39 mo 40 = 0 := (hF.z hmo (by rw [kmo]; rfl)).trans hf7
  have z51 : q_z f39 sr 0 = 0 := (hF.z hsr (by rw [ksr]; rfl)).trans hf8
  have z52 : q_z f39 sr 1 = 0 := (hF.z hsr (by rw [ksr]; rfl)).trans hf9
  have z53 : q_z f39 sr 2 = 12 := (hF.z hsr (by rw [ksr]; rfl)).trans hf10
  have z54 : q_z f39 sr 3 = 0 := (hF.z hsr (by rw [ksr]; rfl)).trans hf11
  have z55 : q_z f39 sr 4 = 0 := (hF.z hsr (by rw [ksr]; rfl)).trans hf12
  have z56 : q_z f39 sr 5 = 1 := (hF.z hsr (by rw [ksr]; rfl)).trans hf13
  have z57 : q_z f39 sr 6 = 2 := (hF.z hsr (by rw [ksr]; rfl)).trans hf14
  have z58 : q_z f39 sr 7 = 5 := (hF.z hsr (by rw [ksr]; rfl)).trans hf15
  have z59 : q_z f39 sr 8 = 3 := (hF.z hsr (by rw [ksr]; rfl)).trans hf16
  have z60 : q_z f39 sr 9 = 0 := (hF.z hsr (by rw [ksr]; rfl)).trans hf17
  have z61 : q_r f39 mo 1 = bu := (hF.r hmo (by rw [kmo]; rfl)).trans hr0
  have z62 : q_r f39 mo 13 = sr := (hF.r hmo (by rw [kmo]; rfl)).trans hr1
  have z63 : q_r f39 mo 14 = sd := (hF.r hmo (by rw [kmo]; rfl)).trans hr2
  have z64 : q_r f39 mo 15 = as := (hF.r hmo (by rw [kmo]; rfl)).trans hr3
  have z65 : q_r f39 mo 16 = aw := (hF.r hmo (by rw [kmo]; rfl)).trans hr4
  have z66 : q_r f39 mo 17 = pa := (hF.r hmo (by rw [kmo]; rfl)).trans hr5
  have z67 : q_r f39 mo 18 = nm := (hF.r hmo (by rw [kmo]; rfl)).trans hr6
  have z68 : q_r f39 mo 19 = snm := (hF.r hmo (by rw [kmo]; rfl)).trans hr7
  have z69 : q_r f39 mo 20 = anm := (hF.r hmo (by rw [kmo]; rfl)).trans hr8
  subst qy40
  refine q_ifne (tgt := 14) cx ⟨by decide, by decide⟩ dX12_bestShift_9 (by decide) (fun c70 => ?_) (fun c70 => ?_)
  · exact absurd c70 (by omega)
  · refine q_iconst cx dX12_bestShift_12 ?_
    refine q_iret cx hr hlk hB dX12_bestShift_13 ⟨by decide, by decide⟩ ?_
    exact ⟨rfl, z42⟩
set_option maxHeartbeats 4000000 in
set_option maxRecDepth 100000 in
theorem p_bestWatch (l : Launch) (g : q_G) {K : Nat → Nat} {L : List Nat} (hN : L.Nodup) {f : Nat → va_E} (hT : q_Ty g K L f) (mo : Nat) (hmo : mo ∈ L) (kmo : K mo = 12) (a0 : Int) (la0 : (-2147483648) ≤ a0) (ua0 : a0 ≤ 2147483647) (b0 : Int) (lb0 : (-2147483648) ≤ b0) (ub0 : b0 ≤ 2147483647) (bu : Nat) (hbu : bu ∈ L) (kbu : K bu = 150) (sr : Nat) (hsr : sr ∈ L) (ksr : K sr = 151) (sd : Nat) (hsd : sd ∈ L) (ksd : K sd = 152) (as : Nat) (has : as ∈ L) (kas : K as = 153) (aw : Nat) (haw : aw ∈ L) (kaw : K aw = 154) (pa : Nat) (hpa : pa ∈ L) (kpa : K pa = 155) (nm : Nat) (hnm : nm ∈ L) (knm : K nm = 156) (snm : Nat) (hsnm : snm ∈ L) (ksnm : K snm = 157) (anm : Nat) (hanm : anm ∈ L) (kanm : K anm = 158) (hf0 : q_z f mo 2 = 0) (hf1 : q_z f mo 8 = 0) (hf2 : q_z f mo 9 = (-1)) (hf3 : q_z f mo 10 = 0) (hf4 : q_z f mo 11 = (-1)) (hf5 : q_z f mo 21 = 0) (hf6 : q_z f mo 22 = 0) (hf7 : q_z f mo 40 = 0) (hf8 : q_z f sr 0 = 0) (hf9 : q_z f sr 1 = 0) (hf10 : q_z f sr 2 = 12) (hf11 : q_z f sr 3 = 0) (hf12 : q_z f sr 4 = 0) (hf13 : q_z f sr 5 = 1) (hf14 : q_z f sr 6 = 2) (hf15 : q_z f sr 7 = 5) (hf16 : q_z f sr 8 = 3) (hf17 : q_z f sr 9 = 0) (hr0 : q_r f mo 1 = bu) (hr1 : q_r f mo 13 = sr) (hr2 : q_r f mo 14 = sd) (hr3 : q_r f mo 15 = as) (hr4 : q_r f mo 16 = aw) (hr5 : q_r f mo 17 = pa) (hr6 : q_r f mo 18 = nm) (hr7 : q_r f mo 19 = snm) (hr8 : q_r f mo 20 = anm) : q_Ct l g K L yX12_bestWatch cX12_bestWatch 7 (some .int) 2 46 [.ref mo, .int (q_i a0), .int (q_i b0)] f [(12, 0, 40), (150, 0, 599), (151, 0, 657), (152, 0, 657), (153, 0, 657), (154, 0, 657), (155, 0, 3947), (156, 0, 9), (157, 0, 9), (158, 0, 9)] (q_Pi (fun (z : Int) (f1 : Nat → va_E) => z = 0 ∧ q_z f1 mo 0 = 1)) := by
  refine q_ofb (by decide +kernel) hN hT (Nat.le_of_ble_eq_true rfl) ?_
  intro p e s m below meth c ls cx hr hlk hB hl
  have hl : lv_has ls 7 [(0, .ref mo), (1, .int (q_i a0)), (2, .int (q_i b0))] := hl
  obtain ⟨H, hH⟩ : ∃ H : Heap, H = s.heap := ⟨_, rfl⟩
  obtain ⟨locs, hlocs⟩ : ∃ z : List Loc, z = [] := ⟨_, rfl⟩
  rw [← hH, ← hlocs] at hB
  rw [← hH, ← hlocs]
  refine q_ald_n cx dX12_bestWatch_0 rfl (lv_at hl 0 rfl) ?_
  refine q_ald_n cx dX12_bestWatch_1 rfl (lv_at hl 0 rfl) ?_
  refine q_ild_n cx dX12_bestWatch_2 rfl (lv_at hl 1 rfl) ?_
  refine q_cVi (As := [.int (q_i a0)]) (rest := [.ref mo]) cx hB (fun _ h => h) hN hmo kmo (by decide) rfl (r_isNode0 l g hN hB.2.1 mo hmo kmo a0 (by omega) (by omega) sr hsr ksr hf8 hr1) q_cX12_355 q_dX12_isNode (by decide) rfl rfl hl.1 rfl (Nat.le_of_ble_eq_true rfl) dX12_bestWatch_3 (fun y71 H locs f70 ry71 h72 hF hB => ?_)
  obtain ⟨rfl, qy71⟩ := h72
  subst qy71
  refine q_ifeq (tgt := 21) cx ⟨by decide, by decide⟩ dX12_bestWatch_6 (by decide) (fun c73 => ?_) (fun c73 => ?_)
  · refine q_iconst cx dX12_bestWatch_21 ?_
    refine q_ild_n cx dX12_bestWatch_22 rfl (lv_at hl 1 rfl) ?_
    refine q_ild_n cx dX12_bestWatch_23 rfl (lv_at hl 2 rfl) ?_
    refine q_iceq (tgt := 31) cx ⟨by omega, by omega⟩ ⟨by omega, by omega⟩ dX12_bestWatch_24 (by decide) (fun c74 => ?_) (fun c74 => ?_)
    · refine q_iconst cx dX12_bestWatch_31 ?_
      refine q_cVi (As := [.int (q_i 0), .int (q_i 0)]) (rest := []) cx hB (fun _ h => h) hN hmo kmo (by decide) rfl (r_goesBoth0 l g hN hB.2.1 mo hmo kmo 0 (by decide) (by decide) 0 (by decide) (by decide)) q_cX12_358 q_dX12_goesBoth (by decide) rfl rfl hl.1 rfl (Nat.le_of_ble_eq_true rfl) dX12_bestWatch_32 (fun y76 H locs f75 ry76 h77 hF hB => ?_)
      obtain ⟨qy76, z78⟩ := h77
      have z79 : q_z f75 mo 2 = 0 := (hF.z hmo (by rw [kmo]; rfl)).trans hf0
      have z80 : q_z f75 mo 8 = 0 := (hF.z hmo (by rw [kmo]; rfl)).trans hf1
      have z81 : q_z f75 mo 9 = (-1) := (hF.z hmo (by rw [kmo]; rfl)).trans hf2
      have z82 : q_z f75 mo 10 = 0 := (hF.z hmo (by rw [kmo]; rfl)).trans hf3
      have z83 : q_z f75 mo 11 = (-1) := (hF.z hmo (by rw [kmo]; rfl)).trans hf4
      have z84 : q_z f75 mo 21 = 0 := (hF.z hmo (by rw [kmo]; rfl)).trans hf5
      have z85 : q_z f75 mo 22 = 0 := (hF.z hmo (by rw [kmo]; rfl)).trans hf6
      have z86 : q_z f75 mo 40 = 0 := (hF.z hmo (by rw [kmo]; rfl)).trans hf7
      have z87 : q_z f75 sr 0 = 0 := (hF.z hsr (by rw [ksr]; rfl)).trans hf8
      have z88 : q_z f75 sr 1 = 0 := (hF.z hsr (by rw [ksr]; rfl)).trans hf9
      have z89 : q_z f75 sr 2 = 12 := (hF.z hsr (by rw [ksr]; rfl)).trans hf10
      have z90 : q_z f75 sr 3 = 0 := (hF.z hsr (by rw [ksr]; rfl)).trans hf11
      have z91 : q_z f75 sr 4 = 0 := (hF.z hsr (by rw [ksr]; rfl)).trans hf12
      have z92 : q_z f75 sr 5 = 1 := (hF.z hsr (by rw [ksr]; rfl)).trans hf13
      have z93 : q_z f75 sr 6 = 2 := (hF.z hsr (by rw [ksr]; rfl)).trans hf14
      have z94 : q_z f75 sr 7 = 5 := (hF.z hsr (by rw [ksr]; rfl)).trans hf15
      have z95 : q_z f75 sr 8 = 3 := (hF.z hsr (by rw [ksr]; rfl)).trans hf16
      have z96 : q_z f75 sr 9 = 0 := (hF.z hsr (by rw [ksr]; rfl)).trans hf17
      have z97 : q_r f75 mo 1 = bu := (hF.r hmo (by rw [kmo]; rfl)).trans hr0
      have z98 : q_r f75 mo 13 = sr := (hF.r hmo (by rw [kmo]; rfl)).trans hr1
      have z99 : q_r f75 mo 14 = sd := (hF.r hmo (by rw [kmo]; rfl)).trans hr2
      have z100 : q_r f75 mo 15 = as := (hF.r hmo (by rw [kmo]; rfl)).trans hr3
      have z101 : q_r f75 mo 16 = aw := (hF.r hmo (by rw [kmo]; rfl)).trans hr4
      have z102 : q_r f75 mo 17 = pa := (hF.r hmo (by rw [kmo]; rfl)).trans hr5
      have z103 : q_r f75 mo 18 = nm := (hF.r hmo (by rw [kmo]; rfl)).trans hr6
      have z104 : q_r f75 mo 19 = snm := (hF.r hmo (by rw [kmo]; rfl)).trans hr7
      have z105 : q_r f75 mo 20 = anm := (hF.r hmo (by rw [kmo]; rfl)).trans hr8
      subst qy76
      refine q_ifne (tgt := 40) cx ⟨by decide, by decide⟩ dX12_bestWatch_35 (by decide) (fun c106 => ?_) (fun c106 => ?_)
      · exact absurd c106 (by omega)
      · refine q_iconst cx dX12_bestWatch_38 ?_
        refine q_iret cx hr hlk hB dX12_bestWatch_39 ⟨by decide, by decide⟩ ?_
        exact ⟨rfl, z78⟩
    · refine q_iconst cx dX12_bestWatch_27 ?_
      refine lv_goto (tgt := 32) cx.1 cx.2.1 dX12_bestWatch_28 (by decide) ?_
      refine q_cVi (As := [.int (q_i 0), .int (q_i 1)]) (rest := []) cx hB (fun _ h => h) hN hmo kmo (by decide) rfl (r_goesBoth0 l g hN hB.2.1 mo hmo kmo 0 (by decide) (by decide) 1 (by decide) (by decide)) q_cX12_358 q_dX12_goesBoth (by decide) rfl rfl hl.1 rfl (Nat.le_of_ble_eq_true rfl) dX12_bestWatch_32 (fun y108 H locs f107 ry108 h109 hF hB => ?_)
      obtain ⟨qy108, z110⟩ := h109
      have z111 : q_z f107 mo 2 = 0 := (hF.z hmo (by rw [kmo]; rfl)).trans hf0
      have z112 : q_z f107 mo 8 = 0 := (hF.z hmo (by rw [kmo]; rfl)).trans hf1
      have z113 : q_z f107 mo 9 = (-1) := (hF.z hmo (by rw [kmo]; rfl)).trans hf2
      have z114 : q_z f107 mo 10 = 0 := (hF.z hmo (by rw [kmo]; rfl)).trans hf3
      have z115 : q_z f107 mo 11 = (-1) := (hF.z hmo (by rw [kmo]; rfl)).trans hf4
      have z116 : q_z f107 mo 21 = 0 := (hF.z hmo (by rw [kmo]; rfl)).trans hf5
      have z117 : q_z f107 mo 22 = 0 := (hF.z hmo (by rw [kmo]; rfl)).trans hf6
      have z118 : q_z f107 mo 40 = 0 := (hF.z hmo (by rw [kmo]; rfl)).trans hf7
      have z119 : q_z f107 sr 0 = 0 := (hF.z hsr (by rw [ksr]; rfl)).trans hf8
      have z120 : q_z f107 sr 1 = 0 := (hF.z hsr (by rw [ksr]; rfl)).trans hf9
      have z121 : q_z f107 sr 2 = 12 := (hF.z hsr (by rw [ksr]; rfl)).trans hf10
      have z122 : q_z f107 sr 3 = 0 := (hF.z hsr (by rw [ksr]; rfl)).trans hf11
      have z123 : q_z f107 sr 4 = 0 := (hF.z hsr (by rw [ksr]; rfl)).trans hf12
      have z124 : q_z f107 sr 5 = 1 := (hF.z hsr (by rw [ksr]; rfl)).trans hf13
      have z125 : q_z f107 sr 6 = 2 := (hF.z hsr (by rw [ksr]; rfl)).trans hf14
      have z126 : q_z f107 sr 7 = 5 := (hF.z hsr (by rw [ksr]; rfl)).trans hf15
      have z127 : q_z f107 sr 8 = 3 := (hF.z hsr (by rw [ksr]; rfl)).trans hf16
      have z128 : q_z f107 sr 9 = 0 := (hF.z hsr (by rw [ksr]; rfl)).trans hf17
      have z129 : q_r f107 mo 1 = bu := (hF.r hmo (by rw [kmo]; rfl)).trans hr0
      have z130 : q_r f107 mo 13 = sr := (hF.r hmo (by rw [kmo]; rfl)).trans hr1
      have z131 : q_r f107 mo 14 = sd := (hF.r hmo (by rw [kmo]; rfl)).trans hr2
      have z132 : q_r f107 mo 15 = as := (hF.r hmo (by rw [kmo]; rfl)).trans hr3
      have z133 : q_r f107 mo 16 = aw := (hF.r hmo (by rw [kmo]; rfl)).trans hr4
      have z134 : q_r f107 mo 17 = pa := (hF.r hmo (by rw [kmo]; rfl)).trans hr5
      have z135 : q_r f107 mo 18 = nm := (hF.r hmo (by rw [kmo]; rfl)).trans hr6
      have z136 : q_r f107 mo 19 = snm := (hF.r hmo (by rw [kmo]; rfl)).trans hr7
      have z137 : q_r f107 mo 20 = anm := (hF.r hmo (by rw [kmo]; rfl)).trans hr8
      subst qy108
      refine q_ifne (tgt := 40) cx ⟨by decide, by decide⟩ dX12_bestWatch_35 (by decide) (fun c138 => ?_) (fun c138 => ?_)
      · exact absurd c138 (by omega)
      · refine q_iconst cx dX12_bestWatch_38 ?_
        refine q_iret cx hr hlk hB dX12_bestWatch_39 ⟨by decide, by decide⟩ ?_
        exact ⟨rfl, z110⟩
  · exact absurd c73 (by omega)
set_option maxHeartbeats 4000000 in
set_option maxRecDepth 100000 in
theorem p_send (l : Launch) (g : q_G) {K : Nat → Nat} {L : List Nat} (hN : L.Nodup) {f : Nat → va_E} (hT : q_Ty g K L f) (mo : Nat) (hmo : mo ∈ L) (kmo : K mo = 12) (a0 : Int) (la0 : (-2147483648) ≤ a0) (ua0 : a0 ≤ 2147483647) (b0 : Int) (lb0 : (-2147483648) ≤ b0) (ub0 : b0 ≤ 2147483647) (c0 : Int) (lc0 : (-2147483648) ≤ c0) (uc0 : c0 ≤ 2147483647) (z0 : Int) (lz0 : 0 ≤ z0) (uz0 : z0 ≤ 1) (bu : Nat) (hbu : bu ∈ L) (kbu : K bu = 150) (sr : Nat) (hsr : sr ∈ L) (ksr : K sr = 151) (sd : Nat) (hsd : sd ∈ L) (ksd : K sd = 152) (as : Nat) (has : as ∈ L) (kas : K as = 153) (aw : Nat) (haw : aw ∈ L) (kaw : K aw = 154) (pa : Nat) (hpa : pa ∈ L) (kpa : K pa = 155) (nm : Nat) (hnm : nm ∈ L) (knm : K nm = 156) (snm : Nat) (hsnm : snm ∈ L) (ksnm : K snm = 157) (anm : Nat) (hanm : anm ∈ L) (kanm : K anm = 158) (hf0 : q_z f mo 2 = 0) (hf1 : q_z f mo 8 = 0) (hf2 : q_z f mo 9 = (-1)) (hf3 : q_z f mo 10 = 0) (hf4 : q_z f mo 11 = (-1)) (hf5 : q_z f mo 21 = 0) (hf6 : q_z f mo 22 = 0) (hf7 : q_z f mo 40 = 0) (hf8 : q_z f sr 0 = 0) (hf9 : q_z f sr 1 = 0) (hf10 : q_z f sr 2 = 12) (hf11 : q_z f sr 3 = 0) (hf12 : q_z f sr 4 = 0) (hf13 : q_z f sr 5 = 1) (hf14 : q_z f sr 6 = 2) (hf15 : q_z f sr 7 = 5) (hf16 : q_z f sr 8 = 3) (hf17 : q_z f sr 9 = 0) (hr0 : q_r f mo 1 = bu) (hr1 : q_r f mo 13 = sr) (hr2 : q_r f mo 14 = sd) (hr3 : q_r f mo 15 = as) (hr4 : q_r f mo 16 = aw) (hr5 : q_r f mo 17 = pa) (hr6 : q_r f mo 18 = nm) (hr7 : q_r f mo 19 = snm) (hr8 : q_r f mo 20 = anm) : q_Ct l g K L yX12_send cX12_send 6 (some .int) 2 46 [.ref mo, .int (q_i a0), .int (q_i b0), .int (q_i c0), .int (q_i z0)] f [(12, 0, 40), (150, 0, 599), (151, 0, 657), (152, 0, 657), (153, 0, 657), (154, 0, 657), (155, 0, 3947), (156, 0, 9), (157, 0, 9), (158, 0, 9)] (q_Pi (fun (z : Int) (f1 : Nat → va_E) => z = 0 ∧ q_z f1 mo 0 = 1)) := by
  refine q_ofb (by decide +kernel) hN hT (Nat.le_of_ble_eq_true rfl) ?_
  intro p e s m below meth c ls cx hr hlk hB hl
  have hl : lv_has ls 6 [(0, .ref mo), (1, .int (q_i a0)), (2, .int (q_i b0)), (3, .int (q_i c0)), (4, .int (q_i z0))] := hl
  obtain ⟨H, hH⟩ : ∃ H : Heap, H = s.heap := ⟨_, rfl⟩
  obtain ⟨locs, hlocs⟩ : ∃ z : List Loc, z = [] := ⟨_, rfl⟩
  rw [← hH, ← hlocs] at hB
  rw [← hH, ← hlocs]
  refine q_ald_n cx dX12_send_0 rfl (lv_at hl 0 rfl) ?_
  refine q_ild_n cx dX12_send_1 rfl (lv_at hl 1 rfl) ?_
  refine q_cVi (As := [.int (q_i a0)]) (rest := []) cx hB (fun _ h => h) hN hmo kmo (by decide) rfl (r_isNode0 l g hN hB.2.1 mo hmo kmo a0 (by omega) (by omega) sr hsr ksr hf8 hr1) q_cX12_355 q_dX12_isNode (by decide) rfl rfl hl.1 rfl (Nat.le_of_ble_eq_true rfl) dX12_send_2 (fun y110 H locs f109 ry110 h111 hF hB => ?_)
  obtain ⟨rfl, qy110⟩ := h111
  subst qy110
  refine q_ifeq (tgt := 20) cx ⟨by decide, by decide⟩ dX12_send_5 (by decide) (fun c112 => ?_) (fun c112 => ?_)
  · refine q_iconst cx dX12_send_20 ?_
    refine lv_istore (lv' := [(5, .int (q_i 0)), (0, .ref mo), (1, .int (q_i a0)), (2, .int (q_i b0)), (3, .int (q_i c0)), (4, .int (q_i z0))]) cx.1 cx.2.1 dX12_send_21 hl (by decide) rfl (fun ls hl => ?_)
    refine q_ald_n cx dX12_send_23 rfl (lv_at hl 1 rfl) ?_
    refine lv_iload cx.1 cx.2.1 dX12_send_24 (lv_at hl 0 rfl) ?_
    refine q_ild_n cx dX12_send_26 rfl (lv_at hl 2 rfl) ?_
    refine q_ild_n cx dX12_send_27 rfl (lv_at hl 3 rfl) ?_
    refine q_iceq (tgt := 42) cx ⟨by omega, by omega⟩ ⟨by omega, by omega⟩ dX12_send_28 (by decide) (fun c113 => ?_) (fun c113 => ?_)
    · refine q_iconst cx dX12_send_42 ?_
      refine lv_iload cx.1 cx.2.1 dX12_send_43 (lv_at hl 0 rfl) ?_
      refine q_ifeq (tgt := 61) cx ⟨by decide, by decide⟩ dX12_send_45 (by decide) (fun c114 => ?_) (fun c114 => ?_)
      · refine q_iconst cx dX12_send_61 ?_
        refine q_cVi (As := [.int (q_i 0), .int (q_i 0), .int (q_i 0)]) (rest := []) cx hB (fun _ h => h) hN hmo kmo (by decide) rfl (r_goesAll0 l g hN hB.2.1 mo hmo kmo 0 (by decide) (by decide) 0 (by decide) (by decide) 0 (by decide) (by decide)) q_cX12_458 q_dX12_goesAll (by decide) rfl rfl hl.1 rfl (Nat.le_of_ble_eq_true rfl) dX12_send_62 (fun y116 H locs f115 ry116 h117 hF hB => ?_)
        obtain ⟨qy116, z118⟩ := h117
        have z119 : q_z f115 mo 2 = 0 := (hF.z hmo (by rw [kmo]; rfl)).trans hf0
        have z120 : q_z f115 mo 8 = 0 := (hF.z hmo (by rw [kmo]; rfl)).trans hf1
        have z121 : q_z f115 mo 9 = (-1) := (hF.z hmo (by rw [kmo]; rfl)).trans hf2
        have z122 : q_z f115 mo 10 = 0 := (hF.z hmo (by rw [kmo]; rfl)).trans hf3
        have z123 : q_z f115 mo 11 = (-1) := (hF.z hmo (by rw [kmo]; rfl)).trans hf4
        have z124 : q_z f115 mo 21 = 0 := (hF.z hmo (by rw [kmo]; rfl)).trans hf5
        have z125 : q_z f115 mo 22 = 0 := (hF.z hmo (by rw [kmo]; rfl)).trans hf6
        have z126 : q_z f115 mo 40 = 0 := (hF.z hmo (by rw [kmo]; rfl)).trans hf7
        have z127 : q_z f115 sr 0 = 0 := (hF.z hsr (by rw [ksr]; rfl)).trans hf8
        have z128 : q_z f115 sr 1 = 0 := (hF.z hsr (by rw [ksr]; rfl)).trans hf9
        have z129 : q_z f115 sr 2 = 12 := (hF.z hsr (by rw [ksr]; rfl)).trans hf10
        have z130 : q_z f115 sr 3 = 0 := (hF.z hsr (by rw [ksr]; rfl)).trans hf11
        have z131 : q_z f115 sr 4 = 0 := (hF.z hsr (by rw [ksr]; rfl)).trans hf12
        have z132 : q_z f115 sr 5 = 1 := (hF.z hsr (by rw [ksr]; rfl)).trans hf13
        have z133 : q_z f115 sr 6 = 2 := (hF.z hsr (by rw [ksr]; rfl)).trans hf14
        have z134 : q_z f115 sr 7 = 5 := (hF.z hsr (by rw [ksr]; rfl)).trans hf15
        have z135 : q_z f115 sr 8 = 3 := (hF.z hsr (by rw [ksr]; rfl)).trans hf16
        have z136 : q_z f115 sr 9 = 0 := (hF.z hsr (by rw [ksr]; rfl)).trans hf17
        have z137 : q_r f115 mo 1 = bu := (hF.r hmo (by rw [kmo]; rfl)).trans hr0
        have z138 : q_r f115 mo 13 = sr := (hF.r hmo (by rw [kmo]; rfl)).trans hr1
        have z139 : q_r f115 mo 14 = sd := (hF.r hmo (by rw [kmo]; rfl)).trans hr2
        have z140 : q_r f115 mo 15 = as := (hF.r hmo (by rw [kmo]; rfl)).trans hr3
        have z141 : q_r f115 mo 16 = aw := (hF.r hmo (by rw [kmo]; rfl)).trans hr4
        have z142 : q_r f115 mo 17 = pa := (hF.r hmo (by rw [kmo]; rfl)).trans hr5
        have z143 : q_r f115 mo 18 = nm := (hF.r hmo (by rw [kmo]; rfl)).trans hr6
        have z144 : q_r f115 mo 19 = snm := (hF.r hmo (by rw [kmo]; rfl)).trans hr7
        have z145 : q_r f115 mo 20 = anm := (hF.r hmo (by rw [kmo]; rfl)).trans hr8
        subst qy116
        refine q_ifne (tgt := 70) cx ⟨by decide, by decide⟩ dX12_send_65 (by decide) (fun c146 => ?_) (fun c146 => ?_)
        · exact absurd c146 (by omega)
        · refine q_iconst cx dX12_send_68 ?_
          refine q_iret cx hr hlk hB dX12_send_69 ⟨by decide, by decide⟩ ?_
          exact ⟨rfl, z118⟩
      · exact absurd c114 (by omega)
    · refine q_ild_n cx dX12_send_31 rfl (lv_at hl 4 rfl) ?_
      refine q_cSi (As := [.int (q_i c0)]) (rest := [.int (q_i 0), .ref mo]) cx hB (fun _ h => h) hN (r_isMany l g hN hB.2.1 c0 (by omega) (by omega)) q_cX12_452 q_dX12_isMany (by decide) rfl rfl hl.1 rfl (Nat.le_of_ble_eq_true rfl) dX12_send_32 (fun y148 H locs f147 ry148 h149 hF hB => ?_)
      obtain ⟨rfl, ly148, uy148⟩ := h149
      refine q_ifeq (tgt := 42) cx ⟨by omega, by omega⟩ dX12_send_35 (by decide) (fun c150 => ?_) (fun c150 => ?_)
      · refine q_iconst cx dX12_send_42 ?_
        refine lv_iload cx.1 cx.2.1 dX12_send_43 (lv_at hl 0 rfl) ?_
        refine q_ifeq (tgt := 61) cx ⟨by decide, by decide⟩ dX12_send_45 (by decide) (fun c151 => ?_) (fun c151 => ?_)
        · refine q_iconst cx dX12_send_61 ?_
          refine q_cVi (As := [.int (q_i 0), .int (q_i 0), .int (q_i 0)]) (rest := []) cx hB (fun _ h => h) hN hmo kmo (by decide) rfl (r_goesAll0 l g hN hB.2.1 mo hmo kmo 0 (by decide) (by decide) 0 (by decide) (by decide) 0 (by decide) (by decide)) q_cX12_458 q_dX12_goesAll (by decide) rfl rfl hl.1 rfl (Nat.le_of_ble_eq_true rfl) dX12_send_62 (fun y153 H locs f152 ry153 h154 hF hB => ?_)
          obtain ⟨qy153, z155⟩ := h154
          have z156 : q_z f152 mo 2 = 0 := (hF.z hmo (by rw [kmo]; rfl)).trans hf0
          have z157 : q_z f152 mo 8 = 0 := (hF.z hmo (by rw [kmo]; rfl)).trans hf1
          have z158 : q_z f152 mo 9 = (-1) := (hF.z hmo (by rw [kmo]; rfl)).trans hf2
          have z159 : q_z f152 mo 10 = 0 := (hF.z hmo (by rw [kmo]; rfl)).trans hf3
          have z160 : q_z f152 mo 11 = (-1) := (hF.z hmo (by rw [kmo]; rfl)).trans hf4
          have z161 : q_z f152 mo 21 = 0 := (hF.z hmo (by rw [kmo]; rfl)).trans hf5
          have z162 : q_z f152 mo 22 = 0 := (hF.z hmo (by rw [kmo]; rfl)).trans hf6
          have z163 : q_z f152 mo 40 = 0 := (hF.z hmo (by rw [kmo]; rfl)).trans hf7
          have z164 : q_z f152 sr 0 = 0 := (hF.z hsr (by rw [ksr]; rfl)).trans hf8
          have z165 : q_z f152 sr 1 = 0 := (hF.z hsr (by rw [ksr]; rfl)).trans hf9
          have z166 : q_z f152 sr 2 = 12 := (hF.z hsr (by rw [ksr]; rfl)).trans hf10
          have z167 : q_z f152 sr 3 = 0 := (hF.z hsr (by rw [ksr]; rfl)).trans hf11
          have z168 : q_z f152 sr 4 = 0 := (hF.z hsr (by rw [ksr]; rfl)).trans hf12
          have z169 : q_z f152 sr 5 = 1 := (hF.z hsr (by rw [ksr]; rfl)).trans hf13
          have z170 : q_z f152 sr 6 = 2 := (hF.z hsr (by rw [ksr]; rfl)).trans hf14
          have z171 : q_z f152 sr 7 = 5 := (hF.z hsr (by rw [ksr]; rfl)).trans hf15
          have z172 : q_z f152 sr 8 = 3 := (hF.z hsr (by rw [ksr]; rfl)).trans hf16
          have z173 : q_z f152 sr 9 = 0 := (hF.z hsr (by rw [ksr]; rfl)).trans hf17
          have z174 : q_r f152 mo 1 = bu := (hF.r hmo (by rw [kmo]; rfl)).trans hr0
          have z175 : q_r f152 mo 13 = sr := (hF.r hmo (by rw [kmo]; rfl)).trans hr1
          have z176 : q_r f152 mo 14 = sd := (hF.r hmo (by rw [kmo]; rfl)).trans hr2
          have z177 : q_r f152 mo 15 = as := (hF.r hmo (by rw [kmo]; rfl)).trans hr3
          have z178 : q_r f152 mo 16 = aw := (hF.r hmo (by rw [kmo]; rfl)).trans hr4
          have z179 : q_r f152 mo 17 = pa := (hF.r hmo (by rw [kmo]; rfl)).trans hr5
          have z180 : q_r f152 mo 18 = nm := (hF.r hmo (by rw [kmo]; rfl)).trans hr6
          have z181 : q_r f152 mo 19 = snm := (hF.r hmo (by rw [kmo]; rfl)).trans hr7
          have z182 : q_r f152 mo 20 = anm := (hF.r hmo (by rw [kmo]; rfl)).trans hr8
          subst qy153
          refine q_ifne (tgt := 70) cx ⟨by decide, by decide⟩ dX12_send_65 (by decide) (fun c183 => ?_) (fun c183 => ?_)
          · exact absurd c183 (by omega)
          · refine q_iconst cx dX12_send_68 ?_
            refine q_iret cx hr hlk hB dX12_send_69 ⟨by decide, by decide⟩ ?_
            exact ⟨rfl, z155⟩
        · exact absurd c151 (by omega)
      · refine q_iconst cx dX12_send_38 ?_
        refine lv_goto (tgt := 43) cx.1 cx.2.1 dX12_send_39 (by decide) ?_
        refine lv_iload cx.1 cx.2.1 dX12_send_43 (lv_at hl 0 rfl) ?_
        refine q_ifeq (tgt := 61) cx ⟨by decide, by decide⟩ dX12_send_45 (by decide) (fun c184 => ?_) (fun c184 => ?_)
        · refine q_iconst cx dX12_send_61 ?_
          refine q_cVi (As := [.int (q_i 0), .int (q_i 1), .int (q_i 0)]) (rest := []) cx hB (fun _ h => h) hN hmo kmo (by decide) rfl (r_goesAll0 l g hN hB.2.1 mo hmo kmo 0 (by decide) (by decide) 1 (by decide) (by decide) 0 (by decide) (by decide)) q_cX12_458 q_dX12_goesAll (by decide) rfl rfl hl.1 rfl (Nat.le_of_ble_eq_true rfl) dX12_send_62 (fun y186 H locs f185 ry186 h187 hF hB => ?_)
          obtain ⟨qy186, z188⟩ := h187
          have z189 : q_z f185 mo 2 = 0 := (hF.z hmo (by rw [kmo]; rfl)).trans hf0
          have z190 : q_z f185 mo 8 = 0 := (hF.z hmo (by rw [kmo]; rfl)).trans hf1
          have z191 : q_z f185 mo 9 = (-1) := (hF.z hmo (by rw [kmo]; rfl)).trans hf2
          have z192 : q_z f185 mo 10 = 0 := (hF.z hmo (by rw [kmo]; rfl)).trans hf3
          have z193 : q_z f185 mo 11 = (-1) := (hF.z hmo (by rw [kmo]; rfl)).trans hf4
          have z194 : q_z f185 mo 21 = 0 := (hF.z hmo (by rw [kmo]; rfl)).trans hf5
          have z195 : q_z f185 mo 22 = 0 := (hF.z hmo (by rw [kmo]; rfl)).trans hf6
          have z196 : q_z f185 mo 40 = 0 := (hF.z hmo (by rw [kmo]; rfl)).trans hf7
          have z197 : q_z f185 sr 0 = 0 := (hF.z hsr (by rw [ksr]; rfl)).trans hf8
          have z198 : q_z f185 sr 1 = 0 := (hF.z hsr (by rw [ksr]; rfl)).trans hf9
          have z199 : q_z f185 sr 2 = 12 := (hF.z hsr (by rw [ksr]; rfl)).trans hf10
          have z200 : q_z f185 sr 3 = 0 := (hF.z hsr (by rw [ksr]; rfl)).trans hf11
          have z201 : q_z f185 sr 4 = 0 := (hF.z hsr (by rw [ksr]; rfl)).trans hf12
          have z202 : q_z f185 sr 5 = 1 := (hF.z hsr (by rw [ksr]; rfl)).trans hf13
          have z203 : q_z f185 sr 6 = 2 := (hF.z hsr (by rw [ksr]; rfl)).trans hf14
          have z204 : q_z f185 sr 7 = 5 := (hF.z hsr (by rw [ksr]; rfl)).trans hf15
          have z205 : q_z f185 sr 8 = 3 := (hF.z hsr (by rw [ksr]; rfl)).trans hf16
          have z206 : q_z f185 sr 9 = 0 := (hF.z hsr (by rw [ksr]; rfl)).trans hf17
          have z207 : q_r f185 mo 1 = bu := (hF.r hmo (by rw [kmo]; rfl)).trans hr0
          have z208 : q_r f185 mo 13 = sr := (hF.r hmo (by rw [kmo]; rfl)).trans hr1
          have z209 : q_r f185 mo 14 = sd := (hF.r hmo (by rw [kmo]; rfl)).trans hr2
          have z210 : q_r f185 mo 15 = as := (hF.r hmo (by rw [kmo]; rfl)).trans hr3
          have z211 : q_r f185 mo 16 = aw := (hF.r hmo (by rw [kmo]; rfl)).trans hr4
          have z212 : q_r f185 mo 17 = pa := (hF.r hmo (by rw [kmo]; rfl)).trans hr5
          have z213 : q_r f185 mo 18 = nm := (hF.r hmo (by rw [kmo]; rfl)).trans hr6
          have z214 : q_r f185 mo 19 = snm := (hF.r hmo (by rw [kmo]; rfl)).trans hr7
          have z215 : q_r f185 mo 20 = anm := (hF.r hmo (by rw [kmo]; rfl)).trans hr8
          subst qy186
          refine q_ifne (tgt := 70) cx ⟨by decide, by decide⟩ dX12_send_65 (by decide) (fun c216 => ?_) (fun c216 => ?_)
          · exact absurd c216 (by omega)
          · refine q_iconst cx dX12_send_68 ?_
            refine q_iret cx hr hlk hB dX12_send_69 ⟨by decide, by decide⟩ ?_
            exact ⟨rfl, z188⟩
        · exact absurd c184 (by omega)
  · exact absurd c112 (by omega)
set_option maxHeartbeats 4000000 in
set_option maxRecDepth 100000 in
theorem p_setShift (l : Launch) (g : q_G) {K : Nat → Nat} {L : List Nat} (hN : L.Nodup) {f : Nat → va_E} (hT : q_Ty g K L f) (mo : Nat) (hmo : mo ∈ L) (kmo : K mo = 12) (a0 : Int) (la0 : (-2147483648) ≤ a0) (ua0 : a0 ≤ 2147483647) (b0 : Int) (lb0 : (-2147483648) ≤ b0) (ub0 : b0 ≤ 2147483647) (bu : Nat) (hbu : bu ∈ L) (kbu : K bu = 150) (sr : Nat) (hsr : sr ∈ L) (ksr : K sr = 151) (sd : Nat) (hsd : sd ∈ L) (ksd : K sd = 152) (as : Nat) (has : as ∈ L) (kas : K as = 153) (aw : Nat) (haw : aw ∈ L) (kaw : K aw = 154) (pa : Nat) (hpa : pa ∈ L) (kpa : K pa = 155) (nm : Nat) (hnm : nm ∈ L) (knm : K nm = 156) (snm : Nat) (hsnm : snm ∈ L) (ksnm : K snm = 157) (anm : Nat) (hanm : anm ∈ L) (kanm : K anm = 158) (hf0 : q_z f mo 2 = 0) (hf1 : q_z f mo 8 = 0) (hf2 : q_z f mo 9 = (-1)) (hf3 : q_z f mo 10 = 0) (hf4 : q_z f mo 11 = (-1)) (hf5 : q_z f mo 21 = 0) (hf6 : q_z f mo 22 = 0) (hf7 : q_z f mo 40 = 0) (hf8 : q_z f sr 0 = 0) (hf9 : q_z f sr 1 = 0) (hf10 : q_z f sr 2 = 12) (hf11 : q_z f sr 3 = 0) (hf12 : q_z f sr 4 = 0) (hf13 : q_z f sr 5 = 1) (hf14 : q_z f sr 6 = 2) (hf15 : q_z f sr 7 = 5) (hf16 : q_z f sr 8 = 3) (hf17 : q_z f sr 9 = 0) (hr0 : q_r f mo 1 = bu) (hr1 : q_r f mo 13 = sr) (hr2 : q_r f mo 14 = sd) (hr3 : q_r f mo 15 = as) (hr4 : q_r f mo 16 = aw) (hr5 : q_r f mo 17 = pa) (hr6 : q_r f mo 18 = nm) (hr7 : q_r f mo 19 = snm) (hr8 : q_r f mo 20 = anm) : q_Ct l g K L yX12_setShift cX12_setShift 3 (some .int) 2 46 [.ref mo, .int (q_i a0), .int (q_i b0)] f [(12, 0, 40), (150, 0, 599), (151, 0, 657), (152, 0, 657), (153, 0, 657), (154, 0, 657), (155, 0, 3947), (156, 0, 9), (157, 0, 9), (158, 0, 9)] (q_Pi (fun (z : Int) (f1 : Nat → va_E) => z = 0 ∧ q_z f1 mo 0 = 1)) := by
  refine q_ofb (by decide +kernel) hN hT (Nat.le_of_ble_eq_true rfl) ?_
  intro p e s m below meth c ls cx hr hlk hB hl
  have hl : lv_has ls 3 [(0, .ref mo), (1, .int (q_i a0)), (2, .int (q_i b0))] := hl
  obtain ⟨H, hH⟩ : ∃ H : Heap, H = s.heap := ⟨_, rfl⟩
  obtain ⟨locs, hlocs⟩ : ∃ z : List Loc, z = [] := ⟨_, rfl⟩
  rw [← hH, ← hlocs] at hB
  rw [← hH, ← hlocs]
  refine q_ald_n cx dX12_setShift_0 rfl (lv_at hl 0 rfl) ?_
  refine q_ald_n cx dX12_setShift_1 rfl (lv_at hl 0 rfl) ?_
  refine q_ild_n cx dX12_setShift_2 rfl (lv_at hl 1 rfl) ?_
  refine q_cVi (As := [.int (q_i a0)]) (rest := [.ref mo]) cx hB (fun _ h => h) hN hmo kmo (by decide) rfl (r_isNode0 l g hN hB.2.1 mo hmo kmo a0 (by omega) (by omega) sr hsr ksr hf8 hr1) q_cX12_355 q_dX12_isNode (by decide) rfl rfl hl.1 rfl (Nat.le_of_ble_eq_true rfl) dX12_setShift_3 (fun y40 H locs f39 ry40 h41 hF hB => ?_)
  obtain ⟨rfl, qy40⟩ := h41
  subst qy40
  refine q_ald_n cx dX12_setShift_6 rfl (lv_at hl 0 rfl) ?_
  refine q_ild_n cx dX12_setShift_7 rfl (lv_at hl 2 rfl) ?_
  refine q_cVi (As := [.int (q_i b0)]) (rest := [.int (q_i 0), .ref mo]) cx hB (fun _ h => h) hN hmo kmo (by decide) rfl (r_isDay0 l g hN hB.2.1 mo hmo kmo b0 (by omega) (by omega) sr hsr ksr hf10 hr1) q_cX12_388 q_dX12_isDay (by decide) rfl rfl hl.1 rfl (Nat.le_of_ble_eq_true rfl) dX12_setShift_8 (fun y43 H locs f42 ry43 h44 hF hB => ?_)
  obtain ⟨rfl, ly43, uy43⟩ := h44
  refine q_cVi (As := [.int (q_i 0), .int (q_i y43)]) (rest := []) cx hB (fun _ h => h) hN hmo kmo (by decide) rfl (r_goesBoth0 l g hN hB.2.1 mo hmo kmo 0 (by decide) (by decide) y43 (by omega) (by omega)) q_cX12_358 q_dX12_goesBoth (by decide) rfl rfl hl.1 rfl (Nat.le_of_ble_eq_true rfl) dX12_setShift_11 (fun y46 H locs f45 ry46 h47 hF hB => ?_)
  obtain ⟨qy46, z48⟩ := h47
  have z49 : q_z f45 mo 2 = 0 := (hF.z hmo (by rw [kmo]; rfl)).trans hf0
  have z50 : q_z f45 mo 8 = 0 := (hF.z hmo (by rw [kmo]; rfl)).trans hf1
  have z51 : q_z f45 mo 9 = (-1) := (hF.z hmo (by rw [kmo]; rfl)).trans hf2
  have z52 : q_z f45 mo 10 = 0 := (hF.z hmo (by rw [kmo]; rfl)).trans hf3
  have z53 : q_z f45 mo 11 = (-1) := (hF.z hmo (by rw [kmo]; rfl)).trans hf4
  have z54 : q_z f45 mo 21 = 0 := (hF.z hmo (by rw [kmo]; rfl)).trans hf5
  have z55 : q_z f45 mo 22 = 0 := (hF.z hmo (by rw [kmo]; rfl)).trans hf6
  have z56 : q_z f45 mo 40 = 0 := (hF.z hmo (by rw [kmo]; rfl)).trans hf7
  have z57 : q_z f45 sr 0 = 0 := (hF.z hsr (by rw [ksr]; rfl)).trans hf8
  have z58 : q_z f45 sr 1 = 0 := (hF.z hsr (by rw [ksr]; rfl)).trans hf9
  have z59 : q_z f45 sr 2 = 12 := (hF.z hsr (by rw [ksr]; rfl)).trans hf10
  have z60 : q_z f45 sr 3 = 0 := (hF.z hsr (by rw [ksr]; rfl)).trans hf11
  have z61 : q_z f45 sr 4 = 0 := (hF.z hsr (by rw [ksr]; rfl)).trans hf12
  have z62 : q_z f45 sr 5 = 1 := (hF.z hsr (by rw [ksr]; rfl)).trans hf13
  have z63 : q_z f45 sr 6 = 2 := (hF.z hsr (by rw [ksr]; rfl)).trans hf14
  have z64 : q_z f45 sr 7 = 5 := (hF.z hsr (by rw [ksr]; rfl)).trans hf15
  have z65 : q_z f45 sr 8 = 3 := (hF.z hsr (by rw [ksr]; rfl)).trans hf16
  have z66 : q_z f45 sr 9 = 0 := (hF.z hsr (by rw [ksr]; rfl)).trans hf17
  have z67 : q_r f45 mo 1 = bu := (hF.r hmo (by rw [kmo]; rfl)).trans hr0
  have z68 : q_r f45 mo 13 = sr := (hF.r hmo (by rw [kmo]; rfl)).trans hr1
  have z69 : q_r f45 mo 14 = sd := (hF.r hmo (by rw [kmo]; rfl)).trans hr2
  have z70 : q_r f45 mo 15 = as := (hF.r hmo (by rw [kmo]; rfl)).trans hr3
  have z71 : q_r f45 mo 16 = aw := (hF.r hmo (by rw [kmo]; rfl)).trans hr4
  have z72 : q_r f45 mo 17 = pa := (hF.r hmo (by rw [kmo]; rfl)).trans hr5
  have z73 : q_r f45 mo 18 = nm := (hF.r hmo (by rw [kmo]; rfl)).trans hr6
  have z74 : q_r f45 mo 19 = snm := (hF.r hmo (by rw [kmo]; rfl)).trans hr7
  have z75 : q_r f45 mo 20 = anm := (hF.r hmo (by rw [kmo]; rfl)).trans hr8
  subst qy46
  refine q_ifne (tgt := 19) cx ⟨by decide, by decide⟩ dX12_setShift_14 (by decide) (fun c76 => ?_) (fun c76 => ?_)
  · exact absurd c76 (by omega)
  · refine q_iconst cx dX12_setShift_17 ?_
    refine q_iret cx hr hlk hB dX12_setShift_18 ⟨by decide, by decide⟩ ?_
    exact ⟨rfl, z48⟩
set_option maxHeartbeats 4000000 in
set_option maxRecDepth 100000 in
theorem p_watch (l : Launch) (g : q_G) {K : Nat → Nat} {L : List Nat} (hN : L.Nodup) {f : Nat → va_E} (hT : q_Ty g K L f) (mo : Nat) (hmo : mo ∈ L) (kmo : K mo = 12) (a0 : Int) (la0 : (-2147483648) ≤ a0) (ua0 : a0 ≤ 2147483647) (b0 : Int) (lb0 : (-2147483648) ≤ b0) (ub0 : b0 ≤ 2147483647) (z0 : Int) (lz0 : 0 ≤ z0) (uz0 : z0 ≤ 1) (bu : Nat) (hbu : bu ∈ L) (kbu : K bu = 150) (sr : Nat) (hsr : sr ∈ L) (ksr : K sr = 151) (sd : Nat) (hsd : sd ∈ L) (ksd : K sd = 152) (as : Nat) (has : as ∈ L) (kas : K as = 153) (aw : Nat) (haw : aw ∈ L) (kaw : K aw = 154) (pa : Nat) (hpa : pa ∈ L) (kpa : K pa = 155) (nm : Nat) (hnm : nm ∈ L) (knm : K nm = 156) (snm : Nat) (hsnm : snm ∈ L) (ksnm : K snm = 157) (anm : Nat) (hanm : anm ∈ L) (kanm : K anm = 158) (hf0 : q_z f mo 2 = 0) (hf1 : q_z f mo 8 = 0) (hf2 : q_z f mo 9 = (-1)) (hf3 : q_z f mo 10 = 0) (hf4 : q_z f mo 11 = (-1)) (hf5 : q_z f mo 21 = 0) (hf6 : q_z f mo 22 = 0) (hf7 : q_z f mo 40 = 0) (hf8 : q_z f sr 0 = 0) (hf9 : q_z f sr 1 = 0) (hf10 : q_z f sr 2 = 12) (hf11 : q_z f sr 3 = 0) (hf12 : q_z f sr 4 = 0) (hf13 : q_z f sr 5 = 1) (hf14 : q_z f sr 6 = 2) (hf15 : q_z f sr 7 = 5) (hf16 : q_z f sr 8 = 3) (hf17 : q_z f sr 9 = 0) (hr0 : q_r f mo 1 = bu) (hr1 : q_r f mo 13 = sr) (hr2 : q_r f mo 14 = sd) (hr3 : q_r f mo 15 = as) (hr4 : q_r f mo 16 = aw) (hr5 : q_r f mo 17 = pa) (hr6 : q_r f mo 18 = nm) (hr7 : q_r f mo 19 = snm) (hr8 : q_r f mo 20 = anm) : q_Ct l g K L yX12_watch cX12_watch 4 (some .boolean) 2 46 [.ref mo, .int (q_i a0), .int (q_i b0), .int (q_i z0)] f [(12, 0, 40), (150, 0, 599), (151, 0, 657), (152, 0, 657), (153, 0, 657), (154, 0, 657), (155, 0, 3947), (156, 0, 9), (157, 0, 9), (158, 0, 9)] (q_Pi (fun (z : Int) (f1 : Nat → va_E) => z = 0 ∧ q_z f1 mo 0 = 1)) := by
  refine q_ofb (by decide +kernel) hN hT (Nat.le_of_ble_eq_true rfl) ?_
  intro p e s m below meth c ls cx hr hlk hB hl
  have hl : lv_has ls 4 [(0, .ref mo), (1, .int (q_i a0)), (2, .int (q_i b0)), (3, .int (q_i z0))] := hl
  obtain ⟨H, hH⟩ : ∃ H : Heap, H = s.heap := ⟨_, rfl⟩
  obtain ⟨locs, hlocs⟩ : ∃ z : List Loc, z = [] := ⟨_, rfl⟩
  rw [← hH, ← hlocs] at hB
  rw [← hH, ← hlocs]
  refine q_ald_n cx dX12_watch_0 rfl (lv_at hl 0 rfl) ?_
  refine q_ald_n cx dX12_watch_1 rfl (lv_at hl 0 rfl) ?_
  refine q_ild_n cx dX12_watch_2 rfl (lv_at hl 1 rfl) ?_
  refine q_cVi (As := [.int (q_i a0)]) (rest := [.ref mo]) cx hB (fun _ h => h) hN hmo kmo (by decide) rfl (r_isNode0 l g hN hB.2.1 mo hmo kmo a0 (by omega) (by omega) sr hsr ksr hf8 hr1) q_cX12_355 q_dX12_isNode (by decide) rfl rfl hl.1 rfl (Nat.le_of_ble_eq_true rfl) dX12_watch_3 (fun y40 H locs f39 ry40 h41 hF hB => ?_)
  obtain ⟨rfl, qy40⟩ := h41
  subst qy40
  refine q_ald_n cx dX12_watch_6 rfl (lv_at hl 0 rfl) ?_
  refine q_ild_n cx dX12_watch_7 rfl (lv_at hl 2 rfl) ?_
  refine q_cVi (As := [.int (q_i b0)]) (rest := [.int (q_i 0), .ref mo]) cx hB (fun _ h => h) hN hmo kmo (by decide) rfl (r_isDay0 l g hN hB.2.1 mo hmo kmo b0 (by omega) (by omega) sr hsr ksr hf10 hr1) q_cX12_388 q_dX12_isDay (by decide) rfl rfl hl.1 rfl (Nat.le_of_ble_eq_true rfl) dX12_watch_8 (fun y43 H locs f42 ry43 h44 hF hB => ?_)
  obtain ⟨rfl, ly43, uy43⟩ := h44
  refine q_cVi (As := [.int (q_i 0), .int (q_i y43)]) (rest := []) cx hB (fun _ h => h) hN hmo kmo (by decide) rfl (r_goesBoth0 l g hN hB.2.1 mo hmo kmo 0 (by decide) (by decide) y43 (by omega) (by omega)) q_cX12_358 q_dX12_goesBoth (by decide) rfl rfl hl.1 rfl (Nat.le_of_ble_eq_true rfl) dX12_watch_11 (fun y46 H locs f45 ry46 h47 hF hB => ?_)
  obtain ⟨qy46, z48⟩ := h47
  have z49 : q_z f45 mo 2 = 0 := (hF.z hmo (by rw [kmo]; rfl)).trans hf0
  have z50 : q_z f45 mo 8 = 0 := (hF.z hmo (by rw [kmo]; rfl)).trans hf1
  have z51 : q_z f45 mo 9 = (-1) := (hF.z hmo (by rw [kmo]; rfl)).trans hf2
  have z52 : q_z f45 mo 10 = 0 := (hF.z hmo (by rw [kmo]; rfl)).trans hf3
  have z53 : q_z f45 mo 11 = (-1) := (hF.z hmo (by rw [kmo]; rfl)).trans hf4
  have z54 : q_z f45 mo 21 = 0 := (hF.z hmo (by rw [kmo]; rfl)).trans hf5
  have z55 : q_z f45 mo 22 = 0 := (hF.z hmo (by rw [kmo]; rfl)).trans hf6
  have z56 : q_z f45 mo 40 = 0 := (hF.z hmo (by rw [kmo]; rfl)).trans hf7
  have z57 : q_z f45 sr 0 = 0 := (hF.z hsr (by rw [ksr]; rfl)).trans hf8
  have z58 : q_z f45 sr 1 = 0 := (hF.z hsr (by rw [ksr]; rfl)).trans hf9
  have z59 : q_z f45 sr 2 = 12 := (hF.z hsr (by rw [ksr]; rfl)).trans hf10
  have z60 : q_z f45 sr 3 = 0 := (hF.z hsr (by rw [ksr]; rfl)).trans hf11
  have z61 : q_z f45 sr 4 = 0 := (hF.z hsr (by rw [ksr]; rfl)).trans hf12
  have z62 : q_z f45 sr 5 = 1 := (hF.z hsr (by rw [ksr]; rfl)).trans hf13
  have z63 : q_z f45 sr 6 = 2 := (hF.z hsr (by rw [ksr]; rfl)).trans hf14
  have z64 : q_z f45 sr 7 = 5 := (hF.z hsr (by rw [ksr]; rfl)).trans hf15
  have z65 : q_z f45 sr 8 = 3 := (hF.z hsr (by rw [ksr]; rfl)).trans hf16
  have z66 : q_z f45 sr 9 = 0 := (hF.z hsr (by rw [ksr]; rfl)).trans hf17
  have z67 : q_r f45 mo 1 = bu := (hF.r hmo (by rw [kmo]; rfl)).trans hr0
  have z68 : q_r f45 mo 13 = sr := (hF.r hmo (by rw [kmo]; rfl)).trans hr1
  have z69 : q_r f45 mo 14 = sd := (hF.r hmo (by rw [kmo]; rfl)).trans hr2
  have z70 : q_r f45 mo 15 = as := (hF.r hmo (by rw [kmo]; rfl)).trans hr3
  have z71 : q_r f45 mo 16 = aw := (hF.r hmo (by rw [kmo]; rfl)).trans hr4
  have z72 : q_r f45 mo 17 = pa := (hF.r hmo (by rw [kmo]; rfl)).trans hr5
  have z73 : q_r f45 mo 18 = nm := (hF.r hmo (by rw [kmo]; rfl)).trans hr6
  have z74 : q_r f45 mo 19 = snm := (hF.r hmo (by rw [kmo]; rfl)).trans hr7
  have z75 : q_r f45 mo 20 = anm := (hF.r hmo (by rw [kmo]; rfl)).trans hr8
  subst qy46
  refine q_ifeq (tgt := 27) cx ⟨by decide, by decide⟩ dX12_watch_14 (by decide) (fun c76 => ?_) (fun c76 => ?_)
  · refine q_iconst cx dX12_watch_27 ?_
    refine q_zret cx hr hlk hB dX12_watch_28 (by decide) (by decide) ?_
    exact ⟨rfl, z48⟩
  · exact absurd c76 (by omega)
set_option maxHeartbeats 4000000 in
set_option maxRecDepth 100000 in
theorem p_setBorn (l : Launch) (g : q_G) {K : Nat → Nat} {L : List Nat} (hN : L.Nodup) {f : Nat → va_E} (hT : q_Ty g K L f) (mo : Nat) (hmo : mo ∈ L) (kmo : K mo = 12) (a0 : Int) (la0 : (-2147483648) ≤ a0) (ua0 : a0 ≤ 2147483647) (b0 : Int) (lb0 : (-2147483648) ≤ b0) (ub0 : b0 ≤ 2147483647) (bu : Nat) (hbu : bu ∈ L) (kbu : K bu = 150) (sr : Nat) (hsr : sr ∈ L) (ksr : K sr = 151) (sd : Nat) (hsd : sd ∈ L) (ksd : K sd = 152) (as : Nat) (has : as ∈ L) (kas : K as = 153) (aw : Nat) (haw : aw ∈ L) (kaw : K aw = 154) (pa : Nat) (hpa : pa ∈ L) (kpa : K pa = 155) (nm : Nat) (hnm : nm ∈ L) (knm : K nm = 156) (snm : Nat) (hsnm : snm ∈ L) (ksnm : K snm = 157) (anm : Nat) (hanm : anm ∈ L) (kanm : K anm = 158) (hf0 : q_z f mo 2 = 0) (hf1 : q_z f mo 8 = 0) (hf2 : q_z f mo 9 = (-1)) (hf3 : q_z f mo 10 = 0) (hf4 : q_z f mo 11 = (-1)) (hf5 : q_z f mo 21 = 0) (hf6 : q_z f mo 22 = 0) (hf7 : q_z f mo 40 = 0) (hf8 : q_z f sr 0 = 0) (hf9 : q_z f sr 1 = 0) (hf10 : q_z f sr 2 = 12) (hf11 : q_z f sr 3 = 0) (hf12 : q_z f sr 4 = 0) (hf13 : q_z f sr 5 = 1) (hf14 : q_z f sr 6 = 2) (hf15 : q_z f sr 7 = 5) (hf16 : q_z f sr 8 = 3) (hf17 : q_z f sr 9 = 0) (hr0 : q_r f mo 1 = bu) (hr1 : q_r f mo 13 = sr) (hr2 : q_r f mo 14 = sd) (hr3 : q_r f mo 15 = as) (hr4 : q_r f mo 16 = aw) (hr5 : q_r f mo 17 = pa) (hr6 : q_r f mo 18 = nm) (hr7 : q_r f mo 19 = snm) (hr8 : q_r f mo 20 = anm) : q_Ct l g K L yX12_setBorn cX12_setBorn 3 (some .int) 2 46 [.ref mo, .int (q_i a0), .int (q_i b0)] f [(12, 0, 40), (150, 0, 599), (151, 0, 657), (152, 0, 657), (153, 0, 657), (154, 0, 657), (155, 0, 3947), (156, 0, 9), (157, 0, 9), (158, 0, 9)] (q_Pi (fun (z : Int) (f1 : Nat → va_E) => z = 0 ∧ q_z f1 mo 0 = 1)) := by
  refine q_ofb (by decide +kernel) hN hT (Nat.le_of_ble_eq_true rfl) ?_
  intro p e s m below meth c ls cx hr hlk hB hl
  have hl : lv_has ls 3 [(0, .ref mo), (1, .int (q_i a0)), (2, .int (q_i b0))] := hl
  obtain ⟨H, hH⟩ : ∃ H : Heap, H = s.heap := ⟨_, rfl⟩
  obtain ⟨locs, hlocs⟩ : ∃ z : List Loc, z = [] := ⟨_, rfl⟩
  rw [← hH, ← hlocs] at hB
  rw [← hH, ← hlocs]
  refine q_ald_n cx dX12_setBorn_0 rfl (lv_at hl 0 rfl) ?_
  refine q_ald_n cx dX12_setBorn_1 rfl (lv_at hl 0 rfl) ?_
  refine q_ild_n cx dX12_setBorn_2 rfl (lv_at hl 1 rfl) ?_
  refine q_cVi (As := [.int (q_i a0)]) (rest := [.ref mo]) cx hB (fun _ h => h) hN hmo kmo (by decide) rfl (r_isNode0 l g hN hB.2.1 mo hmo kmo a0 (by omega) (by omega) sr hsr ksr hf8 hr1) q_cX12_355 q_dX12_isNode (by decide) rfl rfl hl.1 rfl (Nat.le_of_ble_eq_true rfl) dX12_setBorn_3 (fun y40 H locs f39 ry40 h41 hF hB => ?_)
  obtain ⟨rfl, qy40⟩ := h41
  subst qy40
  refine q_ald_n cx dX12_setBorn_6 rfl (lv_at hl 0 rfl) ?_
  refine q_ild_n cx dX12_setBorn_7 rfl (lv_at hl 2 rfl) ?_
  refine q_cVi (As := [.int (q_i b0)]) (rest := [.int (q_i 0), .ref mo]) cx hB (fun _ h => h) hN hmo kmo (by decide) rfl (r_isDay0 l g hN hB.2.1 mo hmo kmo b0 (by omega) (by omega) sr hsr ksr hf10 hr1) q_cX12_388 q_dX12_isDay (by decide) rfl rfl hl.1 rfl (Nat.le_of_ble_eq_true rfl) dX12_setBorn_8 (fun y43 H locs f42 ry43 h44 hF hB => ?_)
  obtain ⟨rfl, ly43, uy43⟩ := h44
  refine q_cVi (As := [.int (q_i 0), .int (q_i y43)]) (rest := []) cx hB (fun _ h => h) hN hmo kmo (by decide) rfl (r_goesBoth0 l g hN hB.2.1 mo hmo kmo 0 (by decide) (by decide) y43 (by omega) (by omega)) q_cX12_358 q_dX12_goesBoth (by decide) rfl rfl hl.1 rfl (Nat.le_of_ble_eq_true rfl) dX12_setBorn_11 (fun y46 H locs f45 ry46 h47 hF hB => ?_)
  obtain ⟨qy46, z48⟩ := h47
  have z49 : q_z f45 mo 2 = 0 := (hF.z hmo (by rw [kmo]; rfl)).trans hf0
  have z50 : q_z f45 mo 8 = 0 := (hF.z hmo (by rw [kmo]; rfl)).trans hf1
  have z51 : q_z f45 mo 9 = (-1) := (hF.z hmo (by rw [kmo]; rfl)).trans hf2
  have z52 : q_z f45 mo 10 = 0 := (hF.z hmo (by rw [kmo]; rfl)).trans hf3
  have z53 : q_z f45 mo 11 = (-1) := (hF.z hmo (by rw [kmo]; rfl)).trans hf4
  have z54 : q_z f45 mo 21 = 0 := (hF.z hmo (by rw [kmo]; rfl)).trans hf5
  have z55 : q_z f45 mo 22 = 0 := (hF.z hmo (by rw [kmo]; rfl)).trans hf6
  have z56 : q_z f45 mo 40 = 0 := (hF.z hmo (by rw [kmo]; rfl)).trans hf7
  have z57 : q_z f45 sr 0 = 0 := (hF.z hsr (by rw [ksr]; rfl)).trans hf8
  have z58 : q_z f45 sr 1 = 0 := (hF.z hsr (by rw [ksr]; rfl)).trans hf9
  have z59 : q_z f45 sr 2 = 12 := (hF.z hsr (by rw [ksr]; rfl)).trans hf10
  have z60 : q_z f45 sr 3 = 0 := (hF.z hsr (by rw [ksr]; rfl)).trans hf11
  have z61 : q_z f45 sr 4 = 0 := (hF.z hsr (by rw [ksr]; rfl)).trans hf12
  have z62 : q_z f45 sr 5 = 1 := (hF.z hsr (by rw [ksr]; rfl)).trans hf13
  have z63 : q_z f45 sr 6 = 2 := (hF.z hsr (by rw [ksr]; rfl)).trans hf14
  have z64 : q_z f45 sr 7 = 5 := (hF.z hsr (by rw [ksr]; rfl)).trans hf15
  have z65 : q_z f45 sr 8 = 3 := (hF.z hsr (by rw [ksr]; rfl)).trans hf16
  have z66 : q_z f45 sr 9 = 0 := (hF.z hsr (by rw [ksr]; rfl)).trans hf17
  have z67 : q_r f45 mo 1 = bu := (hF.r hmo (by rw [kmo]; rfl)).trans hr0
  have z68 : q_r f45 mo 13 = sr := (hF.r hmo (by rw [kmo]; rfl)).trans hr1
  have z69 : q_r f45 mo 14 = sd := (hF.r hmo (by rw [kmo]; rfl)).trans hr2
  have z70 : q_r f45 mo 15 = as := (hF.r hmo (by rw [kmo]; rfl)).trans hr3
  have z71 : q_r f45 mo 16 = aw := (hF.r hmo (by rw [kmo]; rfl)).trans hr4
  have z72 : q_r f45 mo 17 = pa := (hF.r hmo (by rw [kmo]; rfl)).trans hr5
  have z73 : q_r f45 mo 18 = nm := (hF.r hmo (by rw [kmo]; rfl)).trans hr6
  have z74 : q_r f45 mo 19 = snm := (hF.r hmo (by rw [kmo]; rfl)).trans hr7
  have z75 : q_r f45 mo 20 = anm := (hF.r hmo (by rw [kmo]; rfl)).trans hr8
  subst qy46
  refine q_ifne (tgt := 19) cx ⟨by decide, by decide⟩ dX12_setBorn_14 (by decide) (fun c76 => ?_) (fun c76 => ?_)
  · exact absurd c76 (by omega)
  · refine q_iconst cx dX12_setBorn_17 ?_
    refine q_iret cx hr hlk hB dX12_setBorn_18 ⟨by decide, by decide⟩ ?_
    exact ⟨rfl, z48⟩
set_option maxHeartbeats 4000000 in
set_option maxRecDepth 100000 in
theorem p_charge (l : Launch) (g : q_G) {K : Nat → Nat} {L : List Nat} (hN : L.Nodup) {f : Nat → va_E} (hT : q_Ty g K L f) (mo : Nat) (hmo : mo ∈ L) (kmo : K mo = 12) (a0 : Int) (la0 : (-2147483648) ≤ a0) (ua0 : a0 ≤ 2147483647) (b0 : Int) (lb0 : (-2147483648) ≤ b0) (ub0 : b0 ≤ 2147483647) (bu : Nat) (hbu : bu ∈ L) (kbu : K bu = 150) (sr : Nat) (hsr : sr ∈ L) (ksr : K sr = 151) (sd : Nat) (hsd : sd ∈ L) (ksd : K sd = 152) (as : Nat) (has : as ∈ L) (kas : K as = 153) (aw : Nat) (haw : aw ∈ L) (kaw : K aw = 154) (pa : Nat) (hpa : pa ∈ L) (kpa : K pa = 155) (nm : Nat) (hnm : nm ∈ L) (knm : K nm = 156) (snm : Nat) (hsnm : snm ∈ L) (ksnm : K snm = 157) (anm : Nat) (hanm : anm ∈ L) (kanm : K anm = 158) (hf0 : q_z f mo 2 = 0) (hf1 : q_z f mo 8 = 0) (hf2 : q_z f mo 9 = (-1)) (hf3 : q_z f mo 10 = 0) (hf4 : q_z f mo 11 = (-1)) (hf5 : q_z f mo 21 = 0) (hf6 : q_z f mo 22 = 0) (hf7 : q_z f mo 40 = 0) (hf8 : q_z f sr 0 = 0) (hf9 : q_z f sr 1 = 0) (hf10 : q_z f sr 2 = 12) (hf11 : q_z f sr 3 = 0) (hf12 : q_z f sr 4 = 0) (hf13 : q_z f sr 5 = 1) (hf14 : q_z f sr 6 = 2) (hf15 : q_z f sr 7 = 5) (hf16 : q_z f sr 8 = 3) (hf17 : q_z f sr 9 = 0) (hr0 : q_r f mo 1 = bu) (hr1 : q_r f mo 13 = sr) (hr2 : q_r f mo 14 = sd) (hr3 : q_r f mo 15 = as) (hr4 : q_r f mo 16 = aw) (hr5 : q_r f mo 17 = pa) (hr6 : q_r f mo 18 = nm) (hr7 : q_r f mo 19 = snm) (hr8 : q_r f mo 20 = anm) : q_Ct l g K L yX12_charge cX12_charge 3 (some .int) 2 46 [.ref mo, .int (q_i a0), .int (q_i b0)] f [(12, 0, 40), (150, 0, 599), (151, 0, 657), (152, 0, 657), (153, 0, 657), (154, 0, 657), (155, 0, 3947), (156, 0, 9), (157, 0, 9), (158, 0, 9)] (q_Pi (fun (z : Int) (f1 : Nat → va_E) => z = 0 ∧ q_z f1 mo 0 = 1)) := by
  refine q_ofb (by decide +kernel) hN hT (Nat.le_of_ble_eq_true rfl) ?_
  intro p e s m below meth c ls cx hr hlk hB hl
  have hl : lv_has ls 3 [(0, .ref mo), (1, .int (q_i a0)), (2, .int (q_i b0))] := hl
  obtain ⟨H, hH⟩ : ∃ H : Heap, H = s.heap := ⟨_, rfl⟩
  obtain ⟨locs, hlocs⟩ : ∃ z : List Loc, z = [] := ⟨_, rfl⟩
  rw [← hH, ← hlocs] at hB
  rw [← hH, ← hlocs]
  refine q_ald_n cx dX12_charge_0 rfl (lv_at hl 0 rfl) ?_
  refine q_ald_n cx dX12_charge_1 rfl (lv_at hl 0 rfl) ?_
  refine q_ild_n cx dX12_charge_2 rfl (lv_at hl 1 rfl) ?_
  refine q_cVi (As := [.int (q_i a0)]) (rest := [.ref mo]) cx hB (fun _ h => h) hN hmo kmo (by decide) rfl (r_isNode0 l g hN hB.2.1 mo hmo kmo a0 (by omega) (by omega) sr hsr ksr hf8 hr1) q_cX12_355 q_dX12_isNode (by decide) rfl rfl hl.1 rfl (Nat.le_of_ble_eq_true rfl) dX12_charge_3 (fun y40 H locs f39 ry40 h41 hF hB => ?_)
  obtain ⟨rfl, qy40⟩ := h41
  subst qy40
  refine q_ild_n cx dX12_charge_6 rfl (lv_at hl 2 rfl) ?_
  refine q_cSi (As := [.int (q_i b0)]) (rest := [.int (q_i 0), .ref mo]) cx hB (fun _ h => h) hN (r_isMany l g hN hB.2.1 b0 (by omega) (by omega)) q_cX12_452 q_dX12_isMany (by decide) rfl rfl hl.1 rfl (Nat.le_of_ble_eq_true rfl) dX12_charge_7 (fun y43 H locs f42 ry43 h44 hF hB => ?_)
  obtain ⟨rfl, ly43, uy43⟩ := h44
  refine q_cVi (As := [.int (q_i 0), .int (q_i y43)]) (rest := []) cx hB (fun _ h => h) hN hmo kmo (by decide) rfl (r_goesBoth0 l g hN hB.2.1 mo hmo kmo 0 (by decide) (by decide) y43 (by omega) (by omega)) q_cX12_358 q_dX12_goesBoth (by decide) rfl rfl hl.1 rfl (Nat.le_of_ble_eq_true rfl) dX12_charge_10 (fun y46 H locs f45 ry46 h47 hF hB => ?_)
  obtain ⟨qy46, z48⟩ := h47
  have z49 : q_z f45 mo 2 = 0 := (hF.z hmo (by rw [kmo]; rfl)).trans hf0
  have z50 : q_z f45 mo 8 = 0 := (hF.z hmo (by rw [kmo]; rfl)).trans hf1
  have z51 : q_z f45 mo 9 = (-1) := (hF.z hmo (by rw [kmo]; rfl)).trans hf2
  have z52 : q_z f45 mo 10 = 0 := (hF.z hmo (by rw [kmo]; rfl)).trans hf3
  have z53 : q_z f45 mo 11 = (-1) := (hF.z hmo (by rw [kmo]; rfl)).trans hf4
  have z54 : q_z f45 mo 21 = 0 := (hF.z hmo (by rw [kmo]; rfl)).trans hf5
  have z55 : q_z f45 mo 22 = 0 := (hF.z hmo (by rw [kmo]; rfl)).trans hf6
  have z56 : q_z f45 mo 40 = 0 := (hF.z hmo (by rw [kmo]; rfl)).trans hf7
  have z57 : q_z f45 sr 0 = 0 := (hF.z hsr (by rw [ksr]; rfl)).trans hf8
  have z58 : q_z f45 sr 1 = 0 := (hF.z hsr (by rw [ksr]; rfl)).trans hf9
  have z59 : q_z f45 sr 2 = 12 := (hF.z hsr (by rw [ksr]; rfl)).trans hf10
  have z60 : q_z f45 sr 3 = 0 := (hF.z hsr (by rw [ksr]; rfl)).trans hf11
  have z61 : q_z f45 sr 4 = 0 := (hF.z hsr (by rw [ksr]; rfl)).trans hf12
  have z62 : q_z f45 sr 5 = 1 := (hF.z hsr (by rw [ksr]; rfl)).trans hf13
  have z63 : q_z f45 sr 6 = 2 := (hF.z hsr (by rw [ksr]; rfl)).trans hf14
  have z64 : q_z f45 sr 7 = 5 := (hF.z hsr (by rw [ksr]; rfl)).trans hf15
  have z65 : q_z f45 sr 8 = 3 := (hF.z hsr (by rw [ksr]; rfl)).trans hf16
  have z66 : q_z f45 sr 9 = 0 := (hF.z hsr (by rw [ksr]; rfl)).trans hf17
  have z67 : q_r f45 mo 1 = bu := (hF.r hmo (by rw [kmo]; rfl)).trans hr0
  have z68 : q_r f45 mo 13 = sr := (hF.r hmo (by rw [kmo]; rfl)).trans hr1
  have z69 : q_r f45 mo 14 = sd := (hF.r hmo (by rw [kmo]; rfl)).trans hr2
  have z70 : q_r f45 mo 15 = as := (hF.r hmo (by rw [kmo]; rfl)).trans hr3
  have z71 : q_r f45 mo 16 = aw := (hF.r hmo (by rw [kmo]; rfl)).trans hr4
  have z72 : q_r f45 mo 17 = pa := (hF.r hmo (by rw [kmo]; rfl)).trans hr5
  have z73 : q_r f45 mo 18 = nm := (hF.r hmo (by rw [kmo]; rfl)).trans hr6
  have z74 : q_r f45 mo 19 = snm := (hF.r hmo (by rw [kmo]; rfl)).trans hr7
  have z75 : q_r f45 mo 20 = anm := (hF.r hmo (by rw [kmo]; rfl)).trans hr8
  subst qy46
  refine q_ifne (tgt := 18) cx ⟨by decide, by decide⟩ dX12_charge_13 (by decide) (fun c76 => ?_) (fun c76 => ?_)
  · exact absurd c76 (by omega)
  · refine q_iconst cx dX12_charge_16 ?_
    refine q_iret cx hr hlk hB dX12_charge_17 ⟨by decide, by decide⟩ ?_
    exact ⟨rfl, z48⟩
set_option maxHeartbeats 4000000 in
set_option maxRecDepth 100000 in
theorem p_link (l : Launch) (g : q_G) {K : Nat → Nat} {L : List Nat} (hN : L.Nodup) {f : Nat → va_E} (hT : q_Ty g K L f) (mo : Nat) (hmo : mo ∈ L) (kmo : K mo = 12) (a0 : Int) (la0 : (-2147483648) ≤ a0) (ua0 : a0 ≤ 2147483647) (b0 : Int) (lb0 : (-2147483648) ≤ b0) (ub0 : b0 ≤ 2147483647) (bu : Nat) (hbu : bu ∈ L) (kbu : K bu = 150) (sr : Nat) (hsr : sr ∈ L) (ksr : K sr = 151) (sd : Nat) (hsd : sd ∈ L) (ksd : K sd = 152) (as : Nat) (has : as ∈ L) (kas : K as = 153) (aw : Nat) (haw : aw ∈ L) (kaw : K aw = 154) (pa : Nat) (hpa : pa ∈ L) (kpa : K pa = 155) (nm : Nat) (hnm : nm ∈ L) (knm : K nm = 156) (snm : Nat) (hsnm : snm ∈ L) (ksnm : K snm = 157) (anm : Nat) (hanm : anm ∈ L) (kanm : K anm = 158) (hf0 : q_z f mo 2 = 0) (hf1 : q_z f mo 8 = 0) (hf2 : q_z f mo 9 = (-1)) (hf3 : q_z f mo 10 = 0) (hf4 : q_z f mo 11 = (-1)) (hf5 : q_z f mo 21 = 0) (hf6 : q_z f mo 22 = 0) (hf7 : q_z f mo 40 = 0) (hf8 : q_z f sr 0 = 0) (hf9 : q_z f sr 1 = 0) (hf10 : q_z f sr 2 = 12) (hf11 : q_z f sr 3 = 0) (hf12 : q_z f sr 4 = 0) (hf13 : q_z f sr 5 = 1) (hf14 : q_z f sr 6 = 2) (hf15 : q_z f sr 7 = 5) (hf16 : q_z f sr 8 = 3) (hf17 : q_z f sr 9 = 0) (hr0 : q_r f mo 1 = bu) (hr1 : q_r f mo 13 = sr) (hr2 : q_r f mo 14 = sd) (hr3 : q_r f mo 15 = as) (hr4 : q_r f mo 16 = aw) (hr5 : q_r f mo 17 = pa) (hr6 : q_r f mo 18 = nm) (hr7 : q_r f mo 19 = snm) (hr8 : q_r f mo 20 = anm) : q_Ct l g K L yX12_link cX12_link 3 (some .int) 1 25 [.ref mo, .int (q_i a0), .int (q_i b0)] f [(12, 0, 40), (150, 0, 599), (151, 0, 657), (152, 0, 657), (153, 0, 657), (154, 0, 657), (155, 0, 3947), (156, 0, 9), (157, 0, 9), (158, 0, 9)] (q_Pi (fun (z : Int) (f1 : Nat → va_E) => z = 0 ∧ q_z f1 mo 0 = 1)) := by
  refine q_ofb (by decide +kernel) hN hT (Nat.le_of_ble_eq_true rfl) ?_
  intro p e s m below meth c ls cx hr hlk hB hl
  have hl : lv_has ls 3 [(0, .ref mo), (1, .int (q_i a0)), (2, .int (q_i b0))] := hl
  obtain ⟨H, hH⟩ : ∃ H : Heap, H = s.heap := ⟨_, rfl⟩
  obtain ⟨locs, hlocs⟩ : ∃ z : List Loc, z = [] := ⟨_, rfl⟩
  rw [← hH, ← hlocs] at hB
  rw [← hH, ← hlocs]
  refine q_ald_n cx dX12_link_0 rfl (lv_at hl 0 rfl) ?_
  refine q_ild_n cx dX12_link_1 rfl (lv_at hl 1 rfl) ?_
  refine q_i2l cx ⟨by omega, by omega⟩ dX12_link_2 ?_
  refine q_lconst (z := 0) cx (by decide) dX12_link_3 ?_
  refine q_ald_n cx dX12_link_4 rfl (lv_at hl 0 rfl) ?_
  refine q_gX12_20 cx hB hmo kmo hr1 dX12_link_5 (fun hb233 kb233 => ?_)
  refine q_iconst cx dX12_link_8 ?_
  refine q_iald (lo := 0) (hi := 16) (n := 658) cx hB hsr ksr (by decide) rfl rfl (by decide) (by decide) (by decide) rfl hf9 dX12_link_9 (fun lb235 ub235 => ?_)
  refine q_iconst cx dX12_link_10 ?_
  refine q_isub cx dX12_link_11 ?_
  refine q_i2l cx ⟨by decide, by decide⟩ dX12_link_12 ?_
  by_cases c236 : a0 ≤ (-1)
  · refine q_cSi (As := [.long (q_l a0), .long (q_l 0), .long (q_l (0 - 1))]) (rest := [.ref mo]) cx hB (fun _ h => h) hN (r_isIn l g hN hB.2.1 a0 (by omega) (by omega) 0 (by decide) (by decide) (0 - 1) (by decide) (by decide)) q_cX12_93 q_dX12_isIn (by decide) rfl rfl hl.1 rfl (Nat.le_of_ble_eq_true rfl) dX12_link_13 (fun y238 H locs f237 ry238 h239 hF hB => ?_)
    obtain ⟨rfl, ly238, uy238, t240⟩ := h239
    obtain rfl : y238 = 0 := by omega
    refine q_ild_n cx dX12_link_16 rfl (lv_at hl 2 rfl) ?_
    refine q_i2l cx ⟨by omega, by omega⟩ dX12_link_17 ?_
    refine q_lconst (z := 0) cx (by decide) dX12_link_18 ?_
    refine lv_ldc2 (v := q_l 4) cx.1 cx.2.1 cx.2.2.2.1 (cx.2.2.2.2 _ q_h1936) dX12_link_19 ?_
    by_cases c241 : b0 ≤ (-1)
    · refine q_cSi (As := [.long (q_l b0), .long (q_l 0), .long (q_l 4)]) (rest := [.int (q_i 0), .ref mo]) cx hB (fun _ h => h) hN (r_isIn l g hN hB.2.1 b0 (by omega) (by omega) 0 (by decide) (by decide) 4 (by decide) (by decide)) q_cX12_93 q_dX12_isIn (by decide) rfl rfl hl.1 rfl (Nat.le_of_ble_eq_true rfl) dX12_link_22 (fun y243 H locs f242 ry243 h244 hF hB => ?_)
      obtain ⟨rfl, ly243, uy243, t245⟩ := h244
      obtain rfl : y243 = 0 := by omega
      refine q_cVi (As := [.int (q_i 0), .int (q_i 0)]) (rest := []) cx hB (fun _ h => h) hN hmo kmo (by decide) rfl (r_goesBoth0 l g hN hB.2.1 mo hmo kmo 0 (by decide) (by decide) 0 (by decide) (by decide)) q_cX12_358 q_dX12_goesBoth (by decide) rfl rfl hl.1 rfl (Nat.le_of_ble_eq_true rfl) dX12_link_25 (fun y247 H locs f246 ry247 h248 hF hB => ?_)
      obtain ⟨qy247, z249⟩ := h248
      have z250 : q_z f246 mo 2 = 0 := (hF.z hmo (by rw [kmo]; rfl)).trans hf0
      have z251 : q_z f246 mo 8 = 0 := (hF.z hmo (by rw [kmo]; rfl)).trans hf1
      have z252 : q_z f246 mo 9 = (-1) := (hF.z hmo (by rw [kmo]; rfl)).trans hf2
      have z253 : q_z f246 mo 10 = 0 := (hF.z hmo (by rw [kmo]; rfl)).trans hf3
      have z254 : q_z f246 mo 11 = (-1) := (hF.z hmo (by rw [kmo]; rfl)).trans hf4
      have z255 : q_z f246 mo 21 = 0 := (hF.z hmo (by rw [kmo]; rfl)).trans hf5
      have z256 : q_z f246 mo 22 = 0 := (hF.z hmo (by rw [kmo]; rfl)).trans hf6
      have z257 : q_z f246 mo 40 = 0 := (hF.z hmo (by rw [kmo]; rfl)).trans hf7
      have z258 : q_z f246 sr 0 = 0 := (hF.z hsr (by rw [ksr]; rfl)).trans hf8
      have z259 : q_z f246 sr 1 = 0 := (hF.z hsr (by rw [ksr]; rfl)).trans hf9
      have z260 : q_z f246 sr 2 = 12 := (hF.z hsr (by rw [ksr]; rfl)).trans hf10
      have z261 : q_z f246 sr 3 = 0 := (hF.z hsr (by rw [ksr]; rfl)).trans hf11
      have z262 : q_z f246 sr 4 = 0 := (hF.z hsr (by rw [ksr]; rfl)).trans hf12
      have z263 : q_z f246 sr 5 = 1 := (hF.z hsr (by rw [ksr]; rfl)).trans hf13
      have z264 : q_z f246 sr 6 = 2 := (hF.z hsr (by rw [ksr]; rfl)).trans hf14
      have z265 : q_z f246 sr 7 = 5 := (hF.z hsr (by rw [ksr]; rfl)).trans hf15
      have z266 : q_z f246 sr 8 = 3 := (hF.z hsr (by rw [ksr]; rfl)).trans hf16
      have z267 : q_z f246 sr 9 = 0 := (hF.z hsr (by rw [ksr]; rfl)).trans hf17
      have z268 : q_r f246 mo 1 = bu := (hF.r hmo (by rw [kmo]; rfl)).trans hr0
      have z269 : q_r f246 mo 13 = sr := (hF.r hmo (by rw [kmo]; rfl)).trans hr1
      have z270 : q_r f246 mo 14 = sd := (hF.r hmo (by rw [kmo]; rfl)).trans hr2
      have z271 : q_r f246 mo 15 = as := (hF.r hmo (by rw [kmo]; rfl)).trans hr3
      have z272 : q_r f246 mo 16 = aw := (hF.r hmo (by rw [kmo]; rfl)).trans hr4
      have z273 : q_r f246 mo 17 = pa := (hF.r hmo (by rw [kmo]; rfl)).trans hr5
      have z274 : q_r f246 mo 18 = nm := (hF.r hmo (by rw [kmo]; rfl)).trans hr6
      have z275 : q_r f246 mo 19 = snm := (hF.r hmo (by rw [kmo]; rfl)).trans hr7
      have z276 : q_r f246 mo 20 = anm := (hF.r hmo (by rw [kmo]; rfl)).trans hr8
      subst qy247
      refine q_ifeq (tgt := 40) cx ⟨by decide, by decide⟩ dX12_link_28 (by decide) (fun c277 => ?_) (fun c277 => ?_)
      · refine q_iconst cx dX12_link_40 ?_
        refine q_iret cx hr hlk hB dX12_link_41 ⟨by decide, by decide⟩ ?_
        exact ⟨rfl, z249⟩
      · exact absurd c277 (by omega)
    · by_cases c278 : b0 ≤ 4
      · refine q_cSi (As := [.long (q_l b0), .long (q_l 0), .long (q_l 4)]) (rest := [.int (q_i 0), .ref mo]) cx hB (fun _ h => h) hN (r_isIn l g hN hB.2.1 b0 (by omega) (by omega) 0 (by decide) (by decide) 4 (by decide) (by decide)) q_cX12_93 q_dX12_isIn (by decide) rfl rfl hl.1 rfl (Nat.le_of_ble_eq_true rfl) dX12_link_22 (fun y280 H locs f279 ry280 h281 hF hB => ?_)
        obtain ⟨rfl, ly280, uy280, t282⟩ := h281
        obtain rfl : y280 = 1 := by omega
        refine q_cVi (As := [.int (q_i 0), .int (q_i 1)]) (rest := []) cx hB (fun _ h => h) hN hmo kmo (by decide) rfl (r_goesBoth0 l g hN hB.2.1 mo hmo kmo 0 (by decide) (by decide) 1 (by decide) (by decide)) q_cX12_358 q_dX12_goesBoth (by decide) rfl rfl hl.1 rfl (Nat.le_of_ble_eq_true rfl) dX12_link_25 (fun y284 H locs f283 ry284 h285 hF hB => ?_)
        obtain ⟨qy284, z286⟩ := h285
        have z287 : q_z f283 mo 2 = 0 := (hF.z hmo (by rw [kmo]; rfl)).trans hf0
        have z288 : q_z f283 mo 8 = 0 := (hF.z hmo (by rw [kmo]; rfl)).trans hf1
        have z289 : q_z f283 mo 9 = (-1) := (hF.z hmo (by rw [kmo]; rfl)).trans hf2
        have z290 : q_z f283 mo 10 = 0 := (hF.z hmo (by rw [kmo]; rfl)).trans hf3
        have z291 : q_z f283 mo 11 = (-1) := (hF.z hmo (by rw [kmo]; rfl)).trans hf4
        have z292 : q_z f283 mo 21 = 0 := (hF.z hmo (by rw [kmo]; rfl)).trans hf5
        have z293 : q_z f283 mo 22 = 0 := (hF.z hmo (by rw [kmo]; rfl)).trans hf6
        have z294 : q_z f283 mo 40 = 0 := (hF.z hmo (by rw [kmo]; rfl)).trans hf7
        have z295 : q_z f283 sr 0 = 0 := (hF.z hsr (by rw [ksr]; rfl)).trans hf8
        have z296 : q_z f283 sr 1 = 0 := (hF.z hsr (by rw [ksr]; rfl)).trans hf9
        have z297 : q_z f283 sr 2 = 12 := (hF.z hsr (by rw [ksr]; rfl)).trans hf10
        have z298 : q_z f283 sr 3 = 0 := (hF.z hsr (by rw [ksr]; rfl)).trans hf11
        have z299 : q_z f283 sr 4 = 0 := (hF.z hsr (by rw [ksr]; rfl)).trans hf12
        have z300 : q_z f283 sr 5 = 1 := (hF.z hsr (by rw [ksr]; rfl)).trans hf13
        have z301 : q_z f283 sr 6 = 2 := (hF.z hsr (by rw [ksr]; rfl)).trans hf14
        have z302 : q_z f283 sr 7 = 5 := (hF.z hsr (by rw [ksr]; rfl)).trans hf15
        have z303 : q_z f283 sr 8 = 3 := (hF.z hsr (by rw [ksr]; rfl)).trans hf16
        have z304 : q_z f283 sr 9 = 0 := (hF.z hsr (by rw [ksr]; rfl)).trans hf17
        have z305 : q_r f283 mo 1 = bu := (hF.r hmo (by rw [kmo]; rfl)).trans hr0
        have z306 : q_r f283 mo 13 = sr := (hF.r hmo (by rw [kmo]; rfl)).trans hr1
        have z307 : q_r f283 mo 14 = sd := (hF.r hmo (by rw [kmo]; rfl)).trans hr2
        have z308 : q_r f283 mo 15 = as := (hF.r hmo (by rw [kmo]; rfl)).trans hr3
        have z309 : q_r f283 mo 16 = aw := (hF.r hmo (by rw [kmo]; rfl)).trans hr4
        have z310 : q_r f283 mo 17 = pa := (hF.r hmo (by rw [kmo]; rfl)).trans hr5
        have z311 : q_r f283 mo 18 = nm := (hF.r hmo (by rw [kmo]; rfl)).trans hr6
        have z312 : q_r f283 mo 19 = snm := (hF.r hmo (by rw [kmo]; rfl)).trans hr7
        have z313 : q_r f283 mo 20 = anm := (hF.r hmo (by rw [kmo]; rfl)).trans hr8
        subst qy284
        refine q_ifeq (tgt := 40) cx ⟨by decide, by decide⟩ dX12_link_28 (by decide) (fun c314 => ?_) (fun c314 => ?_)
        · refine q_iconst cx dX12_link_40 ?_
          refine q_iret cx hr hlk hB dX12_link_41 ⟨by decide, by decide⟩ ?_
          exact ⟨rfl, z286⟩
        · exact absurd c314 (by omega)
      · refine q_cSi (As := [.long (q_l b0), .long (q_l 0), .long (q_l 4)]) (rest := [.int (q_i 0), .ref mo]) cx hB (fun _ h => h) hN (r_isIn l g hN hB.2.1 b0 (by omega) (by omega) 0 (by decide) (by decide) 4 (by decide) (by decide)) q_cX12_93 q_dX12_isIn (by decide) rfl rfl hl.1 rfl (Nat.le_of_ble_eq_true rfl) dX12_link_22 (fun y316 H locs f315 ry316 h317 hF hB => ?_)
        obtain ⟨rfl, ly316, uy316, t318⟩ := h317
        obtain rfl : y316 = 0 := by omega
        refine q_cVi (As := [.int (q_i 0), .int (q_i 0)]) (rest := []) cx hB (fun _ h => h) hN hmo kmo (by decide) rfl (r_goesBoth0 l g hN hB.2.1 mo hmo kmo 0 (by decide) (by decide) 0 (by decide) (by decide)) q_cX12_358 q_dX12_goesBoth (by decide) rfl rfl hl.1 rfl (Nat.le_of_ble_eq_true rfl) dX12_link_25 (fun y320 H locs f319 ry320 h321 hF hB => ?_)
        obtain ⟨qy320, z322⟩ := h321
        have z323 : q_z f319 mo 2 = 0 := (hF.z hmo (by rw [kmo]; rfl)).trans hf0
        have z324 : q_z f319 mo 8 = 0 := (hF.z hmo (by rw [kmo]; rfl)).trans hf1
        have z325 : q_z f319 mo 9 = (-1) := (hF.z hmo (by rw [kmo]; rfl)).trans hf2
        have z326 : q_z f319 mo 10 = 0 := (hF.z hmo (by rw [kmo]; rfl)).trans hf3
        have z327 : q_z f319 mo 11 = (-1) := (hF.z hmo (by rw [kmo]; rfl)).trans hf4
        have z328 : q_z f319 mo 21 = 0 := (hF.z hmo (by rw [kmo]; rfl)).trans hf5
        have z329 : q_z f319 mo 22 = 0 := (hF.z hmo (by rw [kmo]; rfl)).trans hf6
        have z330 : q_z f319 mo 40 = 0 := (hF.z hmo (by rw [kmo]; rfl)).trans hf7
        have z331 : q_z f319 sr 0 = 0 := (hF.z hsr (by rw [ksr]; rfl)).trans hf8
        have z332 : q_z f319 sr 1 = 0 := (hF.z hsr (by rw [ksr]; rfl)).trans hf9
        have z333 : q_z f319 sr 2 = 12 := (hF.z hsr (by rw [ksr]; rfl)).trans hf10
        have z334 : q_z f319 sr 3 = 0 := (hF.z hsr (by rw [ksr]; rfl)).trans hf11
        have z335 : q_z f319 sr 4 = 0 := (hF.z hsr (by rw [ksr]; rfl)).trans hf12
        have z336 : q_z f319 sr 5 = 1 := (hF.z hsr (by rw [ksr]; rfl)).trans hf13
        have z337 : q_z f319 sr 6 = 2 := (hF.z hsr (by rw [ksr]; rfl)).trans hf14
        have z338 : q_z f319 sr 7 = 5 := (hF.z hsr (by rw [ksr]; rfl)).trans hf15
        have z339 : q_z f319 sr 8 = 3 := (hF.z hsr (by rw [ksr]; rfl)).trans hf16
        have z340 : q_z f319 sr 9 = 0 := (hF.z hsr (by rw [ksr]; rfl)).trans hf17
        have z341 : q_r f319 mo 1 = bu := (hF.r hmo (by rw [kmo]; rfl)).trans hr0
        have z342 : q_r f319 mo 13 = sr := (hF.r hmo (by rw [kmo]; rfl)).trans hr1
        have z343 : q_r f319 mo 14 = sd := (hF.r hmo (by rw [kmo]; rfl)).trans hr2
        have z344 : q_r f319 mo 15 = as := (hF.r hmo (by rw [kmo]; rfl)).trans hr3
        have z345 : q_r f319 mo 16 = aw := (hF.r hmo (by rw [kmo]; rfl)).trans hr4
        have z346 : q_r f319 mo 17 = pa := (hF.r hmo (by rw [kmo]; rfl)).trans hr5
        have z347 : q_r f319 mo 18 = nm := (hF.r hmo (by rw [kmo]; rfl)).trans hr6
        have z348 : q_r f319 mo 19 = snm := (hF.r hmo (by rw [kmo]; rfl)).trans hr7
        have z349 : q_r f319 mo 20 = anm := (hF.r hmo (by rw [kmo]; rfl)).trans hr8
        subst qy320
        refine q_ifeq (tgt := 40) cx ⟨by decide, by decide⟩ dX12_link_28 (by decide) (fun c350 => ?_) (fun c350 => ?_)
        · refine q_iconst cx dX12_link_40 ?_
          refine q_iret cx hr hlk hB dX12_link_41 ⟨by decide, by decide⟩ ?_
          exact ⟨rfl, z322⟩
        · exact absurd c350 (by omega)
  · refine q_cSi (As := [.long (q_l a0), .long (q_l 0), .long (q_l (0 - 1))]) (rest := [.ref mo]) cx hB (fun _ h => h) hN (r_isIn l g hN hB.2.1 a0 (by omega) (by omega) 0 (by decide) (by decide) (0 - 1) (by decide) (by decide)) q_cX12_93 q_dX12_isIn (by decide) rfl rfl hl.1 rfl (Nat.le_of_ble_eq_true rfl) dX12_link_13 (fun y352 H locs f351 ry352 h353 hF hB => ?_)
    obtain ⟨rfl, ly352, uy352, t354⟩ := h353
    obtain rfl : y352 = 0 := by omega
    refine q_ild_n cx dX12_link_16 rfl (lv_at hl 2 rfl) ?_
    refine q_i2l cx ⟨by omega, by omega⟩ dX12_link_17 ?_
    refine q_lconst (z := 0) cx (by decide) dX12_link_18 ?_
    refine lv_ldc2 (v := q_l 4) cx.1 cx.2.1 cx.2.2.2.1 (cx.2.2.2.2 _ q_h1936) dX12_link_19 ?_
    by_cases c355 : b0 ≤ (-1)
    · refine q_cSi (As := [.long (q_l b0), .long (q_l 0), .long (q_l 4)]) (rest := [.int (q_i 0), .ref mo]) cx hB (fun _ h => h) hN (r_isIn l g hN hB.2.1 b0 (by omega) (by omega) 0 (by decide) (by decide) 4 (by decide) (by decide)) q_cX12_93 q_dX12_isIn (by decide) rfl rfl hl.1 rfl (Nat.le_of_ble_eq_true rfl) dX12_link_22 (fun y357 H locs f356 ry357 h358 hF hB => ?_)
      obtain ⟨rfl, ly357, uy357, t359⟩ := h358
      obtain rfl : y357 = 0 := by omega
      refine q_cVi (As := [.int (q_i 0), .int (q_i 0)]) (rest := []) cx hB (fun _ h => h) hN hmo kmo (by decide) rfl (r_goesBoth0 l g hN hB.2.1 mo hmo kmo 0 (by decide) (by decide) 0 (by decide) (by decide)) q_cX12_358 q_dX12_goesBoth (by decide) rfl rfl hl.1 rfl (Nat.le_of_ble_eq_true rfl) dX12_link_25 (fun y361 H locs f360 ry361 h362 hF hB => ?_)
      obtain ⟨qy361, z363⟩ := h362
      have z364 : q_z f360 mo 2 = 0 := (hF.z hmo (by rw [kmo]; rfl)).trans hf0
      have z365 : q_z f360 mo 8 = 0 := (hF.z hmo (by rw [kmo]; rfl)).trans hf1
      have z366 : q_z f360 mo 9 = (-1) := (hF.z hmo (by rw [kmo]; rfl)).trans hf2
      have z367 : q_z f360 mo 10 = 0 := (hF.z hmo (by rw [kmo]; rfl)).trans hf3
      have z368 : q_z f360 mo 11 = (-1) := (hF.z hmo (by rw [kmo]; rfl)).trans hf4
      have z369 : q_z f360 mo 21 = 0 := (hF.z hmo (by rw [kmo]; rfl)).trans hf5
      have z370 : q_z f360 mo 22 = 0 := (hF.z hmo (by rw [kmo]; rfl)).trans hf6
      have z371 : q_z f360 mo 40 = 0 := (hF.z hmo (by rw [kmo]; rfl)).trans hf7
      have z372 : q_z f360 sr 0 = 0 := (hF.z hsr (by rw [ksr]; rfl)).trans hf8
      have z373 : q_z f360 sr 1 = 0 := (hF.z hsr (by rw [ksr]; rfl)).trans hf9
      have z374 : q_z f360 sr 2 = 12 := (hF.z hsr (by rw [ksr]; rfl)).trans hf10
      have z375 : q_z f360 sr 3 = 0 := (hF.z hsr (by rw [ksr]; rfl)).trans hf11
      have z376 : q_z f360 sr 4 = 0 := (hF.z hsr (by rw [ksr]; rfl)).trans hf12
      have z377 : q_z f360 sr 5 = 1 := (hF.z hsr (by rw [ksr]; rfl)).trans hf13
      have z378 : q_z f360 sr 6 = 2 := (hF.z hsr (by rw [ksr]; rfl)).trans hf14
      have z379 : q_z f360 sr 7 = 5 := (hF.z hsr (by rw [ksr]; rfl)).trans hf15
      have z380 : q_z f360 sr 8 = 3 := (hF.z hsr (by rw [ksr]; rfl)).trans hf16
      have z381 : q_z f360 sr 9 = 0 := (hF.z hsr (by rw [ksr]; rfl)).trans hf17
      have z382 : q_r f360 mo 1 = bu := (hF.r hmo (by rw [kmo]; rfl)).trans hr0
      have z383 : q_r f360 mo 13 = sr := (hF.r hmo (by rw [kmo]; rfl)).trans hr1
      have z384 : q_r f360 mo 14 = sd := (hF.r hmo (by rw [kmo]; rfl)).trans hr2
      have z385 : q_r f360 mo 15 = as := (hF.r hmo (by rw [kmo]; rfl)).trans hr3
      have z386 : q_r f360 mo 16 = aw := (hF.r hmo (by rw [kmo]; rfl)).trans hr4
      have z387 : q_r f360 mo 17 = pa := (hF.r hmo (by rw [kmo]; rfl)).trans hr5
      have z388 : q_r f360 mo 18 = nm := (hF.r hmo (by rw [kmo]; rfl)).trans hr6
      have z389 : q_r f360 mo 19 = snm := (hF.r hmo (by rw [kmo]; rfl)).trans hr7
      have z390 : q_r f360 mo 20 = anm := (hF.r hmo (by rw [kmo]; rfl)).trans hr8
      subst qy361
      refine q_ifeq (tgt := 40) cx ⟨by decide, by decide⟩ dX12_link_28 (by decide) (fun c391 => ?_) (fun c391 => ?_)
      · refine q_iconst cx dX12_link_40 ?_
        refine q_iret cx hr hlk hB dX12_link_41 ⟨by decide, by decide⟩ ?_
        exact ⟨rfl, z363⟩
      · exact absurd c391 (by omega)
    · by_cases c392 : b0 ≤ 4
      · refine q_cSi (As := [.long (q_l b0), .long (q_l 0), .long (q_l 4)]) (rest := [.int (q_i 0), .ref mo]) cx hB (fun _ h => h) hN (r_isIn l g hN hB.2.1 b0 (by omega) (by omega) 0 (by decide) (by decide) 4 (by decide) (by decide)) q_cX12_93 q_dX12_isIn (by decide) rfl rfl hl.1 rfl (Nat.le_of_ble_eq_true rfl) dX12_link_22 (fun y394 H locs f393 ry394 h395 hF hB => ?_)
        obtain ⟨rfl, ly394, uy394, t396⟩ := h395
        obtain rfl : y394 = 1 := by omega
        refine q_cVi (As := [.int (q_i 0), .int (q_i 1)]) (rest := []) cx hB (fun _ h => h) hN hmo kmo (by decide) rfl (r_goesBoth0 l g hN hB.2.1 mo hmo kmo 0 (by decide) (by decide) 1 (by decide) (by decide)) q_cX12_358 q_dX12_goesBoth (by decide) rfl rfl hl.1 rfl (Nat.le_of_ble_eq_true rfl) dX12_link_25 (fun y398 H locs f397 ry398 h399 hF hB => ?_)
        obtain ⟨qy398, z400⟩ := h399
        have z401 : q_z f397 mo 2 = 0 := (hF.z hmo (by rw [kmo]; rfl)).trans hf0
        have z402 : q_z f397 mo 8 = 0 := (hF.z hmo (by rw [kmo]; rfl)).trans hf1
        have z403 : q_z f397 mo 9 = (-1) := (hF.z hmo (by rw [kmo]; rfl)).trans hf2
        have z404 : q_z f397 mo 10 = 0 := (hF.z hmo (by rw [kmo]; rfl)).trans hf3
        have z405 : q_z f397 mo 11 = (-1) := (hF.z hmo (by rw [kmo]; rfl)).trans hf4
        have z406 : q_z f397 mo 21 = 0 := (hF.z hmo (by rw [kmo]; rfl)).trans hf5
        have z407 : q_z f397 mo 22 = 0 := (hF.z hmo (by rw [kmo]; rfl)).trans hf6
        have z408 : q_z f397 mo 40 = 0 := (hF.z hmo (by rw [kmo]; rfl)).trans hf7
        have z409 : q_z f397 sr 0 = 0 := (hF.z hsr (by rw [ksr]; rfl)).trans hf8
        have z410 : q_z f397 sr 1 = 0 := (hF.z hsr (by rw [ksr]; rfl)).trans hf9
        have z411 : q_z f397 sr 2 = 12 := (hF.z hsr (by rw [ksr]; rfl)).trans hf10
        have z412 : q_z f397 sr 3 = 0 := (hF.z hsr (by rw [ksr]; rfl)).trans hf11
        have z413 : q_z f397 sr 4 = 0 := (hF.z hsr (by rw [ksr]; rfl)).trans hf12
        have z414 : q_z f397 sr 5 = 1 := (hF.z hsr (by rw [ksr]; rfl)).trans hf13
        have z415 : q_z f397 sr 6 = 2 := (hF.z hsr (by rw [ksr]; rfl)).trans hf14
        have z416 : q_z f397 sr 7 = 5 := (hF.z hsr (by rw [ksr]; rfl)).trans hf15
        have z417 : q_z f397 sr 8 = 3 := (hF.z hsr (by rw [ksr]; rfl)).trans hf16
        have z418 : q_z f397 sr 9 = 0 := (hF.z hsr (by rw [ksr]; rfl)).trans hf17
        have z419 : q_r f397 mo 1 = bu := (hF.r hmo (by rw [kmo]; rfl)).trans hr0
        have z420 : q_r f397 mo 13 = sr := (hF.r hmo (by rw [kmo]; rfl)).trans hr1
        have z421 : q_r f397 mo 14 = sd := (hF.r hmo (by rw [kmo]; rfl)).trans hr2
        have z422 : q_r f397 mo 15 = as := (hF.r hmo (by rw [kmo]; rfl)).trans hr3
        have z423 : q_r f397 mo 16 = aw := (hF.r hmo (by rw [kmo]; rfl)).trans hr4
        have z424 : q_r f397 mo 17 = pa := (hF.r hmo (by rw [kmo]; rfl)).trans hr5
        have z425 : q_r f397 mo 18 = nm := (hF.r hmo (by rw [kmo]; rfl)).trans hr6
        have z426 : q_r f397 mo 19 = snm := (hF.r hmo (by rw [kmo]; rfl)).trans hr7
        have z427 : q_r f397 mo 20 = anm := (hF.r hmo (by rw [kmo]; rfl)).trans hr8
        subst qy398
        refine q_ifeq (tgt := 40) cx ⟨by decide, by decide⟩ dX12_link_28 (by decide) (fun c428 => ?_) (fun c428 => ?_)
        · refine q_iconst cx dX12_link_40 ?_
          refine q_iret cx hr hlk hB dX12_link_41 ⟨by decide, by decide⟩ ?_
          exact ⟨rfl, z400⟩
        · exact absurd c428 (by omega)
      · refine q_cSi (As := [.long (q_l b0), .long (q_l 0), .long (q_l 4)]) (rest := [.int (q_i 0), .ref mo]) cx hB (fun _ h => h) hN (r_isIn l g hN hB.2.1 b0 (by omega) (by omega) 0 (by decide) (by decide) 4 (by decide) (by decide)) q_cX12_93 q_dX12_isIn (by decide) rfl rfl hl.1 rfl (Nat.le_of_ble_eq_true rfl) dX12_link_22 (fun y430 H locs f429 ry430 h431 hF hB => ?_)
        obtain ⟨rfl, ly430, uy430, t432⟩ := h431
        obtain rfl : y430 = 0 := by omega
        refine q_cVi (As := [.int (q_i 0), .int (q_i 0)]) (rest := []) cx hB (fun _ h => h) hN hmo kmo (by decide) rfl (r_goesBoth0 l g hN hB.2.1 mo hmo kmo 0 (by decide) (by decide) 0 (by decide) (by decide)) q_cX12_358 q_dX12_goesBoth (by decide) rfl rfl hl.1 rfl (Nat.le_of_ble_eq_true rfl) dX12_link_25 (fun y434 H locs f433 ry434 h435 hF hB => ?_)
        obtain ⟨qy434, z436⟩ := h435
        have z437 : q_z f433 mo 2 = 0 := (hF.z hmo (by rw [kmo]; rfl)).trans hf0
        have z438 : q_z f433 mo 8 = 0 := (hF.z hmo (by rw [kmo]; rfl)).trans hf1
        have z439 : q_z f433 mo 9 = (-1) := (hF.z hmo (by rw [kmo]; rfl)).trans hf2
        have z440 : q_z f433 mo 10 = 0 := (hF.z hmo (by rw [kmo]; rfl)).trans hf3
        have z441 : q_z f433 mo 11 = (-1) := (hF.z hmo (by rw [kmo]; rfl)).trans hf4
        have z442 : q_z f433 mo 21 = 0 := (hF.z hmo (by rw [kmo]; rfl)).trans hf5
        have z443 : q_z f433 mo 22 = 0 := (hF.z hmo (by rw [kmo]; rfl)).trans hf6
        have z444 : q_z f433 mo 40 = 0 := (hF.z hmo (by rw [kmo]; rfl)).trans hf7
        have z445 : q_z f433 sr 0 = 0 := (hF.z hsr (by rw [ksr]; rfl)).trans hf8
        have z446 : q_z f433 sr 1 = 0 := (hF.z hsr (by rw [ksr]; rfl)).trans hf9
        have z447 : q_z f433 sr 2 = 12 := (hF.z hsr (by rw [ksr]; rfl)).trans hf10
        have z448 : q_z f433 sr 3 = 0 := (hF.z hsr (by rw [ksr]; rfl)).trans hf11
        have z449 : q_z f433 sr 4 = 0 := (hF.z hsr (by rw [ksr]; rfl)).trans hf12
        have z450 : q_z f433 sr 5 = 1 := (hF.z hsr (by rw [ksr]; rfl)).trans hf13
        have z451 : q_z f433 sr 6 = 2 := (hF.z hsr (by rw [ksr]; rfl)).trans hf14
        have z452 : q_z f433 sr 7 = 5 := (hF.z hsr (by rw [ksr]; rfl)).trans hf15
        have z453 : q_z f433 sr 8 = 3 := (hF.z hsr (by rw [ksr]; rfl)).trans hf16
        have z454 : q_z f433 sr 9 = 0 := (hF.z hsr (by rw [ksr]; rfl)).trans hf17
        have z455 : q_r f433 mo 1 = bu := (hF.r hmo (by rw [kmo]; rfl)).trans hr0
        have z456 : q_r f433 mo 13 = sr := (hF.r hmo (by rw [kmo]; rfl)).trans hr1
        have z457 : q_r f433 mo 14 = sd := (hF.r hmo (by rw [kmo]; rfl)).trans hr2
        have z458 : q_r f433 mo 15 = as := (hF.r hmo (by rw [kmo]; rfl)).trans hr3
        have z459 : q_r f433 mo 16 = aw := (hF.r hmo (by rw [kmo]; rfl)).trans hr4
        have z460 : q_r f433 mo 17 = pa := (hF.r hmo (by rw [kmo]; rfl)).trans hr5
        have z461 : q_r f433 mo 18 = nm := (hF.r hmo (by rw [kmo]; rfl)).trans hr6
        have z462 : q_r f433 mo 19 = snm := (hF.r hmo (by rw [kmo]; rfl)).trans hr7
        have z463 : q_r f433 mo 20 = anm := (hF.r hmo (by rw [kmo]; rfl)).trans hr8
        subst qy434
        refine q_ifeq (tgt := 40) cx ⟨by decide, by decide⟩ dX12_link_28 (by decide) (fun c464 => ?_) (fun c464 => ?_)
        · refine q_iconst cx dX12_link_40 ?_
          refine q_iret cx hr hlk hB dX12_link_41 ⟨by decide, by decide⟩ ?_
          exact ⟨rfl, z436⟩
        · exact absurd c464 (by omega)
set_option maxHeartbeats 4000000 in
set_option maxRecDepth 100000 in
theorem p_reportByte (l : Launch) (g : q_G) {K : Nat → Nat} {L : List Nat} (hN : L.Nodup) {f : Nat → va_E} (hT : q_Ty g K L f) (mo : Nat) (hmo : mo ∈ L) (kmo : K mo = 12) (a0 : Int) (la0 : (-2147483648) ≤ a0) (ua0 : a0 ≤ 2147483647) (bu : Nat) (hbu : bu ∈ L) (kbu : K bu = 150) (sr : Nat) (hsr : sr ∈ L) (ksr : K sr = 151) (sd : Nat) (hsd : sd ∈ L) (ksd : K sd = 152) (as : Nat) (has : as ∈ L) (kas : K as = 153) (aw : Nat) (haw : aw ∈ L) (kaw : K aw = 154) (pa : Nat) (hpa : pa ∈ L) (kpa : K pa = 155) (nm : Nat) (hnm : nm ∈ L) (knm : K nm = 156) (snm : Nat) (hsnm : snm ∈ L) (ksnm : K snm = 157) (anm : Nat) (hanm : anm ∈ L) (kanm : K anm = 158) (hf0 : q_z f mo 2 = 0) (hf1 : q_z f mo 8 = 0) (hf2 : q_z f mo 9 = (-1)) (hf3 : q_z f mo 10 = 0) (hf4 : q_z f mo 11 = (-1)) (hf5 : q_z f mo 21 = 0) (hf6 : q_z f mo 22 = 0) (hf7 : q_z f mo 40 = 0) (hf8 : q_z f sr 0 = 0) (hf9 : q_z f sr 1 = 0) (hf10 : q_z f sr 2 = 12) (hf11 : q_z f sr 3 = 0) (hf12 : q_z f sr 4 = 0) (hf13 : q_z f sr 5 = 1) (hf14 : q_z f sr 6 = 2) (hf15 : q_z f sr 7 = 5) (hf16 : q_z f sr 8 = 3) (hf17 : q_z f sr 9 = 0) (hr0 : q_r f mo 1 = bu) (hr1 : q_r f mo 13 = sr) (hr2 : q_r f mo 14 = sd) (hr3 : q_r f mo 15 = as) (hr4 : q_r f mo 16 = aw) (hr5 : q_r f mo 17 = pa) (hr6 : q_r f mo 18 = nm) (hr7 : q_r f mo 19 = snm) (hr8 : q_r f mo 20 = anm) : q_Ct l g K L yX12_reportByte cX12_reportByte 2 (some .int) 2 41 [.ref mo, .int (q_i a0)] f [(12, 0, 40), (150, 0, 599), (151, 0, 657), (152, 0, 657), (153, 0, 657), (154, 0, 657), (155, 0, 3947), (156, 0, 9), (157, 0, 9), (158, 0, 9)] (q_Pi (fun (z : Int) (f1 : Nat → va_E) => z = 0 ∧ q_z f1 mo 0 = 1)) := by
  refine q_ofb (by decide +kernel) hN hT (Nat.le_of_ble_eq_true rfl) ?_
  intro p e s m below meth c ls cx hr hlk hB hl
  have hl : lv_has ls 2 [(0, .ref mo), (1, .int (q_i a0))] := hl
  obtain ⟨H, hH⟩ : ∃ H : Heap, H = s.heap := ⟨_, rfl⟩
  obtain ⟨locs, hlocs⟩ : ∃ z : List Loc, z = [] := ⟨_, rfl⟩
  rw [← hH, ← hlocs] at hB
  rw [← hH, ← hlocs]
  refine q_ald_n cx dX12_reportByte_0 rfl (lv_at hl 0 rfl) ?_
  refine q_ald_n cx dX12_reportByte_1 rfl (lv_at hl 0 rfl) ?_
  refine q_gX12_524 cx hB hmo kmo hf7 dX12_reportByte_2 (fun lb35 ub35 => ?_)
  refine q_ifeq (tgt := 28) cx ⟨by decide, by decide⟩ dX12_reportByte_5 (by decide) (fun c36 => ?_) (fun c36 => ?_)
  · refine q_iconst cx dX12_reportByte_28 ?_
    refine q_cVi (As := [.int (q_i 0)]) (rest := []) cx hB (fun _ h => h) hN hmo kmo (by decide) rfl (r_goes0 l g hN hB.2.1 mo hmo kmo 0 (by decide) (by decide)) q_cX12_85 q_dX12_goes (by decide) rfl rfl hl.1 rfl (Nat.le_of_ble_eq_true rfl) dX12_reportByte_29 (fun y38 H locs f37 ry38 h39 hF hB => ?_)
    obtain ⟨qy38, z40⟩ := h39
    have z41 : q_z f37 mo 2 = 0 := (hF.z hmo (by rw [kmo]; rfl)).trans hf0
    have z42 : q_z f37 mo 8 = 0 := (hF.z hmo (by rw [kmo]; rfl)).trans hf1
    have z43 : q_z f37 mo 9 = (-1) := (hF.z hmo (by rw [kmo]; rfl)).trans hf2
    have z44 : q_z f37 mo 10 = 0 := (hF.z hmo (by rw [kmo]; rfl)).trans hf3
    have z45 : q_z f37 mo 11 = (-1) := (hF.z hmo (by rw [kmo]; rfl)).trans hf4
    have z46 : q_z f37 mo 21 = 0 := (hF.z hmo (by rw [kmo]; rfl)).trans hf5
    have z47 : q_z f37 mo 22 = 0 := (hF.z hmo (by rw [kmo]; rfl)).trans hf6
    have z48 : q_z f37 mo 40 = 0 := (hF.z hmo (by rw [kmo]; rfl)).trans hf7
    have z49 : q_z f37 sr 0 = 0 := (hF.z hsr (by rw [ksr]; rfl)).trans hf8
    have z50 : q_z f37 sr 1 = 0 := (hF.z hsr (by rw [ksr]; rfl)).trans hf9
    have z51 : q_z f37 sr 2 = 12 := (hF.z hsr (by rw [ksr]; rfl)).trans hf10
    have z52 : q_z f37 sr 3 = 0 := (hF.z hsr (by rw [ksr]; rfl)).trans hf11
    have z53 : q_z f37 sr 4 = 0 := (hF.z hsr (by rw [ksr]; rfl)).trans hf12
    have z54 : q_z f37 sr 5 = 1 := (hF.z hsr (by rw [ksr]; rfl)).trans hf13
    have z55 : q_z f37 sr 6 = 2 := (hF.z hsr (by rw [ksr]; rfl)).trans hf14
    have z56 : q_z f37 sr 7 = 5 := (hF.z hsr (by rw [ksr]; rfl)).trans hf15
    have z57 : q_z f37 sr 8 = 3 := (hF.z hsr (by rw [ksr]; rfl)).trans hf16
    have z58 : q_z f37 sr 9 = 0 := (hF.z hsr (by rw [ksr]; rfl)).trans hf17
    have z59 : q_r f37 mo 1 = bu := (hF.r hmo (by rw [kmo]; rfl)).trans hr0
    have z60 : q_r f37 mo 13 = sr := (hF.r hmo (by rw [kmo]; rfl)).trans hr1
    have z61 : q_r f37 mo 14 = sd := (hF.r hmo (by rw [kmo]; rfl)).trans hr2
    have z62 : q_r f37 mo 15 = as := (hF.r hmo (by rw [kmo]; rfl)).trans hr3
    have z63 : q_r f37 mo 16 = aw := (hF.r hmo (by rw [kmo]; rfl)).trans hr4
    have z64 : q_r f37 mo 17 = pa := (hF.r hmo (by rw [kmo]; rfl)).trans hr5
    have z65 : q_r f37 mo 18 = nm := (hF.r hmo (by rw [kmo]; rfl)).trans hr6
    have z66 : q_r f37 mo 19 = snm := (hF.r hmo (by rw [kmo]; rfl)).trans hr7
    have z67 : q_r f37 mo 20 = anm := (hF.r hmo (by rw [kmo]; rfl)).trans hr8
    subst qy38
    refine q_ifeq (tgt := 44) cx ⟨by decide, by decide⟩ dX12_reportByte_32 (by decide) (fun c68 => ?_) (fun c68 => ?_)
    · refine q_iconst cx dX12_reportByte_44 ?_
      refine q_iret cx hr hlk hB dX12_reportByte_45 ⟨by decide, by decide⟩ ?_
      exact ⟨rfl, z40⟩
    · exact absurd c68 (by omega)
  · exact absurd c36 (by omega)
set_option maxHeartbeats 4000000 in
set_option maxRecDepth 100000 in
theorem p_meanEnergy (l : Launch) (g : q_G) {K : Nat → Nat} {L : List Nat} (hN : L.Nodup) {f : Nat → va_E} (hT : q_Ty g K L f) (mo : Nat) (hmo : mo ∈ L) (kmo : K mo = 12) (bu : Nat) (hbu : bu ∈ L) (kbu : K bu = 150) (sr : Nat) (hsr : sr ∈ L) (ksr : K sr = 151) (sd : Nat) (hsd : sd ∈ L) (ksd : K sd = 152) (as : Nat) (has : as ∈ L) (kas : K as = 153) (aw : Nat) (haw : aw ∈ L) (kaw : K aw = 154) (pa : Nat) (hpa : pa ∈ L) (kpa : K pa = 155) (nm : Nat) (hnm : nm ∈ L) (knm : K nm = 156) (snm : Nat) (hsnm : snm ∈ L) (ksnm : K snm = 157) (anm : Nat) (hanm : anm ∈ L) (kanm : K anm = 158) (hf0 : q_z f mo 2 = 0) (hf1 : q_z f mo 8 = 0) (hf2 : q_z f mo 9 = (-1)) (hf3 : q_z f mo 10 = 0) (hf4 : q_z f mo 11 = (-1)) (hf5 : q_z f mo 21 = 0) (hf6 : q_z f mo 22 = 0) (hf7 : q_z f mo 40 = 0) (hf8 : q_z f sr 0 = 0) (hf9 : q_z f sr 1 = 0) (hf10 : q_z f sr 2 = 12) (hf11 : q_z f sr 3 = 0) (hf12 : q_z f sr 4 = 0) (hf13 : q_z f sr 5 = 1) (hf14 : q_z f sr 6 = 2) (hf15 : q_z f sr 7 = 5) (hf16 : q_z f sr 8 = 3) (hf17 : q_z f sr 9 = 0) (hr0 : q_r f mo 1 = bu) (hr1 : q_r f mo 13 = sr) (hr2 : q_r f mo 14 = sd) (hr3 : q_r f mo 15 = as) (hr4 : q_r f mo 16 = aw) (hr5 : q_r f mo 17 = pa) (hr6 : q_r f mo 18 = nm) (hr7 : q_r f mo 19 = snm) (hr8 : q_r f mo 20 = anm) : q_Ct l g K L yX12_meanEnergy cX12_meanEnergy 3 (some .double) 0 0 [.ref mo] f [(12, 0, 40), (150, 0, 599), (151, 0, 657), (152, 0, 657), (153, 0, 657), (154, 0, 657), (155, 0, 3947), (156, 0, 9), (157, 0, 9), (158, 0, 9)] (q_Pd (fun (z : UInt64) (f1 : Nat → va_E) => z = 0 ∧ q_z f1 mo 0 = 0)) := by
  refine q_ofb (by decide +kernel) hN hT (Nat.le_of_ble_eq_true rfl) ?_
  intro p e s m below meth c ls cx hr hlk hB hl
  have hl : lv_has ls 3 [(0, .ref mo)] := hl
  obtain ⟨H, hH⟩ : ∃ H : Heap, H = s.heap := ⟨_, rfl⟩
  obtain ⟨locs, hlocs⟩ : ∃ z : List Loc, z = [] := ⟨_, rfl⟩
  rw [← hH, ← hlocs] at hB
  rw [← hH, ← hlocs]
  refine q_ald_n cx dX12_meanEnergy_0 rfl (lv_at hl 0 rfl) ?_
  refine q_iconst cx dX12_meanEnergy_1 ?_
  refine q_pX12_75 cx hB hmo kmo ⟨by decide, by decide⟩ (by decide) (by decide) rfl dX12_meanEnergy_2 (fun H locs f38 ef38 z39 hB => ?_)
  have z40 : q_z f38 mo 2 = 0 := by rw [ef38, q_setz (Or.inr (by decide))]; exact hf0
  have z41 : q_z f38 mo 8 = 0 := by rw [ef38, q_setz (Or.inr (by decide))]; exact hf1
  have z42 : q_z f38 mo 9 = (-1) := by rw [ef38, q_setz (Or.inr (by decide))]; exact hf2
  have z43 : q_z f38 mo 10 = 0 := by rw [ef38, q_setz (Or.inr (by decide))]; exact hf3
  have z44 : q_z f38 mo 11 = (-1) := by rw [ef38, q_setz (Or.inr (by decide))]; exact hf4
  have z45 : q_z f38 mo 21 = 0 := by rw [ef38, q_setz (Or.inr (by decide))]; exact hf5
  have z46 : q_z f38 mo 22 = 0 := by rw [ef38, q_setz (Or.inr (by decide))]; exact hf6
  have z47 : q_z f38 mo 40 = 0 := by rw [ef38, q_setz (Or.inr (by decide))]; exact hf7
  have z48 : q_z f38 sr 0 = 0 := by rw [ef38, q_setz (Or.inl (fun q => by rw [q, kmo] at ksr; exact absurd ksr (by decide)))]; exact hf8
  have z49 : q_z f38 sr 1 = 0 := by rw [ef38, q_setz (Or.inr (by decide))]; exact hf9
  have z50 : q_z f38 sr 2 = 12 := by rw [ef38, q_setz (Or.inr (by decide))]; exact hf10
  have z51 : q_z f38 sr 3 = 0 := by rw [ef38, q_setz (Or.inr (by decide))]; exact hf11
  have z52 : q_z f38 sr 4 = 0 := by rw [ef38, q_setz (Or.inr (by decide))]; exact hf12
  have z53 : q_z f38 sr 5 = 1 := by rw [ef38, q_setz (Or.inr (by decide))]; exact hf13
  have z54 : q_z f38 sr 6 = 2 := by rw [ef38, q_setz (Or.inr (by decide))]; exact hf14
  have z55 : q_z f38 sr 7 = 5 := by rw [ef38, q_setz (Or.inr (by decide))]; exact hf15
  have z56 : q_z f38 sr 8 = 3 := by rw [ef38, q_setz (Or.inr (by decide))]; exact hf16
  have z57 : q_z f38 sr 9 = 0 := by rw [ef38, q_setz (Or.inr (by decide))]; exact hf17
  have z58 : q_r f38 mo 1 = bu := by rw [ef38, q_setr (Or.inr (by decide))]; exact hr0
  have z59 : q_r f38 mo 13 = sr := by rw [ef38, q_setr (Or.inr (by decide))]; exact hr1
  have z60 : q_r f38 mo 14 = sd := by rw [ef38, q_setr (Or.inr (by decide))]; exact hr2
  have z61 : q_r f38 mo 15 = as := by rw [ef38, q_setr (Or.inr (by decide))]; exact hr3
  have z62 : q_r f38 mo 16 = aw := by rw [ef38, q_setr (Or.inr (by decide))]; exact hr4
  have z63 : q_r f38 mo 17 = pa := by rw [ef38, q_setr (Or.inr (by decide))]; exact hr5
  have z64 : q_r f38 mo 18 = nm := by rw [ef38, q_setr (Or.inr (by decide))]; exact hr6
  have z65 : q_r f38 mo 19 = snm := by rw [ef38, q_setr (Or.inr (by decide))]; exact hr7
  have z66 : q_r f38 mo 20 = anm := by rw [ef38, q_setr (Or.inr (by decide))]; exact hr8
  refine q_iconst cx dX12_meanEnergy_5 ?_
  refine lv_istore_n (lv' := [(1, .int (q_i 0)), (0, .ref mo)]) cx.1 cx.2.1 dX12_meanEnergy_6 rfl hl (by decide) rfl (fun ls hl => ?_)
  refine q_iconst cx dX12_meanEnergy_7 ?_
  refine lv_istore_n (lv' := [(2, .int (q_i 0)), (1, .int (q_i 0)), (0, .ref mo)]) cx.1 cx.2.1 dX12_meanEnergy_8 rfl hl (by decide) rfl (fun ls hl => ?_)
  refine q_ild_n cx dX12_meanEnergy_9 rfl (lv_at hl 0 rfl) ?_
  refine q_ald_n cx dX12_meanEnergy_10 rfl (lv_at hl 2 rfl) ?_
  refine q_gX12_20 cx hB hmo kmo z59 dX12_meanEnergy_11 (fun hb67 kb67 => ?_)
  refine q_iconst cx dX12_meanEnergy_14 ?_
  refine q_iald (lo := 0) (hi := 10) (n := 658) cx hB hsr ksr (by decide) rfl rfl (by decide) (by decide) (by decide) rfl z48 dX12_meanEnergy_15 (fun lb69 ub69 => ?_)
  refine q_icge (tgt := 34) cx ⟨by decide, by decide⟩ ⟨by decide, by decide⟩ dX12_meanEnergy_16 (by decide) (fun c70 => ?_) (fun c70 => ?_)
  · refine q_ald_n cx dX12_meanEnergy_34 rfl (lv_at hl 2 rfl) ?_
    refine q_gX12_20 cx hB hmo kmo z59 dX12_meanEnergy_35 (fun hb71 kb71 => ?_)
    refine q_iconst cx dX12_meanEnergy_38 ?_
    refine q_iald (lo := 0) (hi := 10) (n := 658) cx hB hsr ksr (by decide) rfl rfl (by decide) (by decide) (by decide) rfl z48 dX12_meanEnergy_39 (fun lb73 ub73 => ?_)
    refine q_ifne (tgt := 47) cx ⟨by decide, by decide⟩ dX12_meanEnergy_40 (by decide) (fun c74 => ?_) (fun c74 => ?_)
    · exact absurd c74 (by omega)
    · refine lv_dconst0 cx.1 cx.2.1 dX12_meanEnergy_43 ?_
      refine lv_goto (tgt := 57) cx.1 cx.2.1 dX12_meanEnergy_44 (by decide) ?_
      refine q_dret cx hr hlk hB dX12_meanEnergy_57 ?_
      exact ⟨rfl, z39⟩
  · exact absurd c70 (by omega)
set_option maxHeartbeats 4000000 in
set_option maxRecDepth 100000 in
theorem p_awakeIna (l : Launch) (g : q_G) {K : Nat → Nat} {L : List Nat} (hN : L.Nodup) {f : Nat → va_E} (hT : q_Ty g K L f) (mo : Nat) (hmo : mo ∈ L) (kmo : K mo = 12) (a0 : Int) (la0 : (-2147483648) ≤ a0) (ua0 : a0 ≤ (-1)) (bu : Nat) (hbu : bu ∈ L) (kbu : K bu = 150) (sr : Nat) (hsr : sr ∈ L) (ksr : K sr = 151) (sd : Nat) (hsd : sd ∈ L) (ksd : K sd = 152) (as : Nat) (has : as ∈ L) (kas : K as = 153) (aw : Nat) (haw : aw ∈ L) (kaw : K aw = 154) (pa : Nat) (hpa : pa ∈ L) (kpa : K pa = 155) (nm : Nat) (hnm : nm ∈ L) (knm : K nm = 156) (snm : Nat) (hsnm : snm ∈ L) (ksnm : K snm = 157) (anm : Nat) (hanm : anm ∈ L) (kanm : K anm = 158) (hf0 : q_z f mo 2 = 0) (hf1 : q_z f mo 8 = 0) (hf2 : q_z f mo 9 = (-1)) (hf3 : q_z f mo 10 = 0) (hf4 : q_z f mo 11 = (-1)) (hf5 : q_z f mo 21 = 0) (hf6 : q_z f mo 22 = 0) (hf7 : q_z f mo 40 = 0) (hf8 : q_z f sr 0 = 0) (hf9 : q_z f sr 1 = 0) (hf10 : q_z f sr 2 = 12) (hf11 : q_z f sr 3 = 0) (hf12 : q_z f sr 4 = 0) (hf13 : q_z f sr 5 = 1) (hf14 : q_z f sr 6 = 2) (hf15 : q_z f sr 7 = 5) (hf16 : q_z f sr 8 = 3) (hf17 : q_z f sr 9 = 0) (hr0 : q_r f mo 1 = bu) (hr1 : q_r f mo 13 = sr) (hr2 : q_r f mo 14 = sd) (hr3 : q_r f mo 15 = as) (hr4 : q_r f mo 16 = aw) (hr5 : q_r f mo 17 = pa) (hr6 : q_r f mo 18 = nm) (hr7 : q_r f mo 19 = snm) (hr8 : q_r f mo 20 = anm) : q_Ct l g K L yX12_awakeIn cX12_awakeIn 2 (some .int) 2 41 [.ref mo, .int (q_i a0)] f [(12, 0, 40), (150, 0, 599), (151, 0, 657), (152, 0, 657), (153, 0, 657), (154, 0, 657), (155, 0, 3947), (156, 0, 9), (157, 0, 9), (158, 0, 9)] (q_Pi (fun (z : Int) (f1 : Nat → va_E) => z = 0 ∧ q_z f1 mo 0 = 1)) := by
  refine q_ofb (by decide +kernel) hN hT (Nat.le_of_ble_eq_true rfl) ?_
  intro p e s m below meth c ls cx hr hlk hB hl
  have hl : lv_has ls 2 [(0, .ref mo), (1, .int (q_i a0))] := hl
  obtain ⟨H, hH⟩ : ∃ H : Heap, H = s.heap := ⟨_, rfl⟩
  obtain ⟨locs, hlocs⟩ : ∃ z : List Loc, z = [] := ⟨_, rfl⟩
  rw [← hH, ← hlocs] at hB
  rw [← hH, ← hlocs]
  refine q_ald_n cx dX12_awakeIn_0 rfl (lv_at hl 0 rfl) ?_
  refine q_ild_n cx dX12_awakeIn_1 rfl (lv_at hl 1 rfl) ?_
  refine q_i2l cx ⟨by omega, by omega⟩ dX12_awakeIn_2 ?_
  refine q_lconst (z := 0) cx (by decide) dX12_awakeIn_3 ?_
  refine lv_ldc2 (v := q_l 99) cx.1 cx.2.1 cx.2.2.2.1 (cx.2.2.2.2 _ q_h1977) dX12_awakeIn_4 ?_
  refine q_cSi (As := [.long (q_l a0), .long (q_l 0), .long (q_l 99)]) (rest := [.ref mo]) cx hB (fun _ h => h) hN (r_isIn l g hN hB.2.1 a0 (by omega) (by omega) 0 (by decide) (by decide) 99 (by decide) (by decide)) q_cX12_93 q_dX12_isIn (by decide) rfl rfl hl.1 rfl (Nat.le_of_ble_eq_true rfl) dX12_awakeIn_7 (fun y38 H locs f37 ry38 h39 hF hB => ?_)
  obtain ⟨rfl, ly38, uy38, t40⟩ := h39
  obtain rfl : y38 = 0 := by omega
  refine q_cVi (As := [.int (q_i 0)]) (rest := []) cx hB (fun _ h => h) hN hmo kmo (by decide) rfl (r_goes0 l g hN hB.2.1 mo hmo kmo 0 (by decide) (by decide)) q_cX12_85 q_dX12_goes (by decide) rfl rfl hl.1 rfl (Nat.le_of_ble_eq_true rfl) dX12_awakeIn_10 (fun y42 H locs f41 ry42 h43 hF hB => ?_)
  obtain ⟨qy42, z44⟩ := h43
  have z45 : q_z f41 mo 2 = 0 := (hF.z hmo (by rw [kmo]; rfl)).trans hf0
  have z46 : q_z f41 mo 8 = 0 := (hF.z hmo (by rw [kmo]; rfl)).trans hf1
  have z47 : q_z f41 mo 9 = (-1) := (hF.z hmo (by rw [kmo]; rfl)).trans hf2
  have z48 : q_z f41 mo 10 = 0 := (hF.z hmo (by rw [kmo]; rfl)).trans hf3
  have z49 : q_z f41 mo 11 = (-1) := (hF.z hmo (by rw [kmo]; rfl)).trans hf4
  have z50 : q_z f41 mo 21 = 0 := (hF.z hmo (by rw [kmo]; rfl)).trans hf5
  have z51 : q_z f41 mo 22 = 0 := (hF.z hmo (by rw [kmo]; rfl)).trans hf6
  have z52 : q_z f41 mo 40 = 0 := (hF.z hmo (by rw [kmo]; rfl)).trans hf7
  have z53 : q_z f41 sr 0 = 0 := (hF.z hsr (by rw [ksr]; rfl)).trans hf8
  have z54 : q_z f41 sr 1 = 0 := (hF.z hsr (by rw [ksr]; rfl)).trans hf9
  have z55 : q_z f41 sr 2 = 12 := (hF.z hsr (by rw [ksr]; rfl)).trans hf10
  have z56 : q_z f41 sr 3 = 0 := (hF.z hsr (by rw [ksr]; rfl)).trans hf11
  have z57 : q_z f41 sr 4 = 0 := (hF.z hsr (by rw [ksr]; rfl)).trans hf12
  have z58 : q_z f41 sr 5 = 1 := (hF.z hsr (by rw [ksr]; rfl)).trans hf13
  have z59 : q_z f41 sr 6 = 2 := (hF.z hsr (by rw [ksr]; rfl)).trans hf14
  have z60 : q_z f41 sr 7 = 5 := (hF.z hsr (by rw [ksr]; rfl)).trans hf15
  have z61 : q_z f41 sr 8 = 3 := (hF.z hsr (by rw [ksr]; rfl)).trans hf16
  have z62 : q_z f41 sr 9 = 0 := (hF.z hsr (by rw [ksr]; rfl)).trans hf17
  have z63 : q_r f41 mo 1 = bu := (hF.r hmo (by rw [kmo]; rfl)).trans hr0
  have z64 : q_r f41 mo 13 = sr := (hF.r hmo (by rw [kmo]; rfl)).trans hr1
  have z65 : q_r f41 mo 14 = sd := (hF.r hmo (by rw [kmo]; rfl)).trans hr2
  have z66 : q_r f41 mo 15 = as := (hF.r hmo (by rw [kmo]; rfl)).trans hr3
  have z67 : q_r f41 mo 16 = aw := (hF.r hmo (by rw [kmo]; rfl)).trans hr4
  have z68 : q_r f41 mo 17 = pa := (hF.r hmo (by rw [kmo]; rfl)).trans hr5
  have z69 : q_r f41 mo 18 = nm := (hF.r hmo (by rw [kmo]; rfl)).trans hr6
  have z70 : q_r f41 mo 19 = snm := (hF.r hmo (by rw [kmo]; rfl)).trans hr7
  have z71 : q_r f41 mo 20 = anm := (hF.r hmo (by rw [kmo]; rfl)).trans hr8
  subst qy42
  refine q_ifeq (tgt := 24) cx ⟨by decide, by decide⟩ dX12_awakeIn_13 (by decide) (fun c72 => ?_) (fun c72 => ?_)
  · refine q_iconst cx dX12_awakeIn_24 ?_
    refine q_iret cx hr hlk hB dX12_awakeIn_25 ⟨by decide, by decide⟩ ?_
    exact ⟨rfl, z44⟩
  · exact absurd c72 (by omega)
set_option maxHeartbeats 4000000 in
set_option maxRecDepth 100000 in
theorem p_awakeInb (l : Launch) (g : q_G) {K : Nat → Nat} {L : List Nat} (hN : L.Nodup) {f : Nat → va_E} (hT : q_Ty g K L f) (mo : Nat) (hmo : mo ∈ L) (kmo : K mo = 12) (a0 : Int) (la0 : 0 ≤ a0) (ua0 : a0 ≤ 99) (bu : Nat) (hbu : bu ∈ L) (kbu : K bu = 150) (sr : Nat) (hsr : sr ∈ L) (ksr : K sr = 151) (sd : Nat) (hsd : sd ∈ L) (ksd : K sd = 152) (as : Nat) (has : as ∈ L) (kas : K as = 153) (aw : Nat) (haw : aw ∈ L) (kaw : K aw = 154) (pa : Nat) (hpa : pa ∈ L) (kpa : K pa = 155) (nm : Nat) (hnm : nm ∈ L) (knm : K nm = 156) (snm : Nat) (hsnm : snm ∈ L) (ksnm : K snm = 157) (anm : Nat) (hanm : anm ∈ L) (kanm : K anm = 158) (hf0 : q_z f mo 2 = 0) (hf1 : q_z f mo 8 = 0) (hf2 : q_z f mo 9 = (-1)) (hf3 : q_z f mo 10 = 0) (hf4 : q_z f mo 11 = (-1)) (hf5 : q_z f mo 21 = 0) (hf6 : q_z f mo 22 = 0) (hf7 : q_z f mo 40 = 0) (hf8 : q_z f sr 0 = 0) (hf9 : q_z f sr 1 = 0) (hf10 : q_z f sr 2 = 12) (hf11 : q_z f sr 3 = 0) (hf12 : q_z f sr 4 = 0) (hf13 : q_z f sr 5 = 1) (hf14 : q_z f sr 6 = 2) (hf15 : q_z f sr 7 = 5) (hf16 : q_z f sr 8 = 3) (hf17 : q_z f sr 9 = 0) (hr0 : q_r f mo 1 = bu) (hr1 : q_r f mo 13 = sr) (hr2 : q_r f mo 14 = sd) (hr3 : q_r f mo 15 = as) (hr4 : q_r f mo 16 = aw) (hr5 : q_r f mo 17 = pa) (hr6 : q_r f mo 18 = nm) (hr7 : q_r f mo 19 = snm) (hr8 : q_r f mo 20 = anm) : q_Ct l g K L yX12_awakeIn cX12_awakeIn 2 (some .int) 2 41 [.ref mo, .int (q_i a0)] f [(12, 0, 40), (150, 0, 599), (151, 0, 657), (152, 0, 657), (153, 0, 657), (154, 0, 657), (155, 0, 3947), (156, 0, 9), (157, 0, 9), (158, 0, 9)] (q_Pi (fun (z : Int) (f1 : Nat → va_E) => z = 0 ∧ q_z f1 mo 0 = 0)) := by
  refine q_ofb (by decide +kernel) hN hT (Nat.le_of_ble_eq_true rfl) ?_
  intro p e s m below meth c ls cx hr hlk hB hl
  have hl : lv_has ls 2 [(0, .ref mo), (1, .int (q_i a0))] := hl
  obtain ⟨H, hH⟩ : ∃ H : Heap, H = s.heap := ⟨_, rfl⟩
  obtain ⟨locs, hlocs⟩ : ∃ z : List Loc, z = [] := ⟨_, rfl⟩
  rw [← hH, ← hlocs] at hB
  rw [← hH, ← hlocs]
  refine q_ald_n cx dX12_awakeIn_0 rfl (lv_at hl 0 rfl) ?_
  refine q_ild_n cx dX12_awakeIn_1 rfl (lv_at hl 1 rfl) ?_
  refine q_i2l cx ⟨by omega, by omega⟩ dX12_awakeIn_2 ?_
  refine q_lconst (z := 0) cx (by decide) dX12_awakeIn_3 ?_
  refine lv_ldc2 (v := q_l 99) cx.1 cx.2.1 cx.2.2.2.1 (cx.2.2.2.2 _ q_h1977) dX12_awakeIn_4 ?_
  refine q_cSi (As := [.long (q_l a0), .long (q_l 0), .long (q_l 99)]) (rest := [.ref mo]) cx hB (fun _ h => h) hN (r_isIn l g hN hB.2.1 a0 (by omega) (by omega) 0 (by decide) (by decide) 99 (by decide) (by decide)) q_cX12_93 q_dX12_isIn (by decide) rfl rfl hl.1 rfl (Nat.le_of_ble_eq_true rfl) dX12_awakeIn_7 (fun y41 H locs f40 ry41 h42 hF hB => ?_)
  obtain ⟨rfl, ly41, uy41, t43⟩ := h42
  obtain rfl : y41 = 1 := by omega
  refine q_cVi (As := [.int (q_i 1)]) (rest := []) cx hB (fun _ h => h) hN hmo kmo (by decide) rfl (r_goes1 l g hN hB.2.1 mo hmo kmo 1 (by decide) (by decide)) q_cX12_85 q_dX12_goes (by decide) rfl rfl hl.1 rfl (Nat.le_of_ble_eq_true rfl) dX12_awakeIn_10 (fun y45 H locs f44 ry45 h46 hF hB => ?_)
  obtain ⟨qy45, z47⟩ := h46
  have z48 : q_z f44 mo 2 = 0 := (hF.z hmo (by rw [kmo]; rfl)).trans hf0
  have z49 : q_z f44 mo 8 = 0 := (hF.z hmo (by rw [kmo]; rfl)).trans hf1
  have z50 : q_z f44 mo 9 = (-1) := (hF.z hmo (by rw [kmo]; rfl)).trans hf2
  have z51 : q_z f44 mo 10 = 0 := (hF.z hmo (by rw [kmo]; rfl)).trans hf3
  have z52 : q_z f44 mo 11 = (-1) := (hF.z hmo (by rw [kmo]; rfl)).trans hf4
  have z53 : q_z f44 mo 21 = 0 := (hF.z hmo (by rw [kmo]; rfl)).trans hf5
  have z54 : q_z f44 mo 22 = 0 := (hF.z hmo (by rw [kmo]; rfl)).trans hf6
  have z55 : q_z f44 mo 40 = 0 := (hF.z hmo (by rw [kmo]; rfl)).trans hf7
  have z56 : q_z f44 sr 0 = 0 := (hF.z hsr (by rw [ksr]; rfl)).trans hf8
  have z57 : q_z f44 sr 1 = 0 := (hF.z hsr (by rw [ksr]; rfl)).trans hf9
  have z58 : q_z f44 sr 2 = 12 := (hF.z hsr (by rw [ksr]; rfl)).trans hf10
  have z59 : q_z f44 sr 3 = 0 := (hF.z hsr (by rw [ksr]; rfl)).trans hf11
  have z60 : q_z f44 sr 4 = 0 := (hF.z hsr (by rw [ksr]; rfl)).trans hf12
  have z61 : q_z f44 sr 5 = 1 := (hF.z hsr (by rw [ksr]; rfl)).trans hf13
  have z62 : q_z f44 sr 6 = 2 := (hF.z hsr (by rw [ksr]; rfl)).trans hf14
  have z63 : q_z f44 sr 7 = 5 := (hF.z hsr (by rw [ksr]; rfl)).trans hf15
  have z64 : q_z f44 sr 8 = 3 := (hF.z hsr (by rw [ksr]; rfl)).trans hf16
  have z65 : q_z f44 sr 9 = 0 := (hF.z hsr (by rw [ksr]; rfl)).trans hf17
  have z66 : q_r f44 mo 1 = bu := (hF.r hmo (by rw [kmo]; rfl)).trans hr0
  have z67 : q_r f44 mo 13 = sr := (hF.r hmo (by rw [kmo]; rfl)).trans hr1
  have z68 : q_r f44 mo 14 = sd := (hF.r hmo (by rw [kmo]; rfl)).trans hr2
  have z69 : q_r f44 mo 15 = as := (hF.r hmo (by rw [kmo]; rfl)).trans hr3
  have z70 : q_r f44 mo 16 = aw := (hF.r hmo (by rw [kmo]; rfl)).trans hr4
  have z71 : q_r f44 mo 17 = pa := (hF.r hmo (by rw [kmo]; rfl)).trans hr5
  have z72 : q_r f44 mo 18 = nm := (hF.r hmo (by rw [kmo]; rfl)).trans hr6
  have z73 : q_r f44 mo 19 = snm := (hF.r hmo (by rw [kmo]; rfl)).trans hr7
  have z74 : q_r f44 mo 20 = anm := (hF.r hmo (by rw [kmo]; rfl)).trans hr8
  subst qy45
  refine q_ifeq (tgt := 24) cx ⟨by decide, by decide⟩ dX12_awakeIn_13 (by decide) (fun c75 => ?_) (fun c75 => ?_)
  · exact absurd c75 (by omega)
  · refine q_ald_n cx dX12_awakeIn_16 rfl (lv_at hl 0 rfl) ?_
    refine q_ild_n cx dX12_awakeIn_17 rfl (lv_at hl 1 rfl) ?_
    refine q_cVi (As := [.int (q_i a0)]) (rest := []) cx hB (fun _ h => h) hN hmo kmo (by decide) rfl (r_awakeSet0 l g hN hB.2.1 mo hmo kmo a0 (by omega) (by omega) sr hsr ksr z56 z67) q_cX12_286 q_dX12_awakeSet (by decide) rfl rfl hl.1 rfl (Nat.le_of_ble_eq_true rfl) dX12_awakeIn_18 (fun y77 H locs f76 ry77 h78 hF hB => ?_)
    obtain ⟨rfl, qy77⟩ := h78
    subst qy77
    refine lv_goto (tgt := 25) cx.1 cx.2.1 dX12_awakeIn_21 (by decide) ?_
    refine q_iret cx hr hlk hB dX12_awakeIn_25 ⟨by decide, by decide⟩ ?_
    exact ⟨rfl, z47⟩
set_option maxHeartbeats 4000000 in
set_option maxRecDepth 100000 in
theorem p_awakeInc (l : Launch) (g : q_G) {K : Nat → Nat} {L : List Nat} (hN : L.Nodup) {f : Nat → va_E} (hT : q_Ty g K L f) (mo : Nat) (hmo : mo ∈ L) (kmo : K mo = 12) (a0 : Int) (la0 : 100 ≤ a0) (ua0 : a0 ≤ 2147483647) (bu : Nat) (hbu : bu ∈ L) (kbu : K bu = 150) (sr : Nat) (hsr : sr ∈ L) (ksr : K sr = 151) (sd : Nat) (hsd : sd ∈ L) (ksd : K sd = 152) (as : Nat) (has : as ∈ L) (kas : K as = 153) (aw : Nat) (haw : aw ∈ L) (kaw : K aw = 154) (pa : Nat) (hpa : pa ∈ L) (kpa : K pa = 155) (nm : Nat) (hnm : nm ∈ L) (knm : K nm = 156) (snm : Nat) (hsnm : snm ∈ L) (ksnm : K snm = 157) (anm : Nat) (hanm : anm ∈ L) (kanm : K anm = 158) (hf0 : q_z f mo 2 = 0) (hf1 : q_z f mo 8 = 0) (hf2 : q_z f mo 9 = (-1)) (hf3 : q_z f mo 10 = 0) (hf4 : q_z f mo 11 = (-1)) (hf5 : q_z f mo 21 = 0) (hf6 : q_z f mo 22 = 0) (hf7 : q_z f mo 40 = 0) (hf8 : q_z f sr 0 = 0) (hf9 : q_z f sr 1 = 0) (hf10 : q_z f sr 2 = 12) (hf11 : q_z f sr 3 = 0) (hf12 : q_z f sr 4 = 0) (hf13 : q_z f sr 5 = 1) (hf14 : q_z f sr 6 = 2) (hf15 : q_z f sr 7 = 5) (hf16 : q_z f sr 8 = 3) (hf17 : q_z f sr 9 = 0) (hr0 : q_r f mo 1 = bu) (hr1 : q_r f mo 13 = sr) (hr2 : q_r f mo 14 = sd) (hr3 : q_r f mo 15 = as) (hr4 : q_r f mo 16 = aw) (hr5 : q_r f mo 17 = pa) (hr6 : q_r f mo 18 = nm) (hr7 : q_r f mo 19 = snm) (hr8 : q_r f mo 20 = anm) : q_Ct l g K L yX12_awakeIn cX12_awakeIn 2 (some .int) 2 41 [.ref mo, .int (q_i a0)] f [(12, 0, 40), (150, 0, 599), (151, 0, 657), (152, 0, 657), (153, 0, 657), (154, 0, 657), (155, 0, 3947), (156, 0, 9), (157, 0, 9), (158, 0, 9)] (q_Pi (fun (z : Int) (f1 : Nat → va_E) => z = 0 ∧ q_z f1 mo 0 = 1)) := by
  refine q_ofb (by decide +kernel) hN hT (Nat.le_of_ble_eq_true rfl) ?_
  intro p e s m below meth c ls cx hr hlk hB hl
  have hl : lv_has ls 2 [(0, .ref mo), (1, .int (q_i a0))] := hl
  obtain ⟨H, hH⟩ : ∃ H : Heap, H = s.heap := ⟨_, rfl⟩
  obtain ⟨locs, hlocs⟩ : ∃ z : List Loc, z = [] := ⟨_, rfl⟩
  rw [← hH, ← hlocs] at hB
  rw [← hH, ← hlocs]
  refine q_ald_n cx dX12_awakeIn_0 rfl (lv_at hl 0 rfl) ?_
  refine q_ild_n cx dX12_awakeIn_1 rfl (lv_at hl 1 rfl) ?_
  refine q_i2l cx ⟨by omega, by omega⟩ dX12_awakeIn_2 ?_
  refine q_lconst (z := 0) cx (by decide) dX12_awakeIn_3 ?_
  refine lv_ldc2 (v := q_l 99) cx.1 cx.2.1 cx.2.2.2.1 (cx.2.2.2.2 _ q_h1977) dX12_awakeIn_4 ?_
  refine q_cSi (As := [.long (q_l a0), .long (q_l 0), .long (q_l 99)]) (rest := [.ref mo]) cx hB (fun _ h => h) hN (r_isIn l g hN hB.2.1 a0 (by omega) (by omega) 0 (by decide) (by decide) 99 (by decide) (by decide)) q_cX12_93 q_dX12_isIn (by decide) rfl rfl hl.1 rfl (Nat.le_of_ble_eq_true rfl) dX12_awakeIn_7 (fun y38 H locs f37 ry38 h39 hF hB => ?_)
  obtain ⟨rfl, ly38, uy38, t40⟩ := h39
  obtain rfl : y38 = 0 := by omega
  refine q_cVi (As := [.int (q_i 0)]) (rest := []) cx hB (fun _ h => h) hN hmo kmo (by decide) rfl (r_goes0 l g hN hB.2.1 mo hmo kmo 0 (by decide) (by decide)) q_cX12_85 q_dX12_goes (by decide) rfl rfl hl.1 rfl (Nat.le_of_ble_eq_true rfl) dX12_awakeIn_10 (fun y42 H locs f41 ry42 h43 hF hB => ?_)
  obtain ⟨qy42, z44⟩ := h43
  have z45 : q_z f41 mo 2 = 0 := (hF.z hmo (by rw [kmo]; rfl)).trans hf0
  have z46 : q_z f41 mo 8 = 0 := (hF.z hmo (by rw [kmo]; rfl)).trans hf1
  have z47 : q_z f41 mo 9 = (-1) := (hF.z hmo (by rw [kmo]; rfl)).trans hf2
  have z48 : q_z f41 mo 10 = 0 := (hF.z hmo (by rw [kmo]; rfl)).trans hf3
  have z49 : q_z f41 mo 11 = (-1) := (hF.z hmo (by rw [kmo]; rfl)).trans hf4
  have z50 : q_z f41 mo 21 = 0 := (hF.z hmo (by rw [kmo]; rfl)).trans hf5
  have z51 : q_z f41 mo 22 = 0 := (hF.z hmo (by rw [kmo]; rfl)).trans hf6
  have z52 : q_z f41 mo 40 = 0 := (hF.z hmo (by rw [kmo]; rfl)).trans hf7
  have z53 : q_z f41 sr 0 = 0 := (hF.z hsr (by rw [ksr]; rfl)).trans hf8
  have z54 : q_z f41 sr 1 = 0 := (hF.z hsr (by rw [ksr]; rfl)).trans hf9
  have z55 : q_z f41 sr 2 = 12 := (hF.z hsr (by rw [ksr]; rfl)).trans hf10
  have z56 : q_z f41 sr 3 = 0 := (hF.z hsr (by rw [ksr]; rfl)).trans hf11
  have z57 : q_z f41 sr 4 = 0 := (hF.z hsr (by rw [ksr]; rfl)).trans hf12
  have z58 : q_z f41 sr 5 = 1 := (hF.z hsr (by rw [ksr]; rfl)).trans hf13
  have z59 : q_z f41 sr 6 = 2 := (hF.z hsr (by rw [ksr]; rfl)).trans hf14
  have z60 : q_z f41 sr 7 = 5 := (hF.z hsr (by rw [ksr]; rfl)).trans hf15
  have z61 : q_z f41 sr 8 = 3 := (hF.z hsr (by rw [ksr]; rfl)).trans hf16
  have z62 : q_z f41 sr 9 = 0 := (hF.z hsr (by rw [ksr]; rfl)).trans hf17
  have z63 : q_r f41 mo 1 = bu := (hF.r hmo (by rw [kmo]; rfl)).trans hr0
  have z64 : q_r f41 mo 13 = sr := (hF.r hmo (by rw [kmo]; rfl)).trans hr1
  have z65 : q_r f41 mo 14 = sd := (hF.r hmo (by rw [kmo]; rfl)).trans hr2
  have z66 : q_r f41 mo 15 = as := (hF.r hmo (by rw [kmo]; rfl)).trans hr3
  have z67 : q_r f41 mo 16 = aw := (hF.r hmo (by rw [kmo]; rfl)).trans hr4
  have z68 : q_r f41 mo 17 = pa := (hF.r hmo (by rw [kmo]; rfl)).trans hr5
  have z69 : q_r f41 mo 18 = nm := (hF.r hmo (by rw [kmo]; rfl)).trans hr6
  have z70 : q_r f41 mo 19 = snm := (hF.r hmo (by rw [kmo]; rfl)).trans hr7
  have z71 : q_r f41 mo 20 = anm := (hF.r hmo (by rw [kmo]; rfl)).trans hr8
  subst qy42
  refine q_ifeq (tgt := 24) cx ⟨by decide, by decide⟩ dX12_awakeIn_13 (by decide) (fun c72 => ?_) (fun c72 => ?_)
  · refine q_iconst cx dX12_awakeIn_24 ?_
    refine q_iret cx hr hlk hB dX12_awakeIn_25 ⟨by decide, by decide⟩ ?_
    exact ⟨rfl, z44⟩
  · exact absurd c72 (by omega)
set_option maxHeartbeats 4000000 in
set_option maxRecDepth 100000 in
theorem p_worstLink (l : Launch) (g : q_G) {K : Nat → Nat} {L : List Nat} (hN : L.Nodup) {f : Nat → va_E} (hT : q_Ty g K L f) (mo : Nat) (hmo : mo ∈ L) (kmo : K mo = 12) (bu : Nat) (hbu : bu ∈ L) (kbu : K bu = 150) (sr : Nat) (hsr : sr ∈ L) (ksr : K sr = 151) (sd : Nat) (hsd : sd ∈ L) (ksd : K sd = 152) (as : Nat) (has : as ∈ L) (kas : K as = 153) (aw : Nat) (haw : aw ∈ L) (kaw : K aw = 154) (pa : Nat) (hpa : pa ∈ L) (kpa : K pa = 155) (nm : Nat) (hnm : nm ∈ L) (knm : K nm = 156) (snm : Nat) (hsnm : snm ∈ L) (ksnm : K snm = 157) (anm : Nat) (hanm : anm ∈ L) (kanm : K anm = 158) (hf0 : q_z f mo 2 = 0) (hf1 : q_z f mo 8 = 0) (hf2 : q_z f mo 9 = (-1)) (hf3 : q_z f mo 10 = 0) (hf4 : q_z f mo 11 = (-1)) (hf5 : q_z f mo 21 = 0) (hf6 : q_z f mo 22 = 0) (hf7 : q_z f mo 40 = 0) (hf8 : q_z f sr 0 = 0) (hf9 : q_z f sr 1 = 0) (hf10 : q_z f sr 2 = 12) (hf11 : q_z f sr 3 = 0) (hf12 : q_z f sr 4 = 0) (hf13 : q_z f sr 5 = 1) (hf14 : q_z f sr 6 = 2) (hf15 : q_z f sr 7 = 5) (hf16 : q_z f sr 8 = 3) (hf17 : q_z f sr 9 = 0) (hr0 : q_r f mo 1 = bu) (hr1 : q_r f mo 13 = sr) (hr2 : q_r f mo 14 = sd) (hr3 : q_r f mo 15 = as) (hr4 : q_r f mo 16 = aw) (hr5 : q_r f mo 17 = pa) (hr6 : q_r f mo 18 = nm) (hr7 : q_r f mo 19 = snm) (hr8 : q_r f mo 20 = anm) : q_Ct l g K L yX12_worstLink cX12_worstLink 5 (some .int) 0 0 [.ref mo] f [(12, 0, 40), (150, 0, 599), (151, 0, 657), (152, 0, 657), (153, 0, 657), (154, 0, 657), (155, 0, 3947), (156, 0, 9), (157, 0, 9), (158, 0, 9)] (q_Pi (fun (z : Int) (f1 : Nat → va_E) => z = (-1) ∧ q_z f1 mo 0 = 0)) := by
  refine q_ofb (by decide +kernel) hN hT (Nat.le_of_ble_eq_true rfl) ?_
  intro p e s m below meth c ls cx hr hlk hB hl
  have hl : lv_has ls 5 [(0, .ref mo)] := hl
  obtain ⟨H, hH⟩ : ∃ H : Heap, H = s.heap := ⟨_, rfl⟩
  obtain ⟨locs, hlocs⟩ : ∃ z : List Loc, z = [] := ⟨_, rfl⟩
  rw [← hH, ← hlocs] at hB
  rw [← hH, ← hlocs]
  refine q_ald_n cx dX12_worstLink_0 rfl (lv_at hl 0 rfl) ?_
  refine q_iconst cx dX12_worstLink_1 ?_
  refine q_pX12_75 cx hB hmo kmo ⟨by decide, by decide⟩ (by decide) (by decide) rfl dX12_worstLink_2 (fun H locs f34 ef34 z35 hB => ?_)
  have z36 : q_z f34 mo 2 = 0 := by rw [ef34, q_setz (Or.inr (by decide))]; exact hf0
  have z37 : q_z f34 mo 8 = 0 := by rw [ef34, q_setz (Or.inr (by decide))]; exact hf1
  have z38 : q_z f34 mo 9 = (-1) := by rw [ef34, q_setz (Or.inr (by decide))]; exact hf2
  have z39 : q_z f34 mo 10 = 0 := by rw [ef34, q_setz (Or.inr (by decide))]; exact hf3
  have z40 : q_z f34 mo 11 = (-1) := by rw [ef34, q_setz (Or.inr (by decide))]; exact hf4
  have z41 : q_z f34 mo 21 = 0 := by rw [ef34, q_setz (Or.inr (by decide))]; exact hf5
  have z42 : q_z f34 mo 22 = 0 := by rw [ef34, q_setz (Or.inr (by decide))]; exact hf6
  have z43 : q_z f34 mo 40 = 0 := by rw [ef34, q_setz (Or.inr (by decide))]; exact hf7
  have z44 : q_z f34 sr 0 = 0 := by rw [ef34, q_setz (Or.inl (fun q => by rw [q, kmo] at ksr; exact absurd ksr (by decide)))]; exact hf8
  have z45 : q_z f34 sr 1 = 0 := by rw [ef34, q_setz (Or.inr (by decide))]; exact hf9
  have z46 : q_z f34 sr 2 = 12 := by rw [ef34, q_setz (Or.inr (by decide))]; exact hf10
  have z47 : q_z f34 sr 3 = 0 := by rw [ef34, q_setz (Or.inr (by decide))]; exact hf11
  have z48 : q_z f34 sr 4 = 0 := by rw [ef34, q_setz (Or.inr (by decide))]; exact hf12
  have z49 : q_z f34 sr 5 = 1 := by rw [ef34, q_setz (Or.inr (by decide))]; exact hf13
  have z50 : q_z f34 sr 6 = 2 := by rw [ef34, q_setz (Or.inr (by decide))]; exact hf14
  have z51 : q_z f34 sr 7 = 5 := by rw [ef34, q_setz (Or.inr (by decide))]; exact hf15
  have z52 : q_z f34 sr 8 = 3 := by rw [ef34, q_setz (Or.inr (by decide))]; exact hf16
  have z53 : q_z f34 sr 9 = 0 := by rw [ef34, q_setz (Or.inr (by decide))]; exact hf17
  have z54 : q_r f34 mo 1 = bu := by rw [ef34, q_setr (Or.inr (by decide))]; exact hr0
  have z55 : q_r f34 mo 13 = sr := by rw [ef34, q_setr (Or.inr (by decide))]; exact hr1
  have z56 : q_r f34 mo 14 = sd := by rw [ef34, q_setr (Or.inr (by decide))]; exact hr2
  have z57 : q_r f34 mo 15 = as := by rw [ef34, q_setr (Or.inr (by decide))]; exact hr3
  have z58 : q_r f34 mo 16 = aw := by rw [ef34, q_setr (Or.inr (by decide))]; exact hr4
  have z59 : q_r f34 mo 17 = pa := by rw [ef34, q_setr (Or.inr (by decide))]; exact hr5
  have z60 : q_r f34 mo 18 = nm := by rw [ef34, q_setr (Or.inr (by decide))]; exact hr6
  have z61 : q_r f34 mo 19 = snm := by rw [ef34, q_setr (Or.inr (by decide))]; exact hr7
  have z62 : q_r f34 mo 20 = anm := by rw [ef34, q_setr (Or.inr (by decide))]; exact hr8
  refine q_iconst cx dX12_worstLink_5 ?_
  refine lv_istore_n (lv' := [(1, .int (q_i (-1))), (0, .ref mo)]) cx.1 cx.2.1 dX12_worstLink_6 rfl hl (by decide) rfl (fun ls hl => ?_)
  refine q_iconst cx dX12_worstLink_7 ?_
  refine lv_istore_n (lv' := [(2, .int (q_i (-1))), (1, .int (q_i (-1))), (0, .ref mo)]) cx.1 cx.2.1 dX12_worstLink_8 rfl hl (by decide) rfl (fun ls hl => ?_)
  refine q_iconst cx dX12_worstLink_9 ?_
  refine lv_istore_n (lv' := [(3, .int (q_i 0)), (2, .int (q_i (-1))), (1, .int (q_i (-1))), (0, .ref mo)]) cx.1 cx.2.1 dX12_worstLink_10 rfl hl (by decide) rfl (fun ls hl => ?_)
  refine q_ild_n cx dX12_worstLink_11 rfl (lv_at hl 0 rfl) ?_
  refine q_ald_n cx dX12_worstLink_12 rfl (lv_at hl 3 rfl) ?_
  refine q_gX12_20 cx hB hmo kmo z55 dX12_worstLink_13 (fun hb63 kb63 => ?_)
  refine q_iconst cx dX12_worstLink_16 ?_
  refine q_iald (lo := 0) (hi := 16) (n := 658) cx hB hsr ksr (by decide) rfl rfl (by decide) (by decide) (by decide) rfl z45 dX12_worstLink_17 (fun lb65 ub65 => ?_)
  refine q_icge (tgt := 59) cx ⟨by decide, by decide⟩ ⟨by decide, by decide⟩ dX12_worstLink_18 (by decide) (fun c66 => ?_) (fun c66 => ?_)
  · refine q_ild_n cx dX12_worstLink_59 rfl (lv_at hl 2 rfl) ?_
    refine q_iret cx hr hlk hB dX12_worstLink_60 ⟨by decide, by decide⟩ ?_
    exact ⟨rfl, z35⟩
  · exact absurd c66 (by omega)
set_option maxHeartbeats 4000000 in
set_option maxRecDepth 100000 in
theorem p_busiest (l : Launch) (g : q_G) {K : Nat → Nat} {L : List Nat} (hN : L.Nodup) {f : Nat → va_E} (hT : q_Ty g K L f) (mo : Nat) (hmo : mo ∈ L) (kmo : K mo = 12) (bu : Nat) (hbu : bu ∈ L) (kbu : K bu = 150) (sr : Nat) (hsr : sr ∈ L) (ksr : K sr = 151) (sd : Nat) (hsd : sd ∈ L) (ksd : K sd = 152) (as : Nat) (has : as ∈ L) (kas : K as = 153) (aw : Nat) (haw : aw ∈ L) (kaw : K aw = 154) (pa : Nat) (hpa : pa ∈ L) (kpa : K pa = 155) (nm : Nat) (hnm : nm ∈ L) (knm : K nm = 156) (snm : Nat) (hsnm : snm ∈ L) (ksnm : K snm = 157) (anm : Nat) (hanm : anm ∈ L) (kanm : K anm = 158) (hf0 : q_z f mo 2 = 0) (hf1 : q_z f mo 8 = 0) (hf2 : q_z f mo 9 = (-1)) (hf3 : q_z f mo 10 = 0) (hf4 : q_z f mo 11 = (-1)) (hf5 : q_z f mo 21 = 0) (hf6 : q_z f mo 22 = 0) (hf7 : q_z f mo 40 = 0) (hf8 : q_z f sr 0 = 0) (hf9 : q_z f sr 1 = 0) (hf10 : q_z f sr 2 = 12) (hf11 : q_z f sr 3 = 0) (hf12 : q_z f sr 4 = 0) (hf13 : q_z f sr 5 = 1) (hf14 : q_z f sr 6 = 2) (hf15 : q_z f sr 7 = 5) (hf16 : q_z f sr 8 = 3) (hf17 : q_z f sr 9 = 0) (hr0 : q_r f mo 1 = bu) (hr1 : q_r f mo 13 = sr) (hr2 : q_r f mo 14 = sd) (hr3 : q_r f mo 15 = as) (hr4 : q_r f mo 16 = aw) (hr5 : q_r f mo 17 = pa) (hr6 : q_r f mo 18 = nm) (hr7 : q_r f mo 19 = snm) (hr8 : q_r f mo 20 = anm) : q_Ct l g K L yX12_busiest cX12_busiest 3 (some .int) 1 23 [.ref mo] f [(12, 0, 40), (150, 0, 599), (151, 0, 657), (152, 0, 657), (153, 0, 657), (154, 0, 657), (155, 0, 3947), (156, 0, 9), (157, 0, 9), (158, 0, 9)] (q_Pi (fun (z : Int) (f1 : Nat → va_E) => z = 1 ∧ q_z f1 mo 0 = 0)) := by
  refine q_ofb (by decide +kernel) hN hT (Nat.le_of_ble_eq_true rfl) ?_
  intro p e s m below meth c ls cx hr hlk hB hl
  have hl : lv_has ls 3 [(0, .ref mo)] := hl
  obtain ⟨H, hH⟩ : ∃ H : Heap, H = s.heap := ⟨_, rfl⟩
  obtain ⟨locs, hlocs⟩ : ∃ z : List Loc, z = [] := ⟨_, rfl⟩
  rw [← hH, ← hlocs] at hB
  rw [← hH, ← hlocs]
  refine q_ald_n cx dX12_busiest_0 rfl (lv_at hl 0 rfl) ?_
  refine q_iconst cx dX12_busiest_1 ?_
  refine q_pX12_75 cx hB hmo kmo ⟨by decide, by decide⟩ (by decide) (by decide) rfl dX12_busiest_2 (fun H locs f221 ef221 z222 hB => ?_)
  have z223 : q_z f221 mo 2 = 0 := by rw [ef221, q_setz (Or.inr (by decide))]; exact hf0
  have z224 : q_z f221 mo 8 = 0 := by rw [ef221, q_setz (Or.inr (by decide))]; exact hf1
  have z225 : q_z f221 mo 9 = (-1) := by rw [ef221, q_setz (Or.inr (by decide))]; exact hf2
  have z226 : q_z f221 mo 10 = 0 := by rw [ef221, q_setz (Or.inr (by decide))]; exact hf3
  have z227 : q_z f221 mo 11 = (-1) := by rw [ef221, q_setz (Or.inr (by decide))]; exact hf4
  have z228 : q_z f221 mo 21 = 0 := by rw [ef221, q_setz (Or.inr (by decide))]; exact hf5
  have z229 : q_z f221 mo 22 = 0 := by rw [ef221, q_setz (Or.inr (by decide))]; exact hf6
  have z230 : q_z f221 mo 40 = 0 := by rw [ef221, q_setz (Or.inr (by decide))]; exact hf7
  have z231 : q_z f221 sr 0 = 0 := by rw [ef221, q_setz (Or.inl (fun q => by rw [q, kmo] at ksr; exact absurd ksr (by decide)))]; exact hf8
  have z232 : q_z f221 sr 1 = 0 := by rw [ef221, q_setz (Or.inr (by decide))]; exact hf9
  have z233 : q_z f221 sr 2 = 12 := by rw [ef221, q_setz (Or.inr (by decide))]; exact hf10
  have z234 : q_z f221 sr 3 = 0 := by rw [ef221, q_setz (Or.inr (by decide))]; exact hf11
  have z235 : q_z f221 sr 4 = 0 := by rw [ef221, q_setz (Or.inr (by decide))]; exact hf12
  have z236 : q_z f221 sr 5 = 1 := by rw [ef221, q_setz (Or.inr (by decide))]; exact hf13
  have z237 : q_z f221 sr 6 = 2 := by rw [ef221, q_setz (Or.inr (by decide))]; exact hf14
  have z238 : q_z f221 sr 7 = 5 := by rw [ef221, q_setz (Or.inr (by decide))]; exact hf15
  have z239 : q_z f221 sr 8 = 3 := by rw [ef221, q_setz (Or.inr (by decide))]; exact hf16
  have z240 : q_z f221 sr 9 = 0 := by rw [ef221, q_setz (Or.inr (by decide))]; exact hf17
  have z241 : q_r f221 mo 1 = bu := by rw [ef221, q_setr (Or.inr (by decide))]; exact hr0
  have z242 : q_r f221 mo 13 = sr := by rw [ef221, q_setr (Or.inr (by decide))]; exact hr1
  have z243 : q_r f221 mo 14 = sd := by rw [ef221, q_setr (Or.inr (by decide))]; exact hr2
  have z244 : q_r f221 mo 15 = as := by rw [ef221, q_setr (Or.inr (by decide))]; exact hr3
  have z245 : q_r f221 mo 16 = aw := by rw [ef221, q_setr (Or.inr (by decide))]; exact hr4
  have z246 : q_r f221 mo 17 = pa := by rw [ef221, q_setr (Or.inr (by decide))]; exact hr5
  have z247 : q_r f221 mo 18 = nm := by rw [ef221, q_setr (Or.inr (by decide))]; exact hr6
  have z248 : q_r f221 mo 19 = snm := by rw [ef221, q_setr (Or.inr (by decide))]; exact hr7
  have z249 : q_r f221 mo 20 = anm := by rw [ef221, q_setr (Or.inr (by decide))]; exact hr8
  refine q_iconst cx dX12_busiest_5 ?_
  refine lv_istore_n (lv' := [(1, .int (q_i 1)), (0, .ref mo)]) cx.1 cx.2.1 dX12_busiest_6 rfl hl (by decide) rfl (fun ls hl => ?_)
  refine q_iconst cx dX12_busiest_7 ?_
  refine lv_istore_n (lv' := [(2, .int (q_i 2)), (1, .int (q_i 1)), (0, .ref mo)]) cx.1 cx.2.1 dX12_busiest_8 rfl hl (by decide) rfl (fun ls hl => ?_)
  refine q_ild_n cx dX12_busiest_9 rfl (lv_at hl 0 rfl) ?_
  refine q_ald_n cx dX12_busiest_10 rfl (lv_at hl 2 rfl) ?_
  refine q_gX12_20 cx hB hmo kmo z242 dX12_busiest_11 (fun hb250 kb250 => ?_)
  refine q_iconst cx dX12_busiest_14 ?_
  refine q_iald (lo := 0) (hi := 60) (n := 658) cx hB hsr ksr (by decide) rfl rfl (by decide) (by decide) (by decide) rfl z233 dX12_busiest_15 (fun lb252 ub252 => ?_)
  refine q_icgt (tgt := 46) cx ⟨by decide, by decide⟩ ⟨by decide, by decide⟩ dX12_busiest_16 (by decide) (fun c253 => ?_) (fun c253 => ?_)
  · exact absurd c253 (by omega)
  · refine q_ald_n cx dX12_busiest_19 rfl (lv_at hl 2 rfl) ?_
    refine q_ild_n cx dX12_busiest_20 rfl (lv_at hl 0 rfl) ?_
    refine q_cVi (As := [.int (q_i 2)]) (rest := []) cx hB (fun _ h => h) hN hmo kmo (by decide) rfl (r_awakeSet0 l g hN hB.2.1 mo hmo kmo 2 (by decide) (by decide) sr hsr ksr z231 z242) q_cX12_286 q_dX12_awakeSet (by decide) rfl rfl hl.1 rfl (Nat.le_of_ble_eq_true rfl) dX12_busiest_21 (fun y255 H locs f254 ry255 h256 hF hB => ?_)
    obtain ⟨rfl, qy255⟩ := h256
    subst qy255
    refine q_cSi (As := [.int (q_i 0)]) (rest := []) cx hB (fun _ h => h) hN (r_bits0 l g hN hB.2.1 0 (by decide) (by decide)) q_cX12_399 q_dX12_bits (by decide) rfl rfl hl.1 rfl (Nat.le_of_ble_eq_true rfl) dX12_busiest_24 (fun y258 H locs f257 ry258 h259 hF hB => ?_)
    obtain ⟨rfl, qy258⟩ := h259
    subst qy258
    refine q_ald_n cx dX12_busiest_27 rfl (lv_at hl 2 rfl) ?_
    refine q_ild_n cx dX12_busiest_28 rfl (lv_at hl 1 rfl) ?_
    refine q_cVi (As := [.int (q_i 1)]) (rest := [.int (q_i 0)]) cx hB (fun _ h => h) hN hmo kmo (by decide) rfl (r_awakeSet0 l g hN hB.2.1 mo hmo kmo 1 (by decide) (by decide) sr hsr ksr z231 z242) q_cX12_286 q_dX12_awakeSet (by decide) rfl rfl hl.1 rfl (Nat.le_of_ble_eq_true rfl) dX12_busiest_29 (fun y261 H locs f260 ry261 h262 hF hB => ?_)
    obtain ⟨rfl, qy261⟩ := h262
    subst qy261
    refine q_cSi (As := [.int (q_i 0)]) (rest := [.int (q_i 0)]) cx hB (fun _ h => h) hN (r_bits0 l g hN hB.2.1 0 (by decide) (by decide)) q_cX12_399 q_dX12_bits (by decide) rfl rfl hl.1 rfl (Nat.le_of_ble_eq_true rfl) dX12_busiest_32 (fun y264 H locs f263 ry264 h265 hF hB => ?_)
    obtain ⟨rfl, qy264⟩ := h265
    subst qy264
    refine q_icle (tgt := 40) cx ⟨by decide, by decide⟩ ⟨by decide, by decide⟩ dX12_busiest_35 (by decide) (fun c266 => ?_) (fun c266 => ?_)
    · refine q_iinc (lv' := [(2, .int (q_i (2 + 1))), (1, .int (q_i 1)), (0, .ref mo)]) cx dX12_busiest_40 hl (k := 0) rfl (by decide) rfl (fun ls hl => ?_)
      refine lv_goto (tgt := 9) cx.1 cx.2.1 dX12_busiest_43 (by decide) ?_
      refine q_ild_n cx dX12_busiest_9 rfl (lv_at hl 0 rfl) ?_
      refine q_ald_n cx dX12_busiest_10 rfl (lv_at hl 2 rfl) ?_
      refine q_gX12_20 cx hB hmo kmo z242 dX12_busiest_11 (fun hb267 kb267 => ?_)
      refine q_iconst cx dX12_busiest_14 ?_
      refine q_iald (lo := 0) (hi := 60) (n := 658) cx hB hsr ksr (by decide) rfl rfl (by decide) (by decide) (by decide) rfl z233 dX12_busiest_15 (fun lb269 ub269 => ?_)
      refine q_icgt (tgt := 46) cx ⟨by decide, by decide⟩ ⟨by decide, by decide⟩ dX12_busiest_16 (by decide) (fun c270 => ?_) (fun c270 => ?_)
      · exact absurd c270 (by omega)
      · refine q_ald_n cx dX12_busiest_19 rfl (lv_at hl 2 rfl) ?_
        refine q_ild_n cx dX12_busiest_20 rfl (lv_at hl 0 rfl) ?_
        refine q_cVi (As := [.int (q_i (2 + 1))]) (rest := []) cx hB (fun _ h => h) hN hmo kmo (by decide) rfl (r_awakeSet0 l g hN hB.2.1 mo hmo kmo (2 + 1) (by decide) (by decide) sr hsr ksr z231 z242) q_cX12_286 q_dX12_awakeSet (by decide) rfl rfl hl.1 rfl (Nat.le_of_ble_eq_true rfl) dX12_busiest_21 (fun y272 H locs f271 ry272 h273 hF hB => ?_)
        obtain ⟨rfl, qy272⟩ := h273
        subst qy272
        refine q_cSi (As := [.int (q_i 0)]) (rest := []) cx hB (fun _ h => h) hN (r_bits0 l g hN hB.2.1 0 (by decide) (by decide)) q_cX12_399 q_dX12_bits (by decide) rfl rfl hl.1 rfl (Nat.le_of_ble_eq_true rfl) dX12_busiest_24 (fun y275 H locs f274 ry275 h276 hF hB => ?_)
        obtain ⟨rfl, qy275⟩ := h276
        subst qy275
        refine q_ald_n cx dX12_busiest_27 rfl (lv_at hl 2 rfl) ?_
        refine q_ild_n cx dX12_busiest_28 rfl (lv_at hl 1 rfl) ?_
        refine q_cVi (As := [.int (q_i 1)]) (rest := [.int (q_i 0)]) cx hB (fun _ h => h) hN hmo kmo (by decide) rfl (r_awakeSet0 l g hN hB.2.1 mo hmo kmo 1 (by decide) (by decide) sr hsr ksr z231 z242) q_cX12_286 q_dX12_awakeSet (by decide) rfl rfl hl.1 rfl (Nat.le_of_ble_eq_true rfl) dX12_busiest_29 (fun y278 H locs f277 ry278 h279 hF hB => ?_)
        obtain ⟨rfl, qy278⟩ := h279
        subst qy278
        refine q_cSi (As := [.int (q_i 0)]) (rest := [.int (q_i 0)]) cx hB (fun _ h => h) hN (r_bits0 l g hN hB.2.1 0 (by decide) (by decide)) q_cX12_399 q_dX12_bits (by decide) rfl rfl hl.1 rfl (Nat.le_of_ble_eq_true rfl) dX12_busiest_32 (fun y281 H locs f280 ry281 h282 hF hB => ?_)
        obtain ⟨rfl, qy281⟩ := h282
        subst qy281
        refine q_icle (tgt := 40) cx ⟨by decide, by decide⟩ ⟨by decide, by decide⟩ dX12_busiest_35 (by decide) (fun c283 => ?_) (fun c283 => ?_)
        · refine q_iinc (lv' := [(2, .int (q_i ((2 + 1) + 1))), (1, .int (q_i 1)), (0, .ref mo)]) cx dX12_busiest_40 hl (k := 0) rfl (by decide) rfl (fun ls hl => ?_)
          refine lv_goto (tgt := 9) cx.1 cx.2.1 dX12_busiest_43 (by decide) ?_
          refine q_ild_n cx dX12_busiest_9 rfl (lv_at hl 0 rfl) ?_
          refine q_ald_n cx dX12_busiest_10 rfl (lv_at hl 2 rfl) ?_
          refine q_gX12_20 cx hB hmo kmo z242 dX12_busiest_11 (fun hb284 kb284 => ?_)
          refine q_iconst cx dX12_busiest_14 ?_
          refine q_iald (lo := 0) (hi := 60) (n := 658) cx hB hsr ksr (by decide) rfl rfl (by decide) (by decide) (by decide) rfl z233 dX12_busiest_15 (fun lb286 ub286 => ?_)
          refine q_icgt (tgt := 46) cx ⟨by decide, by decide⟩ ⟨by decide, by decide⟩ dX12_busiest_16 (by decide) (fun c287 => ?_) (fun c287 => ?_)
          · exact absurd c287 (by omega)
          · refine q_ald_n cx dX12_busiest_19 rfl (lv_at hl 2 rfl) ?_
            refine q_ild_n cx dX12_busiest_20 rfl (lv_at hl 0 rfl) ?_
            refine q_cVi (As := [.int (q_i ((2 + 1) + 1))]) (rest := []) cx hB (fun _ h => h) hN hmo kmo (by decide) rfl (r_awakeSet0 l g hN hB.2.1 mo hmo kmo ((2 + 1) + 1) (by decide) (by decide) sr hsr ksr z231 z242) q_cX12_286 q_dX12_awakeSet (by decide) rfl rfl hl.1 rfl (Nat.le_of_ble_eq_true rfl) dX12_busiest_21 (fun y289 H locs f288 ry289 h290 hF hB => ?_)
            obtain ⟨rfl, qy289⟩ := h290
            subst qy289
            refine q_cSi (As := [.int (q_i 0)]) (rest := []) cx hB (fun _ h => h) hN (r_bits0 l g hN hB.2.1 0 (by decide) (by decide)) q_cX12_399 q_dX12_bits (by decide) rfl rfl hl.1 rfl (Nat.le_of_ble_eq_true rfl) dX12_busiest_24 (fun y292 H locs f291 ry292 h293 hF hB => ?_)
            obtain ⟨rfl, qy292⟩ := h293
            subst qy292
            refine q_ald_n cx dX12_busiest_27 rfl (lv_at hl 2 rfl) ?_
            refine q_ild_n cx dX12_busiest_28 rfl (lv_at hl 1 rfl) ?_
            refine q_cVi (As := [.int (q_i 1)]) (rest := [.int (q_i 0)]) cx hB (fun _ h => h) hN hmo kmo (by decide) rfl (r_awakeSet0 l g hN hB.2.1 mo hmo kmo 1 (by decide) (by decide) sr hsr ksr z231 z242) q_cX12_286 q_dX12_awakeSet (by decide) rfl rfl hl.1 rfl (Nat.le_of_ble_eq_true rfl) dX12_busiest_29 (fun y295 H locs f294 ry295 h296 hF hB => ?_)
            obtain ⟨rfl, qy295⟩ := h296
            subst qy295
            refine q_cSi (As := [.int (q_i 0)]) (rest := [.int (q_i 0)]) cx hB (fun _ h => h) hN (r_bits0 l g hN hB.2.1 0 (by decide) (by decide)) q_cX12_399 q_dX12_bits (by decide) rfl rfl hl.1 rfl (Nat.le_of_ble_eq_true rfl) dX12_busiest_32 (fun y298 H locs f297 ry298 h299 hF hB => ?_)
            obtain ⟨rfl, qy298⟩ := h299
            subst qy298
            refine q_icle (tgt := 40) cx ⟨by decide, by decide⟩ ⟨by decide, by decide⟩ dX12_busiest_35 (by decide) (fun c300 => ?_) (fun c300 => ?_)
            · refine q_iinc (lv' := [(2, .int (q_i (((2 + 1) + 1) + 1))), (1, .int (q_i 1)), (0, .ref mo)]) cx dX12_busiest_40 hl (k := 0) rfl (by decide) rfl (fun ls hl => ?_)
              refine lv_goto (tgt := 9) cx.1 cx.2.1 dX12_busiest_43 (by decide) ?_
              refine q_ild_n cx dX12_busiest_9 rfl (lv_at hl 0 rfl) ?_
              refine q_ald_n cx dX12_busiest_10 rfl (lv_at hl 2 rfl) ?_
              refine q_gX12_20 cx hB hmo kmo z242 dX12_busiest_11 (fun hb301 kb301 => ?_)
              refine q_iconst cx dX12_busiest_14 ?_
              refine q_iald (lo := 0) (hi := 60) (n := 658) cx hB hsr ksr (by decide) rfl rfl (by decide) (by decide) (by decide) rfl z233 dX12_busiest_15 (fun lb303 ub303 => ?_)
              refine q_icgt (tgt := 46) cx ⟨by decide, by decide⟩ ⟨by decide, by decide⟩ dX12_busiest_16 (by decide) (fun c304 => ?_) (fun c304 => ?_)
              · exact absurd c304 (by omega)
              · refine q_ald_n cx dX12_busiest_19 rfl (lv_at hl 2 rfl) ?_
                refine q_ild_n cx dX12_busiest_20 rfl (lv_at hl 0 rfl) ?_
                refine q_cVi (As := [.int (q_i (((2 + 1) + 1) + 1))]) (rest := []) cx hB (fun _ h => h) hN hmo kmo (by decide) rfl (r_awakeSet0 l g hN hB.2.1 mo hmo kmo (((2 + 1) + 1) + 1) (by decide) (by decide) sr hsr ksr z231 z242) q_cX12_286 q_dX12_awakeSet (by decide) rfl rfl hl.1 rfl (Nat.le_of_ble_eq_true rfl) dX12_busiest_21 (fun y306 H locs f305 ry306 h307 hF hB => ?_)
                obtain ⟨rfl, qy306⟩ := h307
                subst qy306
                refine q_cSi (As := [.int (q_i 0)]) (rest := []) cx hB (fun _ h => h) hN (r_bits0 l g hN hB.2.1 0 (by decide) (by decide)) q_cX12_399 q_dX12_bits (by decide) rfl rfl hl.1 rfl (Nat.le_of_ble_eq_true rfl) dX12_busiest_24 (fun y309 H locs f308 ry309 h310 hF hB => ?_)
                obtain ⟨rfl, qy309⟩ := h310
                subst qy309
                refine q_ald_n cx dX12_busiest_27 rfl (lv_at hl 2 rfl) ?_
                refine q_ild_n cx dX12_busiest_28 rfl (lv_at hl 1 rfl) ?_
                refine q_cVi (As := [.int (q_i 1)]) (rest := [.int (q_i 0)]) cx hB (fun _ h => h) hN hmo kmo (by decide) rfl (r_awakeSet0 l g hN hB.2.1 mo hmo kmo 1 (by decide) (by decide) sr hsr ksr z231 z242) q_cX12_286 q_dX12_awakeSet (by decide) rfl rfl hl.1 rfl (Nat.le_of_ble_eq_true rfl) dX12_busiest_29 (fun y312 H locs f311 ry312 h313 hF hB => ?_)
                obtain ⟨rfl, qy312⟩ := h313
                subst qy312
                refine q_cSi (As := [.int (q_i 0)]) (rest := [.int (q_i 0)]) cx hB (fun _ h => h) hN (r_bits0 l g hN hB.2.1 0 (by decide) (by decide)) q_cX12_399 q_dX12_bits (by decide) rfl rfl hl.1 rfl (Nat.le_of_ble_eq_true rfl) dX12_busiest_32 (fun y315 H locs f314 ry315 h316 hF hB => ?_)
                obtain ⟨rfl, qy315⟩ := h316
                subst qy315
                refine q_icle (tgt := 40) cx ⟨by decide, by decide⟩ ⟨by decide, by decide⟩ dX12_busiest_35 (by decide) (fun c317 => ?_) (fun c317 => ?_)
                · refine q_iinc (lv' := [(2, .int (q_i ((((2 + 1) + 1) + 1) + 1))), (1, .int (q_i 1)), (0, .ref mo)]) cx dX12_busiest_40 hl (k := 0) rfl (by decide) rfl (fun ls hl => ?_)
                  refine lv_goto (tgt := 9) cx.1 cx.2.1 dX12_busiest_43 (by decide) ?_
                  refine q_ild_n cx dX12_busiest_9 rfl (lv_at hl 0 rfl) ?_
                  refine q_ald_n cx dX12_busiest_10 rfl (lv_at hl 2 rfl) ?_
                  refine q_gX12_20 cx hB hmo kmo z242 dX12_busiest_11 (fun hb318 kb318 => ?_)
                  refine q_iconst cx dX12_busiest_14 ?_
                  refine q_iald (lo := 0) (hi := 60) (n := 658) cx hB hsr ksr (by decide) rfl rfl (by decide) (by decide) (by decide) rfl z233 dX12_busiest_15 (fun lb320 ub320 => ?_)
                  refine q_icgt (tgt := 46) cx ⟨by decide, by decide⟩ ⟨by decide, by decide⟩ dX12_busiest_16 (by decide) (fun c321 => ?_) (fun c321 => ?_)
                  · exact absurd c321 (by omega)
                  · refine q_ald_n cx dX12_busiest_19 rfl (lv_at hl 2 rfl) ?_
                    refine q_ild_n cx dX12_busiest_20 rfl (lv_at hl 0 rfl) ?_
                    refine q_cVi (As := [.int (q_i ((((2 + 1) + 1) + 1) + 1))]) (rest := []) cx hB (fun _ h => h) hN hmo kmo (by decide) rfl (r_awakeSet0 l g hN hB.2.1 mo hmo kmo ((((2 + 1) + 1) + 1) + 1) (by decide) (by decide) sr hsr ksr z231 z242) q_cX12_286 q_dX12_awakeSet (by decide) rfl rfl hl.1 rfl (Nat.le_of_ble_eq_true rfl) dX12_busiest_21 (fun y323 H locs f322 ry323 h324 hF hB => ?_)
                    obtain ⟨rfl, qy323⟩ := h324
                    subst qy323
                    refine q_cSi (As := [.int (q_i 0)]) (rest := []) cx hB (fun _ h => h) hN (r_bits0 l g hN hB.2.1 0 (by decide) (by decide)) q_cX12_399 q_dX12_bits (by decide) rfl rfl hl.1 rfl (Nat.le_of_ble_eq_true rfl) dX12_busiest_24 (fun y326 H locs f325 ry326 h327 hF hB => ?_)
                    obtain ⟨rfl, qy326⟩ := h327
                    subst qy326
                    refine q_ald_n cx dX12_busiest_27 rfl (lv_at hl 2 rfl) ?_
                    refine q_ild_n cx dX12_busiest_28 rfl (lv_at hl 1 rfl) ?_
                    refine q_cVi (As := [.int (q_i 1)]) (rest := [.int (q_i 0)]) cx hB (fun _ h => h) hN hmo kmo (by decide) rfl (r_awakeSet0 l g hN hB.2.1 mo hmo kmo 1 (by decide) (by decide) sr hsr ksr z231 z242) q_cX12_286 q_dX12_awakeSet (by decide) rfl rfl hl.1 rfl (Nat.le_of_ble_eq_true rfl) dX12_busiest_29 (fun y329 H locs f328 ry329 h330 hF hB => ?_)
                    obtain ⟨rfl, qy329⟩ := h330
                    subst qy329
                    refine q_cSi (As := [.int (q_i 0)]) (rest := [.int (q_i 0)]) cx hB (fun _ h => h) hN (r_bits0 l g hN hB.2.1 0 (by decide) (by decide)) q_cX12_399 q_dX12_bits (by decide) rfl rfl hl.1 rfl (Nat.le_of_ble_eq_true rfl) dX12_busiest_32 (fun y332 H locs f331 ry332 h333 hF hB => ?_)
                    obtain ⟨rfl, qy332⟩ := h333
                    subst qy332
                    refine q_icle (tgt := 40) cx ⟨by decide, by decide⟩ ⟨by decide, by decide⟩ dX12_busiest_35 (by decide) (fun c334 => ?_) (fun c334 => ?_)
                    · refine q_iinc (lv' := [(2, .int (q_i (((((2 + 1) + 1) + 1) + 1) + 1))), (1, .int (q_i 1)), (0, .ref mo)]) cx dX12_busiest_40 hl (k := 0) rfl (by decide) rfl (fun ls hl => ?_)
                      refine lv_goto (tgt := 9) cx.1 cx.2.1 dX12_busiest_43 (by decide) ?_
                      refine q_ild_n cx dX12_busiest_9 rfl (lv_at hl 0 rfl) ?_
                      refine q_ald_n cx dX12_busiest_10 rfl (lv_at hl 2 rfl) ?_
                      refine q_gX12_20 cx hB hmo kmo z242 dX12_busiest_11 (fun hb335 kb335 => ?_)
                      refine q_iconst cx dX12_busiest_14 ?_
                      refine q_iald (lo := 0) (hi := 60) (n := 658) cx hB hsr ksr (by decide) rfl rfl (by decide) (by decide) (by decide) rfl z233 dX12_busiest_15 (fun lb337 ub337 => ?_)
                      refine q_icgt (tgt := 46) cx ⟨by decide, by decide⟩ ⟨by decide, by decide⟩ dX12_busiest_16 (by decide) (fun c338 => ?_) (fun c338 => ?_)
                      · exact absurd c338 (by omega)
                      · refine q_ald_n cx dX12_busiest_19 rfl (lv_at hl 2 rfl) ?_
                        refine q_ild_n cx dX12_busiest_20 rfl (lv_at hl 0 rfl) ?_
                        refine q_cVi (As := [.int (q_i (((((2 + 1) + 1) + 1) + 1) + 1))]) (rest := []) cx hB (fun _ h => h) hN hmo kmo (by decide) rfl (r_awakeSet0 l g hN hB.2.1 mo hmo kmo (((((2 + 1) + 1) + 1) + 1) + 1) (by decide) (by decide) sr hsr ksr z231 z242) q_cX12_286 q_dX12_awakeSet (by decide) rfl rfl hl.1 rfl (Nat.le_of_ble_eq_true rfl) dX12_busiest_21 (fun y340 H locs f339 ry340 h341 hF hB => ?_)
                        obtain ⟨rfl, qy340⟩ := h341
                        subst qy340
                        refine q_cSi (As := [.int (q_i 0)]) (rest := []) cx hB (fun _ h => h) hN (r_bits0 l g hN hB.2.1 0 (by decide) (by decide)) q_cX12_399 q_dX12_bits (by decide) rfl rfl hl.1 rfl (Nat.le_of_ble_eq_true rfl) dX12_busiest_24 (fun y343 H locs f342 ry343 h344 hF hB => ?_)
                        obtain ⟨rfl, qy343⟩ := h344
                        subst qy343
                        refine q_ald_n cx dX12_busiest_27 rfl (lv_at hl 2 rfl) ?_
                        refine q_ild_n cx dX12_busiest_28 rfl (lv_at hl 1 rfl) ?_
                        refine q_cVi (As := [.int (q_i 1)]) (rest := [.int (q_i 0)]) cx hB (fun _ h => h) hN hmo kmo (by decide) rfl (r_awakeSet0 l g hN hB.2.1 mo hmo kmo 1 (by decide) (by decide) sr hsr ksr z231 z242) q_cX12_286 q_dX12_awakeSet (by decide) rfl rfl hl.1 rfl (Nat.le_of_ble_eq_true rfl) dX12_busiest_29 (fun y346 H locs f345 ry346 h347 hF hB => ?_)
                        obtain ⟨rfl, qy346⟩ := h347
                        subst qy346
                        refine q_cSi (As := [.int (q_i 0)]) (rest := [.int (q_i 0)]) cx hB (fun _ h => h) hN (r_bits0 l g hN hB.2.1 0 (by decide) (by decide)) q_cX12_399 q_dX12_bits (by decide) rfl rfl hl.1 rfl (Nat.le_of_ble_eq_true rfl) dX12_busiest_32 (fun y349 H locs f348 ry349 h350 hF hB => ?_)
                        obtain ⟨rfl, qy349⟩ := h350
                        subst qy349
                        refine q_icle (tgt := 40) cx ⟨by decide, by decide⟩ ⟨by decide, by decide⟩ dX12_busiest_35 (by decide) (fun c351 => ?_) (fun c351 => ?_)
                        · refine q_iinc (lv' := [(2, .int (q_i ((((((2 + 1) + 1) + 1) + 1) + 1) + 1))), (1, .int (q_i 1)), (0, .ref mo)]) cx dX12_busiest_40 hl (k := 0) rfl (by decide) rfl (fun ls hl => ?_)
                          refine lv_goto (tgt := 9) cx.1 cx.2.1 dX12_busiest_43 (by decide) ?_
                          refine q_ild_n cx dX12_busiest_9 rfl (lv_at hl 0 rfl) ?_
                          refine q_ald_n cx dX12_busiest_10 rfl (lv_at hl 2 rfl) ?_
                          refine q_gX12_20 cx hB hmo kmo z242 dX12_busiest_11 (fun hb352 kb352 => ?_)
                          refine q_iconst cx dX12_busiest_14 ?_
                          refine q_iald (lo := 0) (hi := 60) (n := 658) cx hB hsr ksr (by decide) rfl rfl (by decide) (by decide) (by decide) rfl z233 dX12_busiest_15 (fun lb354 ub354 => ?_)
                          refine q_icgt (tgt := 46) cx ⟨by decide, by decide⟩ ⟨by decide, by decide⟩ dX12_busiest_16 (by decide) (fun c355 => ?_) (fun c355 => ?_)
                          · exact absurd c355 (by omega)
                          · refine q_ald_n cx dX12_busiest_19 rfl (lv_at hl 2 rfl) ?_
                            refine q_ild_n cx dX12_busiest_20 rfl (lv_at hl 0 rfl) ?_
                            refine q_cVi (As := [.int (q_i ((((((2 + 1) + 1) + 1) + 1) + 1) + 1))]) (rest := []) cx hB (fun _ h => h) hN hmo kmo (by decide) rfl (r_awakeSet0 l g hN hB.2.1 mo hmo kmo ((((((2 + 1) + 1) + 1) + 1) + 1) + 1) (by decide) (by decide) sr hsr ksr z231 z242) q_cX12_286 q_dX12_awakeSet (by decide) rfl rfl hl.1 rfl (Nat.le_of_ble_eq_true rfl) dX12_busiest_21 (fun y357 H locs f356 ry357 h358 hF hB => ?_)
                            obtain ⟨rfl, qy357⟩ := h358
                            subst qy357
                            refine q_cSi (As := [.int (q_i 0)]) (rest := []) cx hB (fun _ h => h) hN (r_bits0 l g hN hB.2.1 0 (by decide) (by decide)) q_cX12_399 q_dX12_bits (by decide) rfl rfl hl.1 rfl (Nat.le_of_ble_eq_true rfl) dX12_busiest_24 (fun y360 H locs f359 ry360 h361 hF hB => ?_)
                            obtain ⟨rfl, qy360⟩ := h361
                            subst qy360
                            refine q_ald_n cx dX12_busiest_27 rfl (lv_at hl 2 rfl) ?_
                            refine q_ild_n cx dX12_busiest_28 rfl (lv_at hl 1 rfl) ?_
                            refine q_cVi (As := [.int (q_i 1)]) (rest := [.int (q_i 0)]) cx hB (fun _ h => h) hN hmo kmo (by decide) rfl (r_awakeSet0 l g hN hB.2.1 mo hmo kmo 1 (by decide) (by decide) sr hsr ksr z231 z242) q_cX12_286 q_dX12_awakeSet (by decide) rfl rfl hl.1 rfl (Nat.le_of_ble_eq_true rfl) dX12_busiest_29 (fun y363 H locs f362 ry363 h364 hF hB => ?_)
                            obtain ⟨rfl, qy363⟩ := h364
                            subst qy363
                            refine q_cSi (As := [.int (q_i 0)]) (rest := [.int (q_i 0)]) cx hB (fun _ h => h) hN (r_bits0 l g hN hB.2.1 0 (by decide) (by decide)) q_cX12_399 q_dX12_bits (by decide) rfl rfl hl.1 rfl (Nat.le_of_ble_eq_true rfl) dX12_busiest_32 (fun y366 H locs f365 ry366 h367 hF hB => ?_)
                            obtain ⟨rfl, qy366⟩ := h367
                            subst qy366
                            refine q_icle (tgt := 40) cx ⟨by decide, by decide⟩ ⟨by decide, by decide⟩ dX12_busiest_35 (by decide) (fun c368 => ?_) (fun c368 => ?_)
                            · refine q_iinc (lv' := [(2, .int (q_i (((((((2 + 1) + 1) + 1) + 1) + 1) + 1) + 1))), (1, .int (q_i 1)), (0, .ref mo)]) cx dX12_busiest_40 hl (k := 0) rfl (by decide) rfl (fun ls hl => ?_)
                              refine lv_goto (tgt := 9) cx.1 cx.2.1 dX12_busiest_43 (by decide) ?_
                              refine q_ild_n cx dX12_busiest_9 rfl (lv_at hl 0 rfl) ?_
                              refine q_ald_n cx dX12_busiest_10 rfl (lv_at hl 2 rfl) ?_
                              refine q_gX12_20 cx hB hmo kmo z242 dX12_busiest_11 (fun hb369 kb369 => ?_)
                              refine q_iconst cx dX12_busiest_14 ?_
                              refine q_iald (lo := 0) (hi := 60) (n := 658) cx hB hsr ksr (by decide) rfl rfl (by decide) (by decide) (by decide) rfl z233 dX12_busiest_15 (fun lb371 ub371 => ?_)
                              refine q_icgt (tgt := 46) cx ⟨by decide, by decide⟩ ⟨by decide, by decide⟩ dX12_busiest_16 (by decide) (fun c372 => ?_) (fun c372 => ?_)
                              · exact absurd c372 (by omega)
                              · refine q_ald_n cx dX12_busiest_19 rfl (lv_at hl 2 rfl) ?_
                                refine q_ild_n cx dX12_busiest_20 rfl (lv_at hl 0 rfl) ?_
                                refine q_cVi (As := [.int (q_i (((((((2 + 1) + 1) + 1) + 1) + 1) + 1) + 1))]) (rest := []) cx hB (fun _ h => h) hN hmo kmo (by decide) rfl (r_awakeSet0 l g hN hB.2.1 mo hmo kmo (((((((2 + 1) + 1) + 1) + 1) + 1) + 1) + 1) (by decide) (by decide) sr hsr ksr z231 z242) q_cX12_286 q_dX12_awakeSet (by decide) rfl rfl hl.1 rfl (Nat.le_of_ble_eq_true rfl) dX12_busiest_21 (fun y374 H locs f373 ry374 h375 hF hB => ?_)
                                obtain ⟨rfl, qy374⟩ := h375
                                subst qy374
                                refine q_cSi (As := [.int (q_i 0)]) (rest := []) cx hB (fun _ h => h) hN (r_bits0 l g hN hB.2.1 0 (by decide) (by decide)) q_cX12_399 q_dX12_bits (by decide) rfl rfl hl.1 rfl (Nat.le_of_ble_eq_true rfl) dX12_busiest_24 (fun y377 H locs f376 ry377 h378 hF hB => ?_)
                                obtain ⟨rfl, qy377⟩ := h378
                                subst qy377
                                refine q_ald_n cx dX12_busiest_27 rfl (lv_at hl 2 rfl) ?_
                                refine q_ild_n cx dX12_busiest_28 rfl (lv_at hl 1 rfl) ?_
                                refine q_cVi (As := [.int (q_i 1)]) (rest := [.int (q_i 0)]) cx hB (fun _ h => h) hN hmo kmo (by decide) rfl (r_awakeSet0 l g hN hB.2.1 mo hmo kmo 1 (by decide) (by decide) sr hsr ksr z231 z242) q_cX12_286 q_dX12_awakeSet (by decide) rfl rfl hl.1 rfl (Nat.le_of_ble_eq_true rfl) dX12_busiest_29 (fun y380 H locs f379 ry380 h381 hF hB => ?_)
                                obtain ⟨rfl, qy380⟩ := h381
                                subst qy380
                                refine q_cSi (As := [.int (q_i 0)]) (rest := [.int (q_i 0)]) cx hB (fun _ h => h) hN (r_bits0 l g hN hB.2.1 0 (by decide) (by decide)) q_cX12_399 q_dX12_bits (by decide) rfl rfl hl.1 rfl (Nat.le_of_ble_eq_true rfl) dX12_busiest_32 (fun y383 H locs f382 ry383 h384 hF hB => ?_)
                                obtain ⟨rfl, qy383⟩ := h384
                                subst qy383
                                refine q_icle (tgt := 40) cx ⟨by decide, by decide⟩ ⟨by decide, by decide⟩ dX12_busiest_35 (by decide) (fun c385 => ?_) (fun c385 => ?_)
                                · refine q_iinc (lv' := [(2, .int (q_i ((((((((2 + 1) + 1) + 1) + 1) + 1) + 1) + 1) + 1))), (1, .int (q_i 1)), (0, .ref mo)]) cx dX12_busiest_40 hl (k := 0) rfl (by decide) rfl (fun ls hl => ?_)
                                  refine lv_goto (tgt := 9) cx.1 cx.2.1 dX12_busiest_43 (by decide) ?_
                                  refine q_ild_n cx dX12_busiest_9 rfl (lv_at hl 0 rfl) ?_
                                  refine q_ald_n cx dX12_busiest_10 rfl (lv_at hl 2 rfl) ?_
                                  refine q_gX12_20 cx hB hmo kmo z242 dX12_busiest_11 (fun hb386 kb386 => ?_)
                                  refine q_iconst cx dX12_busiest_14 ?_
                                  refine q_iald (lo := 0) (hi := 60) (n := 658) cx hB hsr ksr (by decide) rfl rfl (by decide) (by decide) (by decide) rfl z233 dX12_busiest_15 (fun lb388 ub388 => ?_)
                                  refine q_icgt (tgt := 46) cx ⟨by decide, by decide⟩ ⟨by decide, by decide⟩ dX12_busiest_16 (by decide) (fun c389 => ?_) (fun c389 => ?_)
                                  · exact absurd c389 (by omega)
                                  · refine q_ald_n cx dX12_busiest_19 rfl (lv_at hl 2 rfl) ?_
                                    refine q_ild_n cx dX12_busiest_20 rfl (lv_at hl 0 rfl) ?_
                                    refine q_cVi (As := [.int (q_i ((((((((2 + 1) + 1) + 1) + 1) + 1) + 1) + 1) + 1))]) (rest := []) cx hB (fun _ h => h) hN hmo kmo (by decide) rfl (r_awakeSet0 l g hN hB.2.1 mo hmo kmo ((((((((2 + 1) + 1) + 1) + 1) + 1) + 1) + 1) + 1) (by decide) (by decide) sr hsr ksr z231 z242) q_cX12_286 q_dX12_awakeSet (by decide) rfl rfl hl.1 rfl (Nat.le_of_ble_eq_true rfl) dX12_busiest_21 (fun y391 H locs f390 ry391 h392 hF hB => ?_)
                                    obtain ⟨rfl, qy391⟩ := h392
                                    subst qy391
                                    refine q_cSi (As := [.int (q_i 0)]) (rest := []) cx hB (fun _ h => h) hN (r_bits0 l g hN hB.2.1 0 (by decide) (by decide)) q_cX12_399 q_dX12_bits (by decide) rfl rfl hl.1 rfl (Nat.le_of_ble_eq_true rfl) dX12_busiest_24 (fun y394 H locs f393 ry394 h395 hF hB => ?_)
                                    obtain ⟨rfl, qy394⟩ := h395
                                    subst qy394
                                    refine q_ald_n cx dX12_busiest_27 rfl (lv_at hl 2 rfl) ?_
                                    refine q_ild_n cx dX12_busiest_28 rfl (lv_at hl 1 rfl) ?_
                                    refine q_cVi (As := [.int (q_i 1)]) (rest := [.int (q_i 0)]) cx hB (fun _ h => h) hN hmo kmo (by decide) rfl (r_awakeSet0 l g hN hB.2.1 mo hmo kmo 1 (by decide) (by decide) sr hsr ksr z231 z242) q_cX12_286 q_dX12_awakeSet (by decide) rfl rfl hl.1 rfl (Nat.le_of_ble_eq_true rfl) dX12_busiest_29 (fun y397 H locs f396 ry397 h398 hF hB => ?_)
                                    obtain ⟨rfl, qy397⟩ := h398
                                    subst qy397
                                    refine q_cSi (As := [.int (q_i 0)]) (rest := [.int (q_i 0)]) cx hB (fun _ h => h) hN (r_bits0 l g hN hB.2.1 0 (by decide) (by decide)) q_cX12_399 q_dX12_bits (by decide) rfl rfl hl.1 rfl (Nat.le_of_ble_eq_true rfl) dX12_busiest_32 (fun y400 H locs f399 ry400 h401 hF hB => ?_)
                                    obtain ⟨rfl, qy400⟩ := h401
                                    subst qy400
                                    refine q_icle (tgt := 40) cx ⟨by decide, by decide⟩ ⟨by decide, by decide⟩ dX12_busiest_35 (by decide) (fun c402 => ?_) (fun c402 => ?_)
                                    · refine q_iinc (lv' := [(2, .int (q_i (((((((((2 + 1) + 1) + 1) + 1) + 1) + 1) + 1) + 1) + 1))), (1, .int (q_i 1)), (0, .ref mo)]) cx dX12_busiest_40 hl (k := 0) rfl (by decide) rfl (fun ls hl => ?_)
                                      refine lv_goto (tgt := 9) cx.1 cx.2.1 dX12_busiest_43 (by decide) ?_
                                      refine q_ild_n cx dX12_busiest_9 rfl (lv_at hl 0 rfl) ?_
                                      refine q_ald_n cx dX12_busiest_10 rfl (lv_at hl 2 rfl) ?_
                                      refine q_gX12_20 cx hB hmo kmo z242 dX12_busiest_11 (fun hb403 kb403 => ?_)
                                      refine q_iconst cx dX12_busiest_14 ?_
                                      refine q_iald (lo := 0) (hi := 60) (n := 658) cx hB hsr ksr (by decide) rfl rfl (by decide) (by decide) (by decide) rfl z233 dX12_busiest_15 (fun lb405 ub405 => ?_)
                                      refine q_icgt (tgt := 46) cx ⟨by decide, by decide⟩ ⟨by decide, by decide⟩ dX12_busiest_16 (by decide) (fun c406 => ?_) (fun c406 => ?_)
                                      · exact absurd c406 (by omega)
                                      · refine q_ald_n cx dX12_busiest_19 rfl (lv_at hl 2 rfl) ?_
                                        refine q_ild_n cx dX12_busiest_20 rfl (lv_at hl 0 rfl) ?_
                                        refine q_cVi (As := [.int (q_i (((((((((2 + 1) + 1) + 1) + 1) + 1) + 1) + 1) + 1) + 1))]) (rest := []) cx hB (fun _ h => h) hN hmo kmo (by decide) rfl (r_awakeSet0 l g hN hB.2.1 mo hmo kmo (((((((((2 + 1) + 1) + 1) + 1) + 1) + 1) + 1) + 1) + 1) (by decide) (by decide) sr hsr ksr z231 z242) q_cX12_286 q_dX12_awakeSet (by decide) rfl rfl hl.1 rfl (Nat.le_of_ble_eq_true rfl) dX12_busiest_21 (fun y408 H locs f407 ry408 h409 hF hB => ?_)
                                        obtain ⟨rfl, qy408⟩ := h409
                                        subst qy408
                                        refine q_cSi (As := [.int (q_i 0)]) (rest := []) cx hB (fun _ h => h) hN (r_bits0 l g hN hB.2.1 0 (by decide) (by decide)) q_cX12_399 q_dX12_bits (by decide) rfl rfl hl.1 rfl (Nat.le_of_ble_eq_true rfl) dX12_busiest_24 (fun y411 H locs f410 ry411 h412 hF hB => ?_)
                                        obtain ⟨rfl, qy411⟩ := h412
                                        subst qy411
                                        refine q_ald_n cx dX12_busiest_27 rfl (lv_at hl 2 rfl) ?_
                                        refine q_ild_n cx dX12_busiest_28 rfl (lv_at hl 1 rfl) ?_
                                        refine q_cVi (As := [.int (q_i 1)]) (rest := [.int (q_i 0)]) cx hB (fun _ h => h) hN hmo kmo (by decide) rfl (r_awakeSet0 l g hN hB.2.1 mo hmo kmo 1 (by decide) (by decide) sr hsr ksr z231 z242) q_cX12_286 q_dX12_awakeSet (by decide) rfl rfl hl.1 rfl (Nat.le_of_ble_eq_true rfl) dX12_busiest_29 (fun y414 H locs f413 ry414 h415 hF hB => ?_)
                                        obtain ⟨rfl, qy414⟩ := h415
                                        subst qy414
                                        refine q_cSi (As := [.int (q_i 0)]) (rest := [.int (q_i 0)]) cx hB (fun _ h => h) hN (r_bits0 l g hN hB.2.1 0 (by decide) (by decide)) q_cX12_399 q_dX12_bits (by decide) rfl rfl hl.1 rfl (Nat.le_of_ble_eq_true rfl) dX12_busiest_32 (fun y417 H locs f416 ry417 h418 hF hB => ?_)
                                        obtain ⟨rfl, qy417⟩ := h418
                                        subst qy417
                                        refine q_icle (tgt := 40) cx ⟨by decide, by decide⟩ ⟨by decide, by decide⟩ dX12_busiest_35 (by decide) (fun c419 => ?_) (fun c419 => ?_)
                                        · refine q_iinc (lv' := [(2, .int (q_i ((((((((((2 + 1) + 1) + 1) + 1) + 1) + 1) + 1) + 1) + 1) + 1))), (1, .int (q_i 1)), (0, .ref mo)]) cx dX12_busiest_40 hl (k := 0) rfl (by decide) rfl (fun ls hl => ?_)
                                          refine lv_goto (tgt := 9) cx.1 cx.2.1 dX12_busiest_43 (by decide) ?_
                                          refine q_ild_n cx dX12_busiest_9 rfl (lv_at hl 0 rfl) ?_
                                          refine q_ald_n cx dX12_busiest_10 rfl (lv_at hl 2 rfl) ?_
                                          refine q_gX12_20 cx hB hmo kmo z242 dX12_busiest_11 (fun hb420 kb420 => ?_)
                                          refine q_iconst cx dX12_busiest_14 ?_
                                          refine q_iald (lo := 0) (hi := 60) (n := 658) cx hB hsr ksr (by decide) rfl rfl (by decide) (by decide) (by decide) rfl z233 dX12_busiest_15 (fun lb422 ub422 => ?_)
                                          refine q_icgt (tgt := 46) cx ⟨by decide, by decide⟩ ⟨by decide, by decide⟩ dX12_busiest_16 (by decide) (fun c423 => ?_) (fun c423 => ?_)
                                          · exact absurd c423 (by omega)
                                          · refine q_ald_n cx dX12_busiest_19 rfl (lv_at hl 2 rfl) ?_
                                            refine q_ild_n cx dX12_busiest_20 rfl (lv_at hl 0 rfl) ?_
                                            refine q_cVi (As := [.int (q_i ((((((((((2 + 1) + 1) + 1) + 1) + 1) + 1) + 1) + 1) + 1) + 1))]) (rest := []) cx hB (fun _ h => h) hN hmo kmo (by decide) rfl (r_awakeSet0 l g hN hB.2.1 mo hmo kmo ((((((((((2 + 1) + 1) + 1) + 1) + 1) + 1) + 1) + 1) + 1) + 1) (by decide) (by decide) sr hsr ksr z231 z242) q_cX12_286 q_dX12_awakeSet (by decide) rfl rfl hl.1 rfl (Nat.le_of_ble_eq_true rfl) dX12_busiest_21 (fun y425 H locs f424 ry425 h426 hF hB => ?_)
                                            obtain ⟨rfl, qy425⟩ := h426
                                            subst qy425
                                            refine q_cSi (As := [.int (q_i 0)]) (rest := []) cx hB (fun _ h => h) hN (r_bits0 l g hN hB.2.1 0 (by decide) (by decide)) q_cX12_399 q_dX12_bits (by decide) rfl rfl hl.1 rfl (Nat.le_of_ble_eq_true rfl) dX12_busiest_24 (fun y428 H locs f427 ry428 h429 hF hB => ?_)
                                            obtain ⟨rfl, qy428⟩ := h429
                                            subst qy428
                                            refine q_ald_n cx dX12_busiest_27 rfl (lv_at hl 2 rfl) ?_
                                            refine q_ild_n cx dX12_busiest_28 rfl (lv_at hl 1 rfl) ?_
                                            refine q_cVi (As := [.int (q_i 1)]) (rest := [.int (q_i 0)]) cx hB (fun _ h => h) hN hmo kmo (by decide) rfl (r_awakeSet0 l g hN hB.2.1 mo hmo kmo 1 (by decide) (by decide) sr hsr ksr z231 z242) q_cX12_286 q_dX12_awakeSet (by decide) rfl rfl hl.1 rfl (Nat.le_of_ble_eq_true rfl) dX12_busiest_29 (fun y431 H locs f430 ry431 h432 hF hB => ?_)
                                            obtain ⟨rfl, qy431⟩ := h432
                                            subst qy431
                                            refine q_cSi (As := [.int (q_i 0)]) (rest := [.int (q_i 0)]) cx hB (fun _ h => h) hN (r_bits0 l g hN hB.2.1 0 (by decide) (by decide)) q_cX12_399 q_dX12_bits (by decide) rfl rfl hl.1 rfl (Nat.le_of_ble_eq_true rfl) dX12_busiest_32 (fun y434 H locs f433 ry434 h435 hF hB => ?_)
                                            obtain ⟨rfl, qy434⟩ := h435
                                            subst qy434
                                            refine q_icle (tgt := 40) cx ⟨by decide, by decide⟩ ⟨by decide, by decide⟩ dX12_busiest_35 (by decide) (fun c436 => ?_) (fun c436 => ?_)
                                            · refine q_iinc (lv' := [(2, .int (q_i (((((((((((2 + 1) + 1) + 1) + 1) + 1) + 1) + 1) + 1) + 1) + 1) + 1))), (1, .int (q_i 1)), (0, .ref mo)]) cx dX12_busiest_40 hl (k := 0) rfl (by decide) rfl (fun ls hl => ?_)
                                              refine lv_goto (tgt := 9) cx.1 cx.2.1 dX12_busiest_43 (by decide) ?_
                                              refine q_ild_n cx dX12_busiest_9 rfl (lv_at hl 0 rfl) ?_
                                              refine q_ald_n cx dX12_busiest_10 rfl (lv_at hl 2 rfl) ?_
                                              refine q_gX12_20 cx hB hmo kmo z242 dX12_busiest_11 (fun hb437 kb437 => ?_)
                                              refine q_iconst cx dX12_busiest_14 ?_
                                              refine q_iald (lo := 0) (hi := 60) (n := 658) cx hB hsr ksr (by decide) rfl rfl (by decide) (by decide) (by decide) rfl z233 dX12_busiest_15 (fun lb439 ub439 => ?_)
                                              refine q_icgt (tgt := 46) cx ⟨by decide, by decide⟩ ⟨by decide, by decide⟩ dX12_busiest_16 (by decide) (fun c440 => ?_) (fun c440 => ?_)
                                              · refine q_ild_n cx dX12_busiest_46 rfl (lv_at hl 1 rfl) ?_
                                                refine q_iret cx hr hlk hB dX12_busiest_47 ⟨by decide, by decide⟩ ?_
                                                exact ⟨rfl, z222⟩
                                              · exact absurd c440 (by omega)
                                            · exact absurd c436 (by omega)
                                        · exact absurd c419 (by omega)
                                    · exact absurd c402 (by omega)
                                · exact absurd c385 (by omega)
                            · exact absurd c368 (by omega)
                        · exact absurd c351 (by omega)
                    · exact absurd c334 (by omega)
                · exact absurd c317 (by omega)
            · exact absurd c300 (by omega)
        · exact absurd c283 (by omega)
    · exact absurd c266 (by omega)
set_option maxHeartbeats 4000000 in
set_option maxRecDepth 100000 in
theorem p_widest (l : Launch) (g : q_G) {K : Nat → Nat} {L : List Nat} (hN : L.Nodup) {f : Nat → va_E} (hT : q_Ty g K L f) (mo : Nat) (hmo : mo ∈ L) (kmo : K mo = 12) (bu : Nat) (hbu : bu ∈ L) (kbu : K bu = 150) (sr : Nat) (hsr : sr ∈ L) (ksr : K sr = 151) (sd : Nat) (hsd : sd ∈ L) (ksd : K sd = 152) (as : Nat) (has : as ∈ L) (kas : K as = 153) (aw : Nat) (haw : aw ∈ L) (kaw : K aw = 154) (pa : Nat) (hpa : pa ∈ L) (kpa : K pa = 155) (nm : Nat) (hnm : nm ∈ L) (knm : K nm = 156) (snm : Nat) (hsnm : snm ∈ L) (ksnm : K snm = 157) (anm : Nat) (hanm : anm ∈ L) (kanm : K anm = 158) (hf0 : q_z f mo 2 = 0) (hf1 : q_z f mo 8 = 0) (hf2 : q_z f mo 9 = (-1)) (hf3 : q_z f mo 10 = 0) (hf4 : q_z f mo 11 = (-1)) (hf5 : q_z f mo 21 = 0) (hf6 : q_z f mo 22 = 0) (hf7 : q_z f mo 40 = 0) (hf8 : q_z f sr 0 = 0) (hf9 : q_z f sr 1 = 0) (hf10 : q_z f sr 2 = 12) (hf11 : q_z f sr 3 = 0) (hf12 : q_z f sr 4 = 0) (hf13 : q_z f sr 5 = 1) (hf14 : q_z f sr 6 = 2) (hf15 : q_z f sr 7 = 5) (hf16 : q_z f sr 8 = 3) (hf17 : q_z f sr 9 = 0) (hr0 : q_r f mo 1 = bu) (hr1 : q_r f mo 13 = sr) (hr2 : q_r f mo 14 = sd) (hr3 : q_r f mo 15 = as) (hr4 : q_r f mo 16 = aw) (hr5 : q_r f mo 17 = pa) (hr6 : q_r f mo 18 = nm) (hr7 : q_r f mo 19 = snm) (hr8 : q_r f mo 20 = anm) : q_Ct l g K L yX12_widest cX12_widest 4 (some .int) 0 0 [.ref mo] f [(12, 0, 40), (150, 0, 599), (151, 0, 657), (152, 0, 657), (153, 0, 657), (154, 0, 657), (155, 0, 3947), (156, 0, 9), (157, 0, 9), (158, 0, 9)] (q_Pi (fun (z : Int) (f1 : Nat → va_E) => z = 0 ∧ q_z f1 mo 0 = 0)) := by
  refine q_ofb (by decide +kernel) hN hT (Nat.le_of_ble_eq_true rfl) ?_
  intro p e s m below meth c ls cx hr hlk hB hl
  have hl : lv_has ls 4 [(0, .ref mo)] := hl
  obtain ⟨H, hH⟩ : ∃ H : Heap, H = s.heap := ⟨_, rfl⟩
  obtain ⟨locs, hlocs⟩ : ∃ z : List Loc, z = [] := ⟨_, rfl⟩
  rw [← hH, ← hlocs] at hB
  rw [← hH, ← hlocs]
  refine q_ald_n cx dX12_widest_0 rfl (lv_at hl 0 rfl) ?_
  refine q_iconst cx dX12_widest_1 ?_
  refine q_pX12_75 cx hB hmo kmo ⟨by decide, by decide⟩ (by decide) (by decide) rfl dX12_widest_2 (fun H locs f34 ef34 z35 hB => ?_)
  have z36 : q_z f34 mo 2 = 0 := by rw [ef34, q_setz (Or.inr (by decide))]; exact hf0
  have z37 : q_z f34 mo 8 = 0 := by rw [ef34, q_setz (Or.inr (by decide))]; exact hf1
  have z38 : q_z f34 mo 9 = (-1) := by rw [ef34, q_setz (Or.inr (by decide))]; exact hf2
  have z39 : q_z f34 mo 10 = 0 := by rw [ef34, q_setz (Or.inr (by decide))]; exact hf3
  have z40 : q_z f34 mo 11 = (-1) := by rw [ef34, q_setz (Or.inr (by decide))]; exact hf4
  have z41 : q_z f34 mo 21 = 0 := by rw [ef34, q_setz (Or.inr (by decide))]; exact hf5
  have z42 : q_z f34 mo 22 = 0 := by rw [ef34, q_setz (Or.inr (by decide))]; exact hf6
  have z43 : q_z f34 mo 40 = 0 := by rw [ef34, q_setz (Or.inr (by decide))]; exact hf7
  have z44 : q_z f34 sr 0 = 0 := by rw [ef34, q_setz (Or.inl (fun q => by rw [q, kmo] at ksr; exact absurd ksr (by decide)))]; exact hf8
  have z45 : q_z f34 sr 1 = 0 := by rw [ef34, q_setz (Or.inr (by decide))]; exact hf9
  have z46 : q_z f34 sr 2 = 12 := by rw [ef34, q_setz (Or.inr (by decide))]; exact hf10
  have z47 : q_z f34 sr 3 = 0 := by rw [ef34, q_setz (Or.inr (by decide))]; exact hf11
  have z48 : q_z f34 sr 4 = 0 := by rw [ef34, q_setz (Or.inr (by decide))]; exact hf12
  have z49 : q_z f34 sr 5 = 1 := by rw [ef34, q_setz (Or.inr (by decide))]; exact hf13
  have z50 : q_z f34 sr 6 = 2 := by rw [ef34, q_setz (Or.inr (by decide))]; exact hf14
  have z51 : q_z f34 sr 7 = 5 := by rw [ef34, q_setz (Or.inr (by decide))]; exact hf15
  have z52 : q_z f34 sr 8 = 3 := by rw [ef34, q_setz (Or.inr (by decide))]; exact hf16
  have z53 : q_z f34 sr 9 = 0 := by rw [ef34, q_setz (Or.inr (by decide))]; exact hf17
  have z54 : q_r f34 mo 1 = bu := by rw [ef34, q_setr (Or.inr (by decide))]; exact hr0
  have z55 : q_r f34 mo 13 = sr := by rw [ef34, q_setr (Or.inr (by decide))]; exact hr1
  have z56 : q_r f34 mo 14 = sd := by rw [ef34, q_setr (Or.inr (by decide))]; exact hr2
  have z57 : q_r f34 mo 15 = as := by rw [ef34, q_setr (Or.inr (by decide))]; exact hr3
  have z58 : q_r f34 mo 16 = aw := by rw [ef34, q_setr (Or.inr (by decide))]; exact hr4
  have z59 : q_r f34 mo 17 = pa := by rw [ef34, q_setr (Or.inr (by decide))]; exact hr5
  have z60 : q_r f34 mo 18 = nm := by rw [ef34, q_setr (Or.inr (by decide))]; exact hr6
  have z61 : q_r f34 mo 19 = snm := by rw [ef34, q_setr (Or.inr (by decide))]; exact hr7
  have z62 : q_r f34 mo 20 = anm := by rw [ef34, q_setr (Or.inr (by decide))]; exact hr8
  refine q_iconst cx dX12_widest_5 ?_
  refine lv_istore_n (lv' := [(1, .int (q_i 0)), (0, .ref mo)]) cx.1 cx.2.1 dX12_widest_6 rfl hl (by decide) rfl (fun ls hl => ?_)
  refine q_iconst cx dX12_widest_7 ?_
  refine lv_istore_n (lv' := [(2, .int (q_i 0)), (1, .int (q_i 0)), (0, .ref mo)]) cx.1 cx.2.1 dX12_widest_8 rfl hl (by decide) rfl (fun ls hl => ?_)
  refine q_ild_n cx dX12_widest_9 rfl (lv_at hl 0 rfl) ?_
  refine q_ald_n cx dX12_widest_10 rfl (lv_at hl 2 rfl) ?_
  refine q_gX12_20 cx hB hmo kmo z55 dX12_widest_11 (fun hb63 kb63 => ?_)
  refine q_iconst cx dX12_widest_14 ?_
  refine q_iald (lo := 0) (hi := 10) (n := 658) cx hB hsr ksr (by decide) rfl rfl (by decide) (by decide) (by decide) rfl z44 dX12_widest_15 (fun lb65 ub65 => ?_)
  refine q_icge (tgt := 54) cx ⟨by decide, by decide⟩ ⟨by decide, by decide⟩ dX12_widest_16 (by decide) (fun c66 => ?_) (fun c66 => ?_)
  · refine q_ild_n cx dX12_widest_54 rfl (lv_at hl 1 rfl) ?_
    refine q_iret cx hr hlk hB dX12_widest_55 ⟨by decide, by decide⟩ ?_
    exact ⟨rfl, z35⟩
  · exact absurd c66 (by omega)
set_option maxHeartbeats 4000000 in
set_option maxRecDepth 100000 in
theorem p_takesIn (l : Launch) (g : q_G) {K : Nat → Nat} {L : List Nat} (hN : L.Nodup) {f : Nat → va_E} (hT : q_Ty g K L f) (mo : Nat) (hmo : mo ∈ L) (kmo : K mo = 12) (bu : Nat) (hbu : bu ∈ L) (kbu : K bu = 150) (sr : Nat) (hsr : sr ∈ L) (ksr : K sr = 151) (sd : Nat) (hsd : sd ∈ L) (ksd : K sd = 152) (as : Nat) (has : as ∈ L) (kas : K as = 153) (aw : Nat) (haw : aw ∈ L) (kaw : K aw = 154) (pa : Nat) (hpa : pa ∈ L) (kpa : K pa = 155) (nm : Nat) (hnm : nm ∈ L) (knm : K nm = 156) (snm : Nat) (hsnm : snm ∈ L) (ksnm : K snm = 157) (anm : Nat) (hanm : anm ∈ L) (kanm : K anm = 158) (hf0 : q_z f mo 2 = 0) (hf1 : q_z f mo 8 = 0) (hf2 : q_z f mo 9 = (-1)) (hf3 : q_z f mo 10 = 0) (hf4 : q_z f mo 11 = (-1)) (hf5 : q_z f mo 21 = 0) (hf6 : q_z f mo 22 = 0) (hf7 : q_z f mo 40 = 0) (hf8 : q_z f sr 0 = 0) (hf9 : q_z f sr 1 = 0) (hf10 : q_z f sr 2 = 12) (hf11 : q_z f sr 3 = 0) (hf12 : q_z f sr 4 = 0) (hf13 : q_z f sr 5 = 1) (hf14 : q_z f sr 6 = 2) (hf15 : q_z f sr 7 = 5) (hf16 : q_z f sr 8 = 3) (hf17 : q_z f sr 9 = 0) (hr0 : q_r f mo 1 = bu) (hr1 : q_r f mo 13 = sr) (hr2 : q_r f mo 14 = sd) (hr3 : q_r f mo 15 = as) (hr4 : q_r f mo 16 = aw) (hr5 : q_r f mo 17 = pa) (hr6 : q_r f mo 18 = nm) (hr7 : q_r f mo 19 = snm) (hr8 : q_r f mo 20 = anm) : q_Ct l g K L yX12_takesIn cX12_takesIn 4 (some .int) 3 66 [.ref mo] f [(12, 0, 40), (150, 0, 599), (151, 0, 657), (152, 0, 657), (153, 0, 657), (154, 0, 657), (155, 0, 3947), (156, 0, 9), (157, 0, 9), (158, 0, 9)] (q_Pi (fun (z : Int) (f1 : Nat → va_E) => z = (-1) ∧ q_z f1 mo 0 = 0)) := by
  refine q_ofb (by decide +kernel) hN hT (Nat.le_of_ble_eq_true rfl) ?_
  intro p e s m below meth c ls cx hr hlk hB hl
  have hl : lv_has ls 4 [(0, .ref mo)] := hl
  have J21 : ∀ (n : Nat) (f21 : Nat → va_E) (v21_1 : Int) (lv21_1 : 0 ≤ v21_1) (uv21_1 : v21_1 ≤ 0) (v21_2 : Int) (lv21_2 : 0 ≤ v21_2) (uv21_2 : v21_2 ≤ 200) (v21_3 : Int) (lv21_3 : 0 ≤ v21_3) (uv21_3 : v21_3 ≤ 0) (w21_mo_2 : Int) (lw21_mo_2 : 0 ≤ w21_mo_2) (uw21_mo_2 : w21_mo_2 ≤ 0) (w21_mo_8 : Int) (lw21_mo_8 : 0 ≤ w21_mo_8) (uw21_mo_8 : w21_mo_8 ≤ 0) (w21_mo_9 : Int) (lw21_mo_9 : (-1) ≤ w21_mo_9) (uw21_mo_9 : w21_mo_9 ≤ (-1)) (w21_mo_10 : Int) (lw21_mo_10 : 0 ≤ w21_mo_10) (uw21_mo_10 : w21_mo_10 ≤ 0) (w21_mo_11 : Int) (lw21_mo_11 : (-1) ≤ w21_mo_11) (uw21_mo_11 : w21_mo_11 ≤ (-1)) (w21_mo_21 : Int) (lw21_mo_21 : 0 ≤ w21_mo_21) (uw21_mo_21 : w21_mo_21 ≤ 0) (w21_mo_22 : Int) (lw21_mo_22 : 0 ≤ w21_mo_22) (uw21_mo_22 : w21_mo_22 ≤ 0) (w21_mo_40 : Int) (lw21_mo_40 : 0 ≤ w21_mo_40) (uw21_mo_40 : w21_mo_40 ≤ 0) (w21_sr_0 : Int) (lw21_sr_0 : 0 ≤ w21_sr_0) (uw21_sr_0 : w21_sr_0 ≤ 0) (w21_sr_1 : Int) (lw21_sr_1 : 0 ≤ w21_sr_1) (uw21_sr_1 : w21_sr_1 ≤ 0) (w21_sr_2 : Int) (lw21_sr_2 : 12 ≤ w21_sr_2) (uw21_sr_2 : w21_sr_2 ≤ 12) (w21_sr_4 : Int) (lw21_sr_4 : 0 ≤ w21_sr_4) (uw21_sr_4 : w21_sr_4 ≤ 0) (w21_sr_5 : Int) (lw21_sr_5 : 1 ≤ w21_sr_5) (uw21_sr_5 : w21_sr_5 ≤ 1) (w21_sr_6 : Int) (lw21_sr_6 : 2 ≤ w21_sr_6) (uw21_sr_6 : w21_sr_6 ≤ 2) (w21_sr_7 : Int) (lw21_sr_7 : 5 ≤ w21_sr_7) (uw21_sr_7 : w21_sr_7 ≤ 5) (w21_sr_8 : Int) (lw21_sr_8 : 3 ≤ w21_sr_8) (uw21_sr_8 : w21_sr_8 ≤ 3) (w21_sr_9 : Int) (lw21_sr_9 : 0 ≤ w21_sr_9) (uw21_sr_9 : w21_sr_9 ≤ 0) (w21_mo_0 : Int) (lw21_mo_0 : 0 ≤ w21_mo_0) (uw21_mo_0 : w21_mo_0 ≤ 0) (w21_sr_3 : Int) (lw21_sr_3 : 0 ≤ w21_sr_3) (uw21_sr_3 : w21_sr_3 ≤ 200) (hj_mo_2 : q_z f21 mo 2 = w21_mo_2) (hj_mo_8 : q_z f21 mo 8 = w21_mo_8) (hj_mo_9 : q_z f21 mo 9 = w21_mo_9) (hj_mo_10 : q_z f21 mo 10 = w21_mo_10) (hj_mo_11 : q_z f21 mo 11 = w21_mo_11) (hj_mo_21 : q_z f21 mo 21 = w21_mo_21) (hj_mo_22 : q_z f21 mo 22 = w21_mo_22) (hj_mo_40 : q_z f21 mo 40 = w21_mo_40) (hj_sr_0 : q_z f21 sr 0 = w21_sr_0) (hj_sr_1 : q_z f21 sr 1 = w21_sr_1) (hj_sr_2 : q_z f21 sr 2 = w21_sr_2) (hj_sr_4 : q_z f21 sr 4 = w21_sr_4) (hj_sr_5 : q_z f21 sr 5 = w21_sr_5) (hj_sr_6 : q_z f21 sr 6 = w21_sr_6) (hj_sr_7 : q_z f21 sr 7 = w21_sr_7) (hj_sr_8 : q_z f21 sr 8 = w21_sr_8) (hj_sr_9 : q_z f21 sr 9 = w21_sr_9) (hj_mo_0 : q_z f21 mo 0 = w21_mo_0) (hj_sr_3 : q_z f21 sr 3 = w21_sr_3) (hq_mo_1 : q_r f21 mo 1 = bu) (hq_mo_13 : q_r f21 mo 13 = sr) (hq_mo_14 : q_r f21 mo 14 = sd) (hq_mo_15 : q_r f21 mo 15 = as) (hq_mo_16 : q_r f21 mo 16 = aw) (hq_mo_17 : q_r f21 mo 17 = pa) (hq_mo_18 : q_r f21 mo 18 = nm) (hq_mo_19 : q_r f21 mo 19 = snm) (hq_mo_20 : q_r f21 mo 20 = anm) (hti : w21_sr_3 = v21_2) (hmu : (Int.toNat (2147483647 - v21_2)) < n) (H : Heap) (locs : List Loc) (hB : q_B g K L (fun q => q ∈ L) [(12, 0, 40), (150, 0, 599), (151, 0, 657), (152, 0, 657), (153, 0, 657), (154, 0, 657), (155, 0, 3947), (156, 0, 9), (157, 0, 9), (158, 0, 9)] f f21 s H locs) (ls : Array Slot) (hl : lv_has ls 4 [(0, .ref mo), (1, .int (q_i v21_1)), (2, .int (q_i v21_2)), (3, .int (q_i v21_3))]), W p l e { frames := 3, cells := 0, slots := 0, locals := 66 } s m ([.ref mo] : List Value).toArray below meth c H locs 0 0 (MQ below (q_Q g K L [(12, 0, 40), (150, 0, 599), (151, 0, 657), (152, 0, 657), (153, 0, 657), (154, 0, 657), (155, 0, 3947), (156, 0, 9), (157, 0, 9), (158, 0, 9)] f (q_Pi (fun (z : Int) (f1 : Nat → va_E) => z = (-1) ∧ q_z f1 mo 0 = 0))) ([.ref mo] : List Value).toArray s 0 0 (fun q => q ∈ L)) (F0 m 21 ls []) := by
    intro n
    induction n with
    | zero =>
      intro f21 v21_1 lv21_1 uv21_1 v21_2 lv21_2 uv21_2 v21_3 lv21_3 uv21_3 w21_mo_2 lw21_mo_2 uw21_mo_2 w21_mo_8 lw21_mo_8 uw21_mo_8 w21_mo_9 lw21_mo_9 uw21_mo_9 w21_mo_10 lw21_mo_10 uw21_mo_10 w21_mo_11 lw21_mo_11 uw21_mo_11 w21_mo_21 lw21_mo_21 uw21_mo_21 w21_mo_22 lw21_mo_22 uw21_mo_22 w21_mo_40 lw21_mo_40 uw21_mo_40 w21_sr_0 lw21_sr_0 uw21_sr_0 w21_sr_1 lw21_sr_1 uw21_sr_1 w21_sr_2 lw21_sr_2 uw21_sr_2 w21_sr_4 lw21_sr_4 uw21_sr_4 w21_sr_5 lw21_sr_5 uw21_sr_5 w21_sr_6 lw21_sr_6 uw21_sr_6 w21_sr_7 lw21_sr_7 uw21_sr_7 w21_sr_8 lw21_sr_8 uw21_sr_8 w21_sr_9 lw21_sr_9 uw21_sr_9 w21_mo_0 lw21_mo_0 uw21_mo_0 w21_sr_3 lw21_sr_3 uw21_sr_3 hj_mo_2 hj_mo_8 hj_mo_9 hj_mo_10 hj_mo_11 hj_mo_21 hj_mo_22 hj_mo_40 hj_sr_0 hj_sr_1 hj_sr_2 hj_sr_4 hj_sr_5 hj_sr_6 hj_sr_7 hj_sr_8 hj_sr_9 hj_mo_0 hj_sr_3 hq_mo_1 hq_mo_13 hq_mo_14 hq_mo_15 hq_mo_16 hq_mo_17 hq_mo_18 hq_mo_19 hq_mo_20 hti hmu
      exact absurd hmu (Nat.not_lt_zero _)
    | succ n ih21 =>
      intro f21 v21_1 lv21_1 uv21_1 v21_2 lv21_2 uv21_2 v21_3 lv21_3 uv21_3 w21_mo_2 lw21_mo_2 uw21_mo_2 w21_mo_8 lw21_mo_8 uw21_mo_8 w21_mo_9 lw21_mo_9 uw21_mo_9 w21_mo_10 lw21_mo_10 uw21_mo_10 w21_mo_11 lw21_mo_11 uw21_mo_11 w21_mo_21 lw21_mo_21 uw21_mo_21 w21_mo_22 lw21_mo_22 uw21_mo_22 w21_mo_40 lw21_mo_40 uw21_mo_40 w21_sr_0 lw21_sr_0 uw21_sr_0 w21_sr_1 lw21_sr_1 uw21_sr_1 w21_sr_2 lw21_sr_2 uw21_sr_2 w21_sr_4 lw21_sr_4 uw21_sr_4 w21_sr_5 lw21_sr_5 uw21_sr_5 w21_sr_6 lw21_sr_6 uw21_sr_6 w21_sr_7 lw21_sr_7 uw21_sr_7 w21_sr_8 lw21_sr_8 uw21_sr_8 w21_sr_9 lw21_sr_9 uw21_sr_9 w21_mo_0 lw21_mo_0 uw21_mo_0 w21_sr_3 lw21_sr_3 uw21_sr_3 hj_mo_2 hj_mo_8 hj_mo_9 hj_mo_10 hj_mo_11 hj_mo_21 hj_mo_22 hj_mo_40 hj_sr_0 hj_sr_1 hj_sr_2 hj_sr_4 hj_sr_5 hj_sr_6 hj_sr_7 hj_sr_8 hj_sr_9 hj_mo_0 hj_sr_3 hq_mo_1 hq_mo_13 hq_mo_14 hq_mo_15 hq_mo_16 hq_mo_17 hq_mo_18 hq_mo_19 hq_mo_20 hti hmu H locs hB ls hl
      refine q_ild_n cx dX12_takesIn_21 rfl (lv_at hl 2 rfl) ?_
      refine q_sipush cx dX12_takesIn_22 rfl ?_
      refine q_icge (tgt := 52) cx ⟨by omega, by omega⟩ ⟨by decide, by decide⟩ dX12_takesIn_25 (by decide) (fun c953 => ?_) (fun c953 => ?_)
      · refine q_ald_n cx dX12_takesIn_52 rfl (lv_at hl 0 rfl) ?_
        refine q_ald_n cx dX12_takesIn_53 rfl (lv_at hl 0 rfl) ?_
        refine q_gX12_20 cx hB hmo kmo hq_mo_13 dX12_takesIn_54 (fun hb954 kb954 => ?_)
        refine q_bipush cx dX12_takesIn_57 rfl ?_
        refine q_iald (lo := (-2147483648)) (hi := 2147483647) (n := 658) cx hB hsr ksr (by decide) rfl rfl (by decide) (by decide) (by decide) rfl hj_sr_9 dX12_takesIn_59 (fun lb956 ub956 => ?_)
        refine q_ild_n cx dX12_takesIn_60 rfl (lv_at hl 1 rfl) ?_
        refine q_icle (tgt := 68) cx ⟨by omega, by omega⟩ ⟨by omega, by omega⟩ dX12_takesIn_61 (by decide) (fun c957 => ?_) (fun c957 => ?_)
        · refine q_iconst cx dX12_takesIn_68 ?_
          refine q_cVi (As := [.int (q_i (-1))]) (rest := []) cx hB (fun _ h => h) hN hmo kmo (by decide) rfl (r_comesBack l g hN hB.2.1 mo hmo kmo (-1) (by decide) (by decide) sr hsr ksr aw haw kaw hq_mo_13 hq_mo_16) q_cX12_411 q_dX12_comesBack (by decide) rfl rfl hl.1 rfl (Nat.le_of_ble_eq_true rfl) dX12_takesIn_69 (fun y959 H locs f958 ry959 h960 hF hB => ?_)
          have qy959 := h960
          have z961 : q_z f958 mo 2 = w21_mo_2 := (hF.z hmo (by rw [kmo]; rfl)).trans hj_mo_2
          have z962 : q_z f958 mo 8 = w21_mo_8 := (hF.z hmo (by rw [kmo]; rfl)).trans hj_mo_8
          have z963 : q_z f958 mo 9 = w21_mo_9 := (hF.z hmo (by rw [kmo]; rfl)).trans hj_mo_9
          have z964 : q_z f958 mo 10 = w21_mo_10 := (hF.z hmo (by rw [kmo]; rfl)).trans hj_mo_10
          have z965 : q_z f958 mo 11 = w21_mo_11 := (hF.z hmo (by rw [kmo]; rfl)).trans hj_mo_11
          have z966 : q_z f958 mo 21 = w21_mo_21 := (hF.z hmo (by rw [kmo]; rfl)).trans hj_mo_21
          have z967 : q_z f958 mo 22 = w21_mo_22 := (hF.z hmo (by rw [kmo]; rfl)).trans hj_mo_22
          have z968 : q_z f958 mo 40 = w21_mo_40 := (hF.z hmo (by rw [kmo]; rfl)).trans hj_mo_40
          have z969 : q_z f958 mo 0 = w21_mo_0 := (hF.z hmo (by rw [kmo]; rfl)).trans hj_mo_0
          have z970 : q_r f958 mo 1 = bu := (hF.r hmo (by rw [kmo]; rfl)).trans hq_mo_1
          have z971 : q_r f958 mo 13 = sr := (hF.r hmo (by rw [kmo]; rfl)).trans hq_mo_13
          have z972 : q_r f958 mo 14 = sd := (hF.r hmo (by rw [kmo]; rfl)).trans hq_mo_14
          have z973 : q_r f958 mo 15 = as := (hF.r hmo (by rw [kmo]; rfl)).trans hq_mo_15
          have z974 : q_r f958 mo 16 = aw := (hF.r hmo (by rw [kmo]; rfl)).trans hq_mo_16
          have z975 : q_r f958 mo 17 = pa := (hF.r hmo (by rw [kmo]; rfl)).trans hq_mo_17
          have z976 : q_r f958 mo 18 = nm := (hF.r hmo (by rw [kmo]; rfl)).trans hq_mo_18
          have z977 : q_r f958 mo 19 = snm := (hF.r hmo (by rw [kmo]; rfl)).trans hq_mo_19
          have z978 : q_r f958 mo 20 = anm := (hF.r hmo (by rw [kmo]; rfl)).trans hq_mo_20
          subst qy959
          refine q_iret cx hr hlk hB dX12_takesIn_72 ⟨by decide, by decide⟩ ?_
          exact ⟨rfl, (by omega)⟩
        · exact absurd c957 (by omega)
      · refine q_ald_n cx dX12_takesIn_28 rfl (lv_at hl 0 rfl) ?_
        refine q_gX12_20 cx hB hmo kmo hq_mo_13 dX12_takesIn_29 (fun hb979 kb979 => ?_)
        refine q_bipush cx dX12_takesIn_32 rfl ?_
        refine q_iald (lo := (-2147483648)) (hi := 2147483647) (n := 658) cx hB hsr ksr (by decide) rfl rfl (by decide) (by decide) (by decide) rfl hj_sr_9 dX12_takesIn_34 (fun lb981 ub981 => ?_)
        refine q_ild_n cx dX12_takesIn_35 rfl (lv_at hl 1 rfl) ?_
        refine q_icne (tgt := 52) cx ⟨by omega, by omega⟩ ⟨by omega, by omega⟩ dX12_takesIn_36 (by decide) (fun c982 => ?_) (fun c982 => ?_)
        · exact absurd c982 (by omega)
        · refine q_ild_n cx dX12_takesIn_39 rfl (lv_at hl 3 rfl) ?_
          refine q_ald_n cx dX12_takesIn_40 rfl (lv_at hl 0 rfl) ?_
          refine q_cVi (As := []) (rest := [.int (q_i v21_3)]) cx hB (fun _ h => h) hN hmo kmo (by decide) rfl (r_ticksOnce0 l g hN hB.2.1 mo hmo kmo sr hsr ksr w21_sr_3 (by omega) (by omega) (by omega) (by omega) (by omega) hj_sr_3 hq_mo_13) q_cX12_338 q_dX12_ticksOnce (by decide) rfl rfl hl.1 rfl (Nat.le_of_ble_eq_true rfl) dX12_takesIn_41 (fun y984 H locs f983 ry984 h985 hF hB => ?_)
          obtain ⟨qy984, z986⟩ := h985
          have z987 : q_z f983 mo 2 = w21_mo_2 := (hF.z hmo (by rw [kmo]; rfl)).trans hj_mo_2
          have z988 : q_z f983 mo 8 = w21_mo_8 := (hF.z hmo (by rw [kmo]; rfl)).trans hj_mo_8
          have z989 : q_z f983 mo 9 = w21_mo_9 := (hF.z hmo (by rw [kmo]; rfl)).trans hj_mo_9
          have z990 : q_z f983 mo 10 = w21_mo_10 := (hF.z hmo (by rw [kmo]; rfl)).trans hj_mo_10
          have z991 : q_z f983 mo 11 = w21_mo_11 := (hF.z hmo (by rw [kmo]; rfl)).trans hj_mo_11
          have z992 : q_z f983 mo 21 = w21_mo_21 := (hF.z hmo (by rw [kmo]; rfl)).trans hj_mo_21
          have z993 : q_z f983 mo 22 = w21_mo_22 := (hF.z hmo (by rw [kmo]; rfl)).trans hj_mo_22
          have z994 : q_z f983 mo 40 = w21_mo_40 := (hF.z hmo (by rw [kmo]; rfl)).trans hj_mo_40
          have z995 : q_z f983 sr 0 = w21_sr_0 := (hF.z hsr (by rw [ksr]; rfl)).trans hj_sr_0
          have z996 : q_z f983 sr 1 = w21_sr_1 := (hF.z hsr (by rw [ksr]; rfl)).trans hj_sr_1
          have z997 : q_z f983 sr 2 = w21_sr_2 := (hF.z hsr (by rw [ksr]; rfl)).trans hj_sr_2
          have z998 : q_z f983 sr 4 = w21_sr_4 := (hF.z hsr (by rw [ksr]; rfl)).trans hj_sr_4
          have z999 : q_z f983 sr 5 = w21_sr_5 := (hF.z hsr (by rw [ksr]; rfl)).trans hj_sr_5
          have z1000 : q_z f983 sr 6 = w21_sr_6 := (hF.z hsr (by rw [ksr]; rfl)).trans hj_sr_6
          have z1001 : q_z f983 sr 7 = w21_sr_7 := (hF.z hsr (by rw [ksr]; rfl)).trans hj_sr_7
          have z1002 : q_z f983 sr 8 = w21_sr_8 := (hF.z hsr (by rw [ksr]; rfl)).trans hj_sr_8
          have z1003 : q_z f983 sr 9 = w21_sr_9 := (hF.z hsr (by rw [ksr]; rfl)).trans hj_sr_9
          have z1004 : q_z f983 mo 0 = w21_mo_0 := (hF.z hmo (by rw [kmo]; rfl)).trans hj_mo_0
          have z1005 : q_r f983 mo 1 = bu := (hF.r hmo (by rw [kmo]; rfl)).trans hq_mo_1
          have z1006 : q_r f983 mo 13 = sr := (hF.r hmo (by rw [kmo]; rfl)).trans hq_mo_13
          have z1007 : q_r f983 mo 14 = sd := (hF.r hmo (by rw [kmo]; rfl)).trans hq_mo_14
          have z1008 : q_r f983 mo 15 = as := (hF.r hmo (by rw [kmo]; rfl)).trans hq_mo_15
          have z1009 : q_r f983 mo 16 = aw := (hF.r hmo (by rw [kmo]; rfl)).trans hq_mo_16
          have z1010 : q_r f983 mo 17 = pa := (hF.r hmo (by rw [kmo]; rfl)).trans hq_mo_17
          have z1011 : q_r f983 mo 18 = nm := (hF.r hmo (by rw [kmo]; rfl)).trans hq_mo_18
          have z1012 : q_r f983 mo 19 = snm := (hF.r hmo (by rw [kmo]; rfl)).trans hq_mo_19
          have z1013 : q_r f983 mo 20 = anm := (hF.r hmo (by rw [kmo]; rfl)).trans hq_mo_20
          subst qy984
          refine q_iadd cx dX12_takesIn_44 ?_
          refine lv_istore_n (lv' := [(3, .int (q_i (v21_3 + 0))), (0, .ref mo), (1, .int (q_i v21_1)), (2, .int (q_i v21_2))]) cx.1 cx.2.1 dX12_takesIn_45 rfl hl (by decide) rfl (fun ls hl => ?_)
          refine q_iinc (lv' := [(2, .int (q_i (v21_2 + 1))), (3, .int (q_i (v21_3 + 0))), (0, .ref mo), (1, .int (q_i v21_1))]) cx dX12_takesIn_46 hl (k := 3) rfl (by decide) rfl (fun ls hl => ?_)
          refine lv_goto (tgt := 21) cx.1 cx.2.1 dX12_takesIn_49 (by decide) ?_
          exact ih21 f983 v21_1 (by omega) (by omega) (v21_2 + 1) (by omega) (by omega) (v21_3 + 0) (by omega) (by omega) w21_mo_2 (by omega) (by omega) w21_mo_8 (by omega) (by omega) w21_mo_9 (by omega) (by omega) w21_mo_10 (by omega) (by omega) w21_mo_11 (by omega) (by omega) w21_mo_21 (by omega) (by omega) w21_mo_22 (by omega) (by omega) w21_mo_40 (by omega) (by omega) w21_sr_0 (by omega) (by omega) w21_sr_1 (by omega) (by omega) w21_sr_2 (by omega) (by omega) w21_sr_4 (by omega) (by omega) w21_sr_5 (by omega) (by omega) w21_sr_6 (by omega) (by omega) w21_sr_7 (by omega) (by omega) w21_sr_8 (by omega) (by omega) w21_sr_9 (by omega) (by omega) w21_mo_0 (by omega) (by omega) (w21_sr_3 + 1) (by omega) (by omega) z987 z988 z989 z990 z991 z992 z993 z994 z995 z996 z997 z998 z999 z1000 z1001 z1002 z1003 z1004 z986 z1005 z1006 z1007 z1008 z1009 z1010 z1011 z1012 z1013 (by omega) (by omega) H locs hB ls (lv_sub hl [2, 3, 0, 1] rfl)
  obtain ⟨H, hH⟩ : ∃ H : Heap, H = s.heap := ⟨_, rfl⟩
  obtain ⟨locs, hlocs⟩ : ∃ z : List Loc, z = [] := ⟨_, rfl⟩
  rw [← hH, ← hlocs] at hB
  rw [← hH, ← hlocs]
  refine q_ald_n cx dX12_takesIn_0 rfl (lv_at hl 0 rfl) ?_
  refine q_iconst cx dX12_takesIn_1 ?_
  refine q_pX12_75 cx hB hmo kmo ⟨by decide, by decide⟩ (by decide) (by decide) rfl dX12_takesIn_2 (fun H locs f1014 ef1014 z1015 hB => ?_)
  have z1016 : q_z f1014 mo 2 = 0 := by rw [ef1014, q_setz (Or.inr (by decide))]; exact hf0
  have z1017 : q_z f1014 mo 8 = 0 := by rw [ef1014, q_setz (Or.inr (by decide))]; exact hf1
  have z1018 : q_z f1014 mo 9 = (-1) := by rw [ef1014, q_setz (Or.inr (by decide))]; exact hf2
  have z1019 : q_z f1014 mo 10 = 0 := by rw [ef1014, q_setz (Or.inr (by decide))]; exact hf3
  have z1020 : q_z f1014 mo 11 = (-1) := by rw [ef1014, q_setz (Or.inr (by decide))]; exact hf4
  have z1021 : q_z f1014 mo 21 = 0 := by rw [ef1014, q_setz (Or.inr (by decide))]; exact hf5
  have z1022 : q_z f1014 mo 22 = 0 := by rw [ef1014, q_setz (Or.inr (by decide))]; exact hf6
  have z1023 : q_z f1014 mo 40 = 0 := by rw [ef1014, q_setz (Or.inr (by decide))]; exact hf7
  have z1024 : q_z f1014 sr 0 = 0 := by rw [ef1014, q_setz (Or.inl (fun q => by rw [q, kmo] at ksr; exact absurd ksr (by decide)))]; exact hf8
  have z1025 : q_z f1014 sr 1 = 0 := by rw [ef1014, q_setz (Or.inr (by decide))]; exact hf9
  have z1026 : q_z f1014 sr 2 = 12 := by rw [ef1014, q_setz (Or.inr (by decide))]; exact hf10
  have z1027 : q_z f1014 sr 3 = 0 := by rw [ef1014, q_setz (Or.inr (by decide))]; exact hf11
  have z1028 : q_z f1014 sr 4 = 0 := by rw [ef1014, q_setz (Or.inr (by decide))]; exact hf12
  have z1029 : q_z f1014 sr 5 = 1 := by rw [ef1014, q_setz (Or.inr (by decide))]; exact hf13
  have z1030 : q_z f1014 sr 6 = 2 := by rw [ef1014, q_setz (Or.inr (by decide))]; exact hf14
  have z1031 : q_z f1014 sr 7 = 5 := by rw [ef1014, q_setz (Or.inr (by decide))]; exact hf15
  have z1032 : q_z f1014 sr 8 = 3 := by rw [ef1014, q_setz (Or.inr (by decide))]; exact hf16
  have z1033 : q_z f1014 sr 9 = 0 := by rw [ef1014, q_setz (Or.inr (by decide))]; exact hf17
  have z1034 : q_r f1014 mo 1 = bu := by rw [ef1014, q_setr (Or.inr (by decide))]; exact hr0
  have z1035 : q_r f1014 mo 13 = sr := by rw [ef1014, q_setr (Or.inr (by decide))]; exact hr1
  have z1036 : q_r f1014 mo 14 = sd := by rw [ef1014, q_setr (Or.inr (by decide))]; exact hr2
  have z1037 : q_r f1014 mo 15 = as := by rw [ef1014, q_setr (Or.inr (by decide))]; exact hr3
  have z1038 : q_r f1014 mo 16 = aw := by rw [ef1014, q_setr (Or.inr (by decide))]; exact hr4
  have z1039 : q_r f1014 mo 17 = pa := by rw [ef1014, q_setr (Or.inr (by decide))]; exact hr5
  have z1040 : q_r f1014 mo 18 = nm := by rw [ef1014, q_setr (Or.inr (by decide))]; exact hr6
  have z1041 : q_r f1014 mo 19 = snm := by rw [ef1014, q_setr (Or.inr (by decide))]; exact hr7
  have z1042 : q_r f1014 mo 20 = anm := by rw [ef1014, q_setr (Or.inr (by decide))]; exact hr8
  refine q_ald_n cx dX12_takesIn_5 rfl (lv_at hl 0 rfl) ?_
  refine q_cVv (As := []) (rest := []) cx hB (fun _ h => h) hN hmo kmo (by decide) rfl (r_leaves l g hN hB.2.1 mo hmo kmo sr hsr ksr aw haw kaw z1035 z1038) q_cX12_405 q_dX12_leaves (by decide) rfl rfl hl.1 rfl (Nat.le_of_ble_eq_true rfl) dX12_takesIn_6 (fun H locs f1043 h1045 hF hB => ?_)
  have z1046 : q_z f1043 mo 2 = 0 := (hF.z hmo (by rw [kmo]; rfl)).trans z1016
  have z1047 : q_z f1043 mo 8 = 0 := (hF.z hmo (by rw [kmo]; rfl)).trans z1017
  have z1048 : q_z f1043 mo 9 = (-1) := (hF.z hmo (by rw [kmo]; rfl)).trans z1018
  have z1049 : q_z f1043 mo 10 = 0 := (hF.z hmo (by rw [kmo]; rfl)).trans z1019
  have z1050 : q_z f1043 mo 11 = (-1) := (hF.z hmo (by rw [kmo]; rfl)).trans z1020
  have z1051 : q_z f1043 mo 21 = 0 := (hF.z hmo (by rw [kmo]; rfl)).trans z1021
  have z1052 : q_z f1043 mo 22 = 0 := (hF.z hmo (by rw [kmo]; rfl)).trans z1022
  have z1053 : q_z f1043 mo 40 = 0 := (hF.z hmo (by rw [kmo]; rfl)).trans z1023
  have z1054 : q_z f1043 sr 0 = 0 := (hF.z hsr (by rw [ksr]; rfl)).trans z1024
  have z1055 : q_z f1043 sr 1 = 0 := (hF.z hsr (by rw [ksr]; rfl)).trans z1025
  have z1056 : q_z f1043 sr 2 = 12 := (hF.z hsr (by rw [ksr]; rfl)).trans z1026
  have z1057 : q_z f1043 sr 3 = 0 := (hF.z hsr (by rw [ksr]; rfl)).trans z1027
  have z1058 : q_z f1043 sr 4 = 0 := (hF.z hsr (by rw [ksr]; rfl)).trans z1028
  have z1059 : q_z f1043 sr 5 = 1 := (hF.z hsr (by rw [ksr]; rfl)).trans z1029
  have z1060 : q_z f1043 sr 6 = 2 := (hF.z hsr (by rw [ksr]; rfl)).trans z1030
  have z1061 : q_z f1043 sr 7 = 5 := (hF.z hsr (by rw [ksr]; rfl)).trans z1031
  have z1062 : q_z f1043 sr 8 = 3 := (hF.z hsr (by rw [ksr]; rfl)).trans z1032
  have z1063 : q_z f1043 sr 9 = 0 := (hF.z hsr (by rw [ksr]; rfl)).trans z1033
  have z1064 : q_z f1043 mo 0 = 0 := (hF.z hmo (by rw [kmo]; rfl)).trans z1015
  have z1065 : q_r f1043 mo 1 = bu := (hF.r hmo (by rw [kmo]; rfl)).trans z1034
  have z1066 : q_r f1043 mo 13 = sr := (hF.r hmo (by rw [kmo]; rfl)).trans z1035
  have z1067 : q_r f1043 mo 14 = sd := (hF.r hmo (by rw [kmo]; rfl)).trans z1036
  have z1068 : q_r f1043 mo 15 = as := (hF.r hmo (by rw [kmo]; rfl)).trans z1037
  have z1069 : q_r f1043 mo 16 = aw := (hF.r hmo (by rw [kmo]; rfl)).trans z1038
  have z1070 : q_r f1043 mo 17 = pa := (hF.r hmo (by rw [kmo]; rfl)).trans z1039
  have z1071 : q_r f1043 mo 18 = nm := (hF.r hmo (by rw [kmo]; rfl)).trans z1040
  have z1072 : q_r f1043 mo 19 = snm := (hF.r hmo (by rw [kmo]; rfl)).trans z1041
  have z1073 : q_r f1043 mo 20 = anm := (hF.r hmo (by rw [kmo]; rfl)).trans z1042
  refine q_ald_n cx dX12_takesIn_9 rfl (lv_at hl 0 rfl) ?_
  refine q_gX12_20 cx hB hmo kmo z1066 dX12_takesIn_10 (fun hb1074 kb1074 => ?_)
  refine q_bipush cx dX12_takesIn_13 rfl ?_
  refine q_iald (lo := (-2147483648)) (hi := 2147483647) (n := 658) cx hB hsr ksr (by decide) rfl rfl (by decide) (by decide) (by decide) rfl z1063 dX12_takesIn_15 (fun lb1076 ub1076 => ?_)
  refine lv_istore_n (lv' := [(1, .int (q_i 0)), (0, .ref mo)]) cx.1 cx.2.1 dX12_takesIn_16 rfl hl (by decide) rfl (fun ls hl => ?_)
  refine q_iconst cx dX12_takesIn_17 ?_
  refine lv_istore_n (lv' := [(2, .int (q_i 0)), (1, .int (q_i 0)), (0, .ref mo)]) cx.1 cx.2.1 dX12_takesIn_18 rfl hl (by decide) rfl (fun ls hl => ?_)
  refine q_iconst cx dX12_takesIn_19 ?_
  refine lv_istore_n (lv' := [(3, .int (q_i 0)), (2, .int (q_i 0)), (1, .int (q_i 0)), (0, .ref mo)]) cx.1 cx.2.1 dX12_takesIn_20 rfl hl (by decide) rfl (fun ls hl => ?_)
  exact J21 ((Int.toNat (2147483647 - 0)) + 1) f1043 0 (by decide) (by decide) 0 (by decide) (by decide) 0 (by decide) (by decide) 0 (by decide) (by decide) 0 (by decide) (by decide) (-1) (by decide) (by decide) 0 (by decide) (by decide) (-1) (by decide) (by decide) 0 (by decide) (by decide) 0 (by decide) (by decide) 0 (by decide) (by decide) 0 (by decide) (by decide) 0 (by decide) (by decide) 12 (by decide) (by decide) 0 (by decide) (by decide) 1 (by decide) (by decide) 2 (by decide) (by decide) 5 (by decide) (by decide) 3 (by decide) (by decide) 0 (by decide) (by decide) 0 (by decide) (by decide) 0 (by decide) (by decide) z1046 z1047 z1048 z1049 z1050 z1051 z1052 z1053 z1054 z1055 z1056 z1058 z1059 z1060 z1061 z1062 z1063 z1064 z1057 z1065 z1066 z1067 z1068 z1069 z1070 z1071 z1072 z1073 (by omega) (Nat.lt_succ_self _) H locs hB ls (lv_sub hl [3, 2, 1, 0] rfl)
set_option maxHeartbeats 4000000 in
set_option maxRecDepth 100000 in
theorem p_ticka (l : Launch) (g : q_G) {K : Nat → Nat} {L : List Nat} (hN : L.Nodup) {f : Nat → va_E} (hT : q_Ty g K L f) (mo : Nat) (hmo : mo ∈ L) (kmo : K mo = 12) (a0 : Int) (la0 : (-2147483648) ≤ a0) (ua0 : a0 ≤ 0) (bu : Nat) (hbu : bu ∈ L) (kbu : K bu = 150) (sr : Nat) (hsr : sr ∈ L) (ksr : K sr = 151) (sd : Nat) (hsd : sd ∈ L) (ksd : K sd = 152) (as : Nat) (has : as ∈ L) (kas : K as = 153) (aw : Nat) (haw : aw ∈ L) (kaw : K aw = 154) (pa : Nat) (hpa : pa ∈ L) (kpa : K pa = 155) (nm : Nat) (hnm : nm ∈ L) (knm : K nm = 156) (snm : Nat) (hsnm : snm ∈ L) (ksnm : K snm = 157) (anm : Nat) (hanm : anm ∈ L) (kanm : K anm = 158) (hf0 : q_z f mo 2 = 0) (hf1 : q_z f mo 8 = 0) (hf2 : q_z f mo 9 = (-1)) (hf3 : q_z f mo 10 = 0) (hf4 : q_z f mo 11 = (-1)) (hf5 : q_z f mo 21 = 0) (hf6 : q_z f mo 22 = 0) (hf7 : q_z f mo 40 = 0) (hf8 : q_z f sr 0 = 0) (hf9 : q_z f sr 1 = 0) (hf10 : q_z f sr 2 = 12) (hf11 : q_z f sr 3 = 0) (hf12 : q_z f sr 4 = 0) (hf13 : q_z f sr 5 = 1) (hf14 : q_z f sr 6 = 2) (hf15 : q_z f sr 7 = 5) (hf16 : q_z f sr 8 = 3) (hf17 : q_z f sr 9 = 0) (hr0 : q_r f mo 1 = bu) (hr1 : q_r f mo 13 = sr) (hr2 : q_r f mo 14 = sd) (hr3 : q_r f mo 15 = as) (hr4 : q_r f mo 16 = aw) (hr5 : q_r f mo 17 = pa) (hr6 : q_r f mo 18 = nm) (hr7 : q_r f mo 19 = snm) (hr8 : q_r f mo 20 = anm) : q_Ct l g K L yX12_tick cX12_tick 3 (some .int) 2 45 [.ref mo, .int (q_i a0)] f [(12, 0, 40), (150, 0, 599), (151, 0, 657), (152, 0, 657), (153, 0, 657), (154, 0, 657), (155, 0, 3947), (156, 0, 9), (157, 0, 9), (158, 0, 9)] (q_Pi (fun (z : Int) (f1 : Nat → va_E) => z = 0 ∧ q_z f1 mo 0 = 1)) := by
  refine q_ofb (by decide +kernel) hN hT (Nat.le_of_ble_eq_true rfl) ?_
  intro p e s m below meth c ls cx hr hlk hB hl
  have hl : lv_has ls 3 [(0, .ref mo), (1, .int (q_i a0))] := hl
  obtain ⟨H, hH⟩ : ∃ H : Heap, H = s.heap := ⟨_, rfl⟩
  obtain ⟨locs, hlocs⟩ : ∃ z : List Loc, z = [] := ⟨_, rfl⟩
  rw [← hH, ← hlocs] at hB
  rw [← hH, ← hlocs]
  refine q_ild_n cx dX12_tick_0 rfl (lv_at hl 1 rfl) ?_
  refine q_cSi (As := [.int (q_i a0)]) (rest := []) cx hB (fun _ h => h) hN (r_areTicksa l g hN hB.2.1 a0 (by omega) (by omega)) q_cX12_446 q_dX12_areTicks (by decide) rfl rfl hl.1 rfl (Nat.le_of_ble_eq_true rfl) dX12_tick_1 (fun y38 H locs f37 ry38 h39 hF hB => ?_)
  obtain ⟨rfl, qy38⟩ := h39
  subst qy38
  refine lv_istore_n (lv' := [(2, .int (q_i 0)), (0, .ref mo), (1, .int (q_i a0))]) cx.1 cx.2.1 dX12_tick_4 rfl hl (by decide) rfl (fun ls hl => ?_)
  refine q_ald_n cx dX12_tick_5 rfl (lv_at hl 1 rfl) ?_
  refine q_ild_n cx dX12_tick_6 rfl (lv_at hl 0 rfl) ?_
  refine q_ild_n cx dX12_tick_7 rfl (lv_at hl 0 rfl) ?_
  refine q_ifeq (tgt := 29) cx ⟨by decide, by decide⟩ dX12_tick_8 (by decide) (fun c40 => ?_) (fun c40 => ?_)
  · refine q_iconst cx dX12_tick_29 ?_
    refine q_cVi (As := [.int (q_i 0), .int (q_i 0)]) (rest := []) cx hB (fun _ h => h) hN hmo kmo (by decide) rfl (r_goesBoth0 l g hN hB.2.1 mo hmo kmo 0 (by decide) (by decide) 0 (by decide) (by decide)) q_cX12_358 q_dX12_goesBoth (by decide) rfl rfl hl.1 rfl (Nat.le_of_ble_eq_true rfl) dX12_tick_30 (fun y42 H locs f41 ry42 h43 hF hB => ?_)
    obtain ⟨qy42, z44⟩ := h43
    have z45 : q_z f41 mo 2 = 0 := (hF.z hmo (by rw [kmo]; rfl)).trans hf0
    have z46 : q_z f41 mo 8 = 0 := (hF.z hmo (by rw [kmo]; rfl)).trans hf1
    have z47 : q_z f41 mo 9 = (-1) := (hF.z hmo (by rw [kmo]; rfl)).trans hf2
    have z48 : q_z f41 mo 10 = 0 := (hF.z hmo (by rw [kmo]; rfl)).trans hf3
    have z49 : q_z f41 mo 11 = (-1) := (hF.z hmo (by rw [kmo]; rfl)).trans hf4
    have z50 : q_z f41 mo 21 = 0 := (hF.z hmo (by rw [kmo]; rfl)).trans hf5
    have z51 : q_z f41 mo 22 = 0 := (hF.z hmo (by rw [kmo]; rfl)).trans hf6
    have z52 : q_z f41 mo 40 = 0 := (hF.z hmo (by rw [kmo]; rfl)).trans hf7
    have z53 : q_z f41 sr 0 = 0 := (hF.z hsr (by rw [ksr]; rfl)).trans hf8
    have z54 : q_z f41 sr 1 = 0 := (hF.z hsr (by rw [ksr]; rfl)).trans hf9
    have z55 : q_z f41 sr 2 = 12 := (hF.z hsr (by rw [ksr]; rfl)).trans hf10
    have z56 : q_z f41 sr 3 = 0 := (hF.z hsr (by rw [ksr]; rfl)).trans hf11
    have z57 : q_z f41 sr 4 = 0 := (hF.z hsr (by rw [ksr]; rfl)).trans hf12
    have z58 : q_z f41 sr 5 = 1 := (hF.z hsr (by rw [ksr]; rfl)).trans hf13
    have z59 : q_z f41 sr 6 = 2 := (hF.z hsr (by rw [ksr]; rfl)).trans hf14
    have z60 : q_z f41 sr 7 = 5 := (hF.z hsr (by rw [ksr]; rfl)).trans hf15
    have z61 : q_z f41 sr 8 = 3 := (hF.z hsr (by rw [ksr]; rfl)).trans hf16
    have z62 : q_z f41 sr 9 = 0 := (hF.z hsr (by rw [ksr]; rfl)).trans hf17
    have z63 : q_r f41 mo 1 = bu := (hF.r hmo (by rw [kmo]; rfl)).trans hr0
    have z64 : q_r f41 mo 13 = sr := (hF.r hmo (by rw [kmo]; rfl)).trans hr1
    have z65 : q_r f41 mo 14 = sd := (hF.r hmo (by rw [kmo]; rfl)).trans hr2
    have z66 : q_r f41 mo 15 = as := (hF.r hmo (by rw [kmo]; rfl)).trans hr3
    have z67 : q_r f41 mo 16 = aw := (hF.r hmo (by rw [kmo]; rfl)).trans hr4
    have z68 : q_r f41 mo 17 = pa := (hF.r hmo (by rw [kmo]; rfl)).trans hr5
    have z69 : q_r f41 mo 18 = nm := (hF.r hmo (by rw [kmo]; rfl)).trans hr6
    have z70 : q_r f41 mo 19 = snm := (hF.r hmo (by rw [kmo]; rfl)).trans hr7
    have z71 : q_r f41 mo 20 = anm := (hF.r hmo (by rw [kmo]; rfl)).trans hr8
    subst qy42
    refine q_ifne (tgt := 38) cx ⟨by decide, by decide⟩ dX12_tick_33 (by decide) (fun c72 => ?_) (fun c72 => ?_)
    · exact absurd c72 (by omega)
    · refine q_iconst cx dX12_tick_36 ?_
      refine q_iret cx hr hlk hB dX12_tick_37 ⟨by decide, by decide⟩ ?_
      exact ⟨rfl, z44⟩
  · exact absurd c40 (by omega)
set_option maxHeartbeats 4000000 in
set_option maxRecDepth 100000 in
theorem p_tickb (l : Launch) (g : q_G) {K : Nat → Nat} {L : List Nat} (hN : L.Nodup) {f : Nat → va_E} (hT : q_Ty g K L f) (mo : Nat) (hmo : mo ∈ L) (kmo : K mo = 12) (a0 : Int) (la0 : 1 ≤ a0) (ua0 : a0 ≤ 99) (bu : Nat) (hbu : bu ∈ L) (kbu : K bu = 150) (sr : Nat) (hsr : sr ∈ L) (ksr : K sr = 151) (sd : Nat) (hsd : sd ∈ L) (ksd : K sd = 152) (as : Nat) (has : as ∈ L) (kas : K as = 153) (aw : Nat) (haw : aw ∈ L) (kaw : K aw = 154) (pa : Nat) (hpa : pa ∈ L) (kpa : K pa = 155) (nm : Nat) (hnm : nm ∈ L) (knm : K nm = 156) (snm : Nat) (hsnm : snm ∈ L) (ksnm : K snm = 157) (anm : Nat) (hanm : anm ∈ L) (kanm : K anm = 158) (hf0 : q_z f mo 2 = 0) (hf1 : q_z f mo 8 = 0) (hf2 : q_z f mo 9 = (-1)) (hf3 : q_z f mo 10 = 0) (hf4 : q_z f mo 11 = (-1)) (hf5 : q_z f mo 21 = 0) (hf6 : q_z f mo 22 = 0) (hf7 : q_z f mo 40 = 0) (hf8 : q_z f sr 0 = 0) (hf9 : q_z f sr 1 = 0) (hf10 : q_z f sr 2 = 12) (hf11 : q_z f sr 3 = 0) (hf12 : q_z f sr 4 = 0) (hf13 : q_z f sr 5 = 1) (hf14 : q_z f sr 6 = 2) (hf15 : q_z f sr 7 = 5) (hf16 : q_z f sr 8 = 3) (hf17 : q_z f sr 9 = 0) (hr0 : q_r f mo 1 = bu) (hr1 : q_r f mo 13 = sr) (hr2 : q_r f mo 14 = sd) (hr3 : q_r f mo 15 = as) (hr4 : q_r f mo 16 = aw) (hr5 : q_r f mo 17 = pa) (hr6 : q_r f mo 18 = nm) (hr7 : q_r f mo 19 = snm) (hr8 : q_r f mo 20 = anm) : q_Ct l g K L yX12_tick cX12_tick 3 (some .int) 4 89 [.ref mo, .int (q_i a0)] f [(12, 0, 40), (150, 0, 599), (151, 0, 657), (152, 0, 657), (153, 0, 657), (154, 0, 657), (155, 0, 3947), (156, 0, 9), (157, 0, 9), (158, 0, 9)] (q_Pi (fun (z : Int) (f1 : Nat → va_E) => z = 0 ∧ q_z f1 mo 0 = 0)) := by
  refine q_ofb (by decide +kernel) hN hT (Nat.le_of_ble_eq_true rfl) ?_
  intro p e s m below meth c ls cx hr hlk hB hl
  have hl : lv_has ls 3 [(0, .ref mo), (1, .int (q_i a0))] := hl
  obtain ⟨H, hH⟩ : ∃ H : Heap, H = s.heap := ⟨_, rfl⟩
  obtain ⟨locs, hlocs⟩ : ∃ z : List Loc, z = [] := ⟨_, rfl⟩
  rw [← hH, ← hlocs] at hB
  rw [← hH, ← hlocs]
  refine q_ild_n cx dX12_tick_0 rfl (lv_at hl 1 rfl) ?_
  refine q_cSi (As := [.int (q_i a0)]) (rest := []) cx hB (fun _ h => h) hN (r_areTicksb l g hN hB.2.1 a0 (by omega) (by omega)) q_cX12_446 q_dX12_areTicks (by decide) rfl rfl hl.1 rfl (Nat.le_of_ble_eq_true rfl) dX12_tick_1 (fun y132 H locs f131 ry132 h133 hF hB => ?_)
  obtain ⟨rfl, qy132⟩ := h133
  subst qy132
  refine lv_istore_n (lv' := [(2, .int (q_i 1)), (0, .ref mo), (1, .int (q_i a0))]) cx.1 cx.2.1 dX12_tick_4 rfl hl (by decide) rfl (fun ls hl => ?_)
  refine q_ald_n cx dX12_tick_5 rfl (lv_at hl 1 rfl) ?_
  refine q_ild_n cx dX12_tick_6 rfl (lv_at hl 0 rfl) ?_
  refine q_ild_n cx dX12_tick_7 rfl (lv_at hl 0 rfl) ?_
  refine q_ifeq (tgt := 29) cx ⟨by decide, by decide⟩ dX12_tick_8 (by decide) (fun c134 => ?_) (fun c134 => ?_)
  · exact absurd c134 (by omega)
  · refine q_ald_n cx dX12_tick_11 rfl (lv_at hl 1 rfl) ?_
    refine q_gX12_20 cx hB hmo kmo hr1 dX12_tick_12 (fun hb135 kb135 => ?_)
    refine q_iconst cx dX12_tick_15 ?_
    refine q_iald (lo := 0) (hi := 20000) (n := 658) cx hB hsr ksr (by decide) rfl rfl (by decide) (by decide) (by decide) rfl hf11 dX12_tick_16 (fun lb137 ub137 => ?_)
    refine q_ild_n cx dX12_tick_17 rfl (lv_at hl 2 rfl) ?_
    refine q_iadd cx dX12_tick_18 ?_
    refine q_sipush cx dX12_tick_19 rfl ?_
    refine q_icgt (tgt := 29) cx ⟨by omega, by omega⟩ ⟨by decide, by decide⟩ dX12_tick_22 (by decide) (fun c138 => ?_) (fun c138 => ?_)
    · exact absurd c138 (by omega)
    · refine q_iconst cx dX12_tick_25 ?_
      refine lv_goto (tgt := 30) cx.1 cx.2.1 dX12_tick_26 (by decide) ?_
      refine q_cVi (As := [.int (q_i 1), .int (q_i 1)]) (rest := []) cx hB (fun _ h => h) hN hmo kmo (by decide) rfl (r_goesBoth2 l g hN hB.2.1 mo hmo kmo 1 (by decide) (by decide) 1 (by decide) (by decide)) q_cX12_358 q_dX12_goesBoth (by decide) rfl rfl hl.1 rfl (Nat.le_of_ble_eq_true rfl) dX12_tick_30 (fun y140 H locs f139 ry140 h141 hF hB => ?_)
      obtain ⟨qy140, z142⟩ := h141
      have z143 : q_z f139 mo 2 = 0 := (hF.z hmo (by rw [kmo]; rfl)).trans hf0
      have z144 : q_z f139 mo 8 = 0 := (hF.z hmo (by rw [kmo]; rfl)).trans hf1
      have z145 : q_z f139 mo 9 = (-1) := (hF.z hmo (by rw [kmo]; rfl)).trans hf2
      have z146 : q_z f139 mo 10 = 0 := (hF.z hmo (by rw [kmo]; rfl)).trans hf3
      have z147 : q_z f139 mo 11 = (-1) := (hF.z hmo (by rw [kmo]; rfl)).trans hf4
      have z148 : q_z f139 mo 21 = 0 := (hF.z hmo (by rw [kmo]; rfl)).trans hf5
      have z149 : q_z f139 mo 22 = 0 := (hF.z hmo (by rw [kmo]; rfl)).trans hf6
      have z150 : q_z f139 mo 40 = 0 := (hF.z hmo (by rw [kmo]; rfl)).trans hf7
      have z151 : q_z f139 sr 0 = 0 := (hF.z hsr (by rw [ksr]; rfl)).trans hf8
      have z152 : q_z f139 sr 1 = 0 := (hF.z hsr (by rw [ksr]; rfl)).trans hf9
      have z153 : q_z f139 sr 2 = 12 := (hF.z hsr (by rw [ksr]; rfl)).trans hf10
      have z154 : q_z f139 sr 3 = 0 := (hF.z hsr (by rw [ksr]; rfl)).trans hf11
      have z155 : q_z f139 sr 4 = 0 := (hF.z hsr (by rw [ksr]; rfl)).trans hf12
      have z156 : q_z f139 sr 5 = 1 := (hF.z hsr (by rw [ksr]; rfl)).trans hf13
      have z157 : q_z f139 sr 6 = 2 := (hF.z hsr (by rw [ksr]; rfl)).trans hf14
      have z158 : q_z f139 sr 7 = 5 := (hF.z hsr (by rw [ksr]; rfl)).trans hf15
      have z159 : q_z f139 sr 8 = 3 := (hF.z hsr (by rw [ksr]; rfl)).trans hf16
      have z160 : q_z f139 sr 9 = 0 := (hF.z hsr (by rw [ksr]; rfl)).trans hf17
      have z161 : q_r f139 mo 1 = bu := (hF.r hmo (by rw [kmo]; rfl)).trans hr0
      have z162 : q_r f139 mo 13 = sr := (hF.r hmo (by rw [kmo]; rfl)).trans hr1
      have z163 : q_r f139 mo 14 = sd := (hF.r hmo (by rw [kmo]; rfl)).trans hr2
      have z164 : q_r f139 mo 15 = as := (hF.r hmo (by rw [kmo]; rfl)).trans hr3
      have z165 : q_r f139 mo 16 = aw := (hF.r hmo (by rw [kmo]; rfl)).trans hr4
      have z166 : q_r f139 mo 17 = pa := (hF.r hmo (by rw [kmo]; rfl)).trans hr5
      have z167 : q_r f139 mo 18 = nm := (hF.r hmo (by rw [kmo]; rfl)).trans hr6
      have z168 : q_r f139 mo 19 = snm := (hF.r hmo (by rw [kmo]; rfl)).trans hr7
      have z169 : q_r f139 mo 20 = anm := (hF.r hmo (by rw [kmo]; rfl)).trans hr8
      subst qy140
      refine q_ifne (tgt := 38) cx ⟨by decide, by decide⟩ dX12_tick_33 (by decide) (fun c170 => ?_) (fun c170 => ?_)
      · refine q_ald_n cx dX12_tick_38 rfl (lv_at hl 1 rfl) ?_
        refine q_cVv (As := []) (rest := []) cx hB (fun _ h => h) hN hmo kmo (by decide) rfl (r_laysAside l g hN hB.2.1 mo hmo kmo sr hsr ksr as has kas z162 z164) q_cX12_247 q_dX12_laysAside (by decide) rfl rfl hl.1 rfl (Nat.le_of_ble_eq_true rfl) dX12_tick_39 (fun H locs f171 h173 hF hB => ?_)
        have z174 : q_z f171 mo 2 = 0 := (hF.z hmo (by rw [kmo]; rfl)).trans z143
        have z175 : q_z f171 mo 8 = 0 := (hF.z hmo (by rw [kmo]; rfl)).trans z144
        have z176 : q_z f171 mo 9 = (-1) := (hF.z hmo (by rw [kmo]; rfl)).trans z145
        have z177 : q_z f171 mo 10 = 0 := (hF.z hmo (by rw [kmo]; rfl)).trans z146
        have z178 : q_z f171 mo 11 = (-1) := (hF.z hmo (by rw [kmo]; rfl)).trans z147
        have z179 : q_z f171 mo 21 = 0 := (hF.z hmo (by rw [kmo]; rfl)).trans z148
        have z180 : q_z f171 mo 22 = 0 := (hF.z hmo (by rw [kmo]; rfl)).trans z149
        have z181 : q_z f171 mo 40 = 0 := (hF.z hmo (by rw [kmo]; rfl)).trans z150
        have z182 : q_z f171 sr 0 = 0 := (hF.z hsr (by rw [ksr]; rfl)).trans z151
        have z183 : q_z f171 sr 1 = 0 := (hF.z hsr (by rw [ksr]; rfl)).trans z152
        have z184 : q_z f171 sr 2 = 12 := (hF.z hsr (by rw [ksr]; rfl)).trans z153
        have z185 : q_z f171 sr 3 = 0 := (hF.z hsr (by rw [ksr]; rfl)).trans z154
        have z186 : q_z f171 sr 4 = 0 := (hF.z hsr (by rw [ksr]; rfl)).trans z155
        have z187 : q_z f171 sr 5 = 1 := (hF.z hsr (by rw [ksr]; rfl)).trans z156
        have z188 : q_z f171 sr 6 = 2 := (hF.z hsr (by rw [ksr]; rfl)).trans z157
        have z189 : q_z f171 sr 7 = 5 := (hF.z hsr (by rw [ksr]; rfl)).trans z158
        have z190 : q_z f171 sr 8 = 3 := (hF.z hsr (by rw [ksr]; rfl)).trans z159
        have z191 : q_z f171 sr 9 = 0 := (hF.z hsr (by rw [ksr]; rfl)).trans z160
        have z192 : q_z f171 mo 0 = 0 := (hF.z hmo (by rw [kmo]; rfl)).trans z142
        have z193 : q_r f171 mo 1 = bu := (hF.r hmo (by rw [kmo]; rfl)).trans z161
        have z194 : q_r f171 mo 13 = sr := (hF.r hmo (by rw [kmo]; rfl)).trans z162
        have z195 : q_r f171 mo 14 = sd := (hF.r hmo (by rw [kmo]; rfl)).trans z163
        have z196 : q_r f171 mo 15 = as := (hF.r hmo (by rw [kmo]; rfl)).trans z164
        have z197 : q_r f171 mo 16 = aw := (hF.r hmo (by rw [kmo]; rfl)).trans z165
        have z198 : q_r f171 mo 17 = pa := (hF.r hmo (by rw [kmo]; rfl)).trans z166
        have z199 : q_r f171 mo 18 = nm := (hF.r hmo (by rw [kmo]; rfl)).trans z167
        have z200 : q_r f171 mo 19 = snm := (hF.r hmo (by rw [kmo]; rfl)).trans z168
        have z201 : q_r f171 mo 20 = anm := (hF.r hmo (by rw [kmo]; rfl)).trans z169
        refine q_ald_n cx dX12_tick_42 rfl (lv_at hl 1 rfl) ?_
        refine q_ald_n cx dX12_tick_43 rfl (lv_at hl 1 rfl) ?_
        refine q_ild_n cx dX12_tick_44 rfl (lv_at hl 2 rfl) ?_
        refine q_cVi (As := [.int (q_i a0)]) (rest := [.ref mo]) cx hB (fun _ h => h) hN hmo kmo (by decide) rfl (r_ticksOn0 l g hN hB.2.1 mo hmo kmo a0 (by omega) (by omega) sr hsr ksr z182 z183 z185 z186 z194) q_cX12_427 q_dX12_ticksOn (by decide) rfl rfl hl.1 rfl (Nat.le_of_ble_eq_true rfl) dX12_tick_45 (fun y203 H locs f202 ry203 h204 hF hB => ?_)
        have qy203 := h204
        have z205 : q_z f202 mo 2 = 0 := (hF.z hmo (by rw [kmo]; rfl)).trans z174
        have z206 : q_z f202 mo 8 = 0 := (hF.z hmo (by rw [kmo]; rfl)).trans z175
        have z207 : q_z f202 mo 9 = (-1) := (hF.z hmo (by rw [kmo]; rfl)).trans z176
        have z208 : q_z f202 mo 10 = 0 := (hF.z hmo (by rw [kmo]; rfl)).trans z177
        have z209 : q_z f202 mo 11 = (-1) := (hF.z hmo (by rw [kmo]; rfl)).trans z178
        have z210 : q_z f202 mo 21 = 0 := (hF.z hmo (by rw [kmo]; rfl)).trans z179
        have z211 : q_z f202 mo 22 = 0 := (hF.z hmo (by rw [kmo]; rfl)).trans z180
        have z212 : q_z f202 mo 40 = 0 := (hF.z hmo (by rw [kmo]; rfl)).trans z181
        have z213 : q_z f202 sr 0 = 0 := (hF.z hsr (by rw [ksr]; rfl)).trans z182
        have z214 : q_z f202 sr 1 = 0 := (hF.z hsr (by rw [ksr]; rfl)).trans z183
        have z215 : q_z f202 sr 2 = 12 := (hF.z hsr (by rw [ksr]; rfl)).trans z184
        have z216 : q_z f202 sr 4 = 0 := (hF.z hsr (by rw [ksr]; rfl)).trans z186
        have z217 : q_z f202 sr 5 = 1 := (hF.z hsr (by rw [ksr]; rfl)).trans z187
        have z218 : q_z f202 sr 6 = 2 := (hF.z hsr (by rw [ksr]; rfl)).trans z188
        have z219 : q_z f202 sr 7 = 5 := (hF.z hsr (by rw [ksr]; rfl)).trans z189
        have z220 : q_z f202 sr 8 = 3 := (hF.z hsr (by rw [ksr]; rfl)).trans z190
        have z221 : q_z f202 sr 9 = 0 := (hF.z hsr (by rw [ksr]; rfl)).trans z191
        have z222 : q_z f202 mo 0 = 0 := (hF.z hmo (by rw [kmo]; rfl)).trans z192
        have z223 : q_r f202 mo 1 = bu := (hF.r hmo (by rw [kmo]; rfl)).trans z193
        have z224 : q_r f202 mo 13 = sr := (hF.r hmo (by rw [kmo]; rfl)).trans z194
        have z225 : q_r f202 mo 14 = sd := (hF.r hmo (by rw [kmo]; rfl)).trans z195
        have z226 : q_r f202 mo 15 = as := (hF.r hmo (by rw [kmo]; rfl)).trans z196
        have z227 : q_r f202 mo 16 = aw := (hF.r hmo (by rw [kmo]; rfl)).trans z197
        have z228 : q_r f202 mo 17 = pa := (hF.r hmo (by rw [kmo]; rfl)).trans z198
        have z229 : q_r f202 mo 18 = nm := (hF.r hmo (by rw [kmo]; rfl)).trans z199
        have z230 : q_r f202 mo 19 = snm := (hF.r hmo (by rw [kmo]; rfl)).trans z200
        have z231 : q_r f202 mo 20 = anm := (hF.r hmo (by rw [kmo]; rfl)).trans z201
        subst qy203
        refine q_cVi (As := [.int (q_i 0)]) (rest := []) cx hB (fun _ h => h) hN hmo kmo (by decide) rfl (r_kept0 l g hN hB.2.1 mo hmo kmo 0 (by decide) (by decide) as has kas pa hpa kpa z210 z226 z228) q_cX12_449 q_dX12_kept (by decide) rfl rfl hl.1 rfl (Nat.le_of_ble_eq_true rfl) dX12_tick_48 (fun y233 H locs f232 ry233 h234 hF hB => ?_)
        have qy233 := h234
        have z235 : q_z f232 mo 2 = 0 := (hF.z hmo (by rw [kmo]; rfl)).trans z205
        have z236 : q_z f232 mo 8 = 0 := (hF.z hmo (by rw [kmo]; rfl)).trans z206
        have z237 : q_z f232 mo 9 = (-1) := (hF.z hmo (by rw [kmo]; rfl)).trans z207
        have z238 : q_z f232 mo 10 = 0 := (hF.z hmo (by rw [kmo]; rfl)).trans z208
        have z239 : q_z f232 mo 11 = (-1) := (hF.z hmo (by rw [kmo]; rfl)).trans z209
        have z240 : q_z f232 mo 22 = 0 := (hF.z hmo (by rw [kmo]; rfl)).trans z211
        have z241 : q_z f232 mo 40 = 0 := (hF.z hmo (by rw [kmo]; rfl)).trans z212
        have z242 : q_z f232 sr 0 = 0 := (hF.z hsr (by rw [ksr]; rfl)).trans z213
        have z243 : q_z f232 sr 1 = 0 := (hF.z hsr (by rw [ksr]; rfl)).trans z214
        have z244 : q_z f232 sr 2 = 12 := (hF.z hsr (by rw [ksr]; rfl)).trans z215
        have z245 : q_z f232 sr 4 = 0 := (hF.z hsr (by rw [ksr]; rfl)).trans z216
        have z246 : q_z f232 sr 5 = 1 := (hF.z hsr (by rw [ksr]; rfl)).trans z217
        have z247 : q_z f232 sr 6 = 2 := (hF.z hsr (by rw [ksr]; rfl)).trans z218
        have z248 : q_z f232 sr 7 = 5 := (hF.z hsr (by rw [ksr]; rfl)).trans z219
        have z249 : q_z f232 sr 8 = 3 := (hF.z hsr (by rw [ksr]; rfl)).trans z220
        have z250 : q_z f232 sr 9 = 0 := (hF.z hsr (by rw [ksr]; rfl)).trans z221
        have z251 : q_z f232 mo 0 = 0 := (hF.z hmo (by rw [kmo]; rfl)).trans z222
        have z252 : q_r f232 mo 1 = bu := (hF.r hmo (by rw [kmo]; rfl)).trans z223
        have z253 : q_r f232 mo 13 = sr := (hF.r hmo (by rw [kmo]; rfl)).trans z224
        have z254 : q_r f232 mo 14 = sd := (hF.r hmo (by rw [kmo]; rfl)).trans z225
        have z255 : q_r f232 mo 15 = as := (hF.r hmo (by rw [kmo]; rfl)).trans z226
        have z256 : q_r f232 mo 16 = aw := (hF.r hmo (by rw [kmo]; rfl)).trans z227
        have z257 : q_r f232 mo 17 = pa := (hF.r hmo (by rw [kmo]; rfl)).trans z228
        have z258 : q_r f232 mo 18 = nm := (hF.r hmo (by rw [kmo]; rfl)).trans z229
        have z259 : q_r f232 mo 19 = snm := (hF.r hmo (by rw [kmo]; rfl)).trans z230
        have z260 : q_r f232 mo 20 = anm := (hF.r hmo (by rw [kmo]; rfl)).trans z231
        subst qy233
        refine q_iret cx hr hlk hB dX12_tick_51 ⟨by decide, by decide⟩ ?_
        exact ⟨rfl, z251⟩
      · exact absurd c170 (by omega)
set_option maxHeartbeats 4000000 in
set_option maxRecDepth 100000 in
theorem p_tickc (l : Launch) (g : q_G) {K : Nat → Nat} {L : List Nat} (hN : L.Nodup) {f : Nat → va_E} (hT : q_Ty g K L f) (mo : Nat) (hmo : mo ∈ L) (kmo : K mo = 12) (a0 : Int) (la0 : 100 ≤ a0) (ua0 : a0 ≤ 2147483647) (bu : Nat) (hbu : bu ∈ L) (kbu : K bu = 150) (sr : Nat) (hsr : sr ∈ L) (ksr : K sr = 151) (sd : Nat) (hsd : sd ∈ L) (ksd : K sd = 152) (as : Nat) (has : as ∈ L) (kas : K as = 153) (aw : Nat) (haw : aw ∈ L) (kaw : K aw = 154) (pa : Nat) (hpa : pa ∈ L) (kpa : K pa = 155) (nm : Nat) (hnm : nm ∈ L) (knm : K nm = 156) (snm : Nat) (hsnm : snm ∈ L) (ksnm : K snm = 157) (anm : Nat) (hanm : anm ∈ L) (kanm : K anm = 158) (hf0 : q_z f mo 2 = 0) (hf1 : q_z f mo 8 = 0) (hf2 : q_z f mo 9 = (-1)) (hf3 : q_z f mo 10 = 0) (hf4 : q_z f mo 11 = (-1)) (hf5 : q_z f mo 21 = 0) (hf6 : q_z f mo 22 = 0) (hf7 : q_z f mo 40 = 0) (hf8 : q_z f sr 0 = 0) (hf9 : q_z f sr 1 = 0) (hf10 : q_z f sr 2 = 12) (hf11 : q_z f sr 3 = 0) (hf12 : q_z f sr 4 = 0) (hf13 : q_z f sr 5 = 1) (hf14 : q_z f sr 6 = 2) (hf15 : q_z f sr 7 = 5) (hf16 : q_z f sr 8 = 3) (hf17 : q_z f sr 9 = 0) (hr0 : q_r f mo 1 = bu) (hr1 : q_r f mo 13 = sr) (hr2 : q_r f mo 14 = sd) (hr3 : q_r f mo 15 = as) (hr4 : q_r f mo 16 = aw) (hr5 : q_r f mo 17 = pa) (hr6 : q_r f mo 18 = nm) (hr7 : q_r f mo 19 = snm) (hr8 : q_r f mo 20 = anm) : q_Ct l g K L yX12_tick cX12_tick 3 (some .int) 2 45 [.ref mo, .int (q_i a0)] f [(12, 0, 40), (150, 0, 599), (151, 0, 657), (152, 0, 657), (153, 0, 657), (154, 0, 657), (155, 0, 3947), (156, 0, 9), (157, 0, 9), (158, 0, 9)] (q_Pi (fun (z : Int) (f1 : Nat → va_E) => z = 0 ∧ q_z f1 mo 0 = 1)) := by
  refine q_ofb (by decide +kernel) hN hT (Nat.le_of_ble_eq_true rfl) ?_
  intro p e s m below meth c ls cx hr hlk hB hl
  have hl : lv_has ls 3 [(0, .ref mo), (1, .int (q_i a0))] := hl
  obtain ⟨H, hH⟩ : ∃ H : Heap, H = s.heap := ⟨_, rfl⟩
  obtain ⟨locs, hlocs⟩ : ∃ z : List Loc, z = [] := ⟨_, rfl⟩
  rw [← hH, ← hlocs] at hB
  rw [← hH, ← hlocs]
  refine q_ild_n cx dX12_tick_0 rfl (lv_at hl 1 rfl) ?_
  refine q_cSi (As := [.int (q_i a0)]) (rest := []) cx hB (fun _ h => h) hN (r_areTicksc l g hN hB.2.1 a0 (by omega) (by omega)) q_cX12_446 q_dX12_areTicks (by decide) rfl rfl hl.1 rfl (Nat.le_of_ble_eq_true rfl) dX12_tick_1 (fun y38 H locs f37 ry38 h39 hF hB => ?_)
  obtain ⟨rfl, qy38⟩ := h39
  subst qy38
  refine lv_istore_n (lv' := [(2, .int (q_i 0)), (0, .ref mo), (1, .int (q_i a0))]) cx.1 cx.2.1 dX12_tick_4 rfl hl (by decide) rfl (fun ls hl => ?_)
  refine q_ald_n cx dX12_tick_5 rfl (lv_at hl 1 rfl) ?_
  refine q_ild_n cx dX12_tick_6 rfl (lv_at hl 0 rfl) ?_
  refine q_ild_n cx dX12_tick_7 rfl (lv_at hl 0 rfl) ?_
  refine q_ifeq (tgt := 29) cx ⟨by decide, by decide⟩ dX12_tick_8 (by decide) (fun c40 => ?_) (fun c40 => ?_)
  · refine q_iconst cx dX12_tick_29 ?_
    refine q_cVi (As := [.int (q_i 0), .int (q_i 0)]) (rest := []) cx hB (fun _ h => h) hN hmo kmo (by decide) rfl (r_goesBoth0 l g hN hB.2.1 mo hmo kmo 0 (by decide) (by decide) 0 (by decide) (by decide)) q_cX12_358 q_dX12_goesBoth (by decide) rfl rfl hl.1 rfl (Nat.le_of_ble_eq_true rfl) dX12_tick_30 (fun y42 H locs f41 ry42 h43 hF hB => ?_)
    obtain ⟨qy42, z44⟩ := h43
    have z45 : q_z f41 mo 2 = 0 := (hF.z hmo (by rw [kmo]; rfl)).trans hf0
    have z46 : q_z f41 mo 8 = 0 := (hF.z hmo (by rw [kmo]; rfl)).trans hf1
    have z47 : q_z f41 mo 9 = (-1) := (hF.z hmo (by rw [kmo]; rfl)).trans hf2
    have z48 : q_z f41 mo 10 = 0 := (hF.z hmo (by rw [kmo]; rfl)).trans hf3
    have z49 : q_z f41 mo 11 = (-1) := (hF.z hmo (by rw [kmo]; rfl)).trans hf4
    have z50 : q_z f41 mo 21 = 0 := (hF.z hmo (by rw [kmo]; rfl)).trans hf5
    have z51 : q_z f41 mo 22 = 0 := (hF.z hmo (by rw [kmo]; rfl)).trans hf6
    have z52 : q_z f41 mo 40 = 0 := (hF.z hmo (by rw [kmo]; rfl)).trans hf7
    have z53 : q_z f41 sr 0 = 0 := (hF.z hsr (by rw [ksr]; rfl)).trans hf8
    have z54 : q_z f41 sr 1 = 0 := (hF.z hsr (by rw [ksr]; rfl)).trans hf9
    have z55 : q_z f41 sr 2 = 12 := (hF.z hsr (by rw [ksr]; rfl)).trans hf10
    have z56 : q_z f41 sr 3 = 0 := (hF.z hsr (by rw [ksr]; rfl)).trans hf11
    have z57 : q_z f41 sr 4 = 0 := (hF.z hsr (by rw [ksr]; rfl)).trans hf12
    have z58 : q_z f41 sr 5 = 1 := (hF.z hsr (by rw [ksr]; rfl)).trans hf13
    have z59 : q_z f41 sr 6 = 2 := (hF.z hsr (by rw [ksr]; rfl)).trans hf14
    have z60 : q_z f41 sr 7 = 5 := (hF.z hsr (by rw [ksr]; rfl)).trans hf15
    have z61 : q_z f41 sr 8 = 3 := (hF.z hsr (by rw [ksr]; rfl)).trans hf16
    have z62 : q_z f41 sr 9 = 0 := (hF.z hsr (by rw [ksr]; rfl)).trans hf17
    have z63 : q_r f41 mo 1 = bu := (hF.r hmo (by rw [kmo]; rfl)).trans hr0
    have z64 : q_r f41 mo 13 = sr := (hF.r hmo (by rw [kmo]; rfl)).trans hr1
    have z65 : q_r f41 mo 14 = sd := (hF.r hmo (by rw [kmo]; rfl)).trans hr2
    have z66 : q_r f41 mo 15 = as := (hF.r hmo (by rw [kmo]; rfl)).trans hr3
    have z67 : q_r f41 mo 16 = aw := (hF.r hmo (by rw [kmo]; rfl)).trans hr4
    have z68 : q_r f41 mo 17 = pa := (hF.r hmo (by rw [kmo]; rfl)).trans hr5
    have z69 : q_r f41 mo 18 = nm := (hF.r hmo (by rw [kmo]; rfl)).trans hr6
    have z70 : q_r f41 mo 19 = snm := (hF.r hmo (by rw [kmo]; rfl)).trans hr7
    have z71 : q_r f41 mo 20 = anm := (hF.r hmo (by rw [kmo]; rfl)).trans hr8
    subst qy42
    refine q_ifne (tgt := 38) cx ⟨by decide, by decide⟩ dX12_tick_33 (by decide) (fun c72 => ?_) (fun c72 => ?_)
    · exact absurd c72 (by omega)
    · refine q_iconst cx dX12_tick_36 ?_
      refine q_iret cx hr hlk hB dX12_tick_37 ⟨by decide, by decide⟩ ?_
      exact ⟨rfl, z44⟩
  · exact absurd c40 (by omega)
set_option maxHeartbeats 4000000 in
set_option maxRecDepth 100000 in
theorem p_setMissa (l : Launch) (g : q_G) {K : Nat → Nat} {L : List Nat} (hN : L.Nodup) {f : Nat → va_E} (hT : q_Ty g K L f) (mo : Nat) (hmo : mo ∈ L) (kmo : K mo = 12) (a0 : Int) (la0 : (-2147483648) ≤ a0) (ua0 : a0 ≤ 0) (bu : Nat) (hbu : bu ∈ L) (kbu : K bu = 150) (sr : Nat) (hsr : sr ∈ L) (ksr : K sr = 151) (sd : Nat) (hsd : sd ∈ L) (ksd : K sd = 152) (as : Nat) (has : as ∈ L) (kas : K as = 153) (aw : Nat) (haw : aw ∈ L) (kaw : K aw = 154) (pa : Nat) (hpa : pa ∈ L) (kpa : K pa = 155) (nm : Nat) (hnm : nm ∈ L) (knm : K nm = 156) (snm : Nat) (hsnm : snm ∈ L) (ksnm : K snm = 157) (anm : Nat) (hanm : anm ∈ L) (kanm : K anm = 158) (hf0 : q_z f mo 2 = 0) (hf1 : q_z f mo 8 = 0) (hf2 : q_z f mo 9 = (-1)) (hf3 : q_z f mo 10 = 0) (hf4 : q_z f mo 11 = (-1)) (hf5 : q_z f mo 21 = 0) (hf6 : q_z f mo 22 = 0) (hf7 : q_z f mo 40 = 0) (hf8 : q_z f sr 0 = 0) (hf9 : q_z f sr 1 = 0) (hf10 : q_z f sr 2 = 12) (hf11 : q_z f sr 3 = 0) (hf12 : q_z f sr 4 = 0) (hf13 : q_z f sr 5 = 1) (hf14 : q_z f sr 6 = 2) (hf15 : q_z f sr 7 = 5) (hf16 : q_z f sr 8 = 3) (hf17 : q_z f sr 9 = 0) (hr0 : q_r f mo 1 = bu) (hr1 : q_r f mo 13 = sr) (hr2 : q_r f mo 14 = sd) (hr3 : q_r f mo 15 = as) (hr4 : q_r f mo 16 = aw) (hr5 : q_r f mo 17 = pa) (hr6 : q_r f mo 18 = nm) (hr7 : q_r f mo 19 = snm) (hr8 : q_r f mo 20 = anm) : q_Ct l g K L yX12_setMiss cX12_setMiss 2 (some .int) 2 41 [.ref mo, .int (q_i a0)] f [(12, 0, 40), (150, 0, 599), (151, 0, 657), (152, 0, 657), (153, 0, 657), (154, 0, 657), (155, 0, 3947), (156, 0, 9), (157, 0, 9), (158, 0, 9)] (q_Pi (fun (z : Int) (f1 : Nat → va_E) => z = 0 ∧ q_z f1 mo 0 = 1)) := by
  refine q_ofb (by decide +kernel) hN hT (Nat.le_of_ble_eq_true rfl) ?_
  intro p e s m below meth c ls cx hr hlk hB hl
  have hl : lv_has ls 2 [(0, .ref mo), (1, .int (q_i a0))] := hl
  obtain ⟨H, hH⟩ : ∃ H : Heap, H = s.heap := ⟨_, rfl⟩
  obtain ⟨locs, hlocs⟩ : ∃ z : List Loc, z = [] := ⟨_, rfl⟩
  rw [← hH, ← hlocs] at hB
  rw [← hH, ← hlocs]
  refine q_ald_n cx dX12_setMiss_0 rfl (lv_at hl 0 rfl) ?_
  refine q_ild_n cx dX12_setMiss_1 rfl (lv_at hl 1 rfl) ?_
  refine q_i2l cx ⟨by omega, by omega⟩ dX12_setMiss_2 ?_
  refine q_lconst (z := 1) cx (by decide) dX12_setMiss_3 ?_
  refine lv_ldc2 (v := q_l 9) cx.1 cx.2.1 cx.2.2.2.1 (cx.2.2.2.2 _ q_h2211) dX12_setMiss_4 ?_
  refine q_cSi (As := [.long (q_l a0), .long (q_l 1), .long (q_l 9)]) (rest := [.ref mo]) cx hB (fun _ h => h) hN (r_isIn l g hN hB.2.1 a0 (by omega) (by omega) 1 (by decide) (by decide) 9 (by decide) (by decide)) q_cX12_93 q_dX12_isIn (by decide) rfl rfl hl.1 rfl (Nat.le_of_ble_eq_true rfl) dX12_setMiss_7 (fun y38 H locs f37 ry38 h39 hF hB => ?_)
  obtain ⟨rfl, ly38, uy38, t40⟩ := h39
  obtain rfl : y38 = 0 := by omega
  refine q_cVi (As := [.int (q_i 0)]) (rest := []) cx hB (fun _ h => h) hN hmo kmo (by decide) rfl (r_goes0 l g hN hB.2.1 mo hmo kmo 0 (by decide) (by decide)) q_cX12_85 q_dX12_goes (by decide) rfl rfl hl.1 rfl (Nat.le_of_ble_eq_true rfl) dX12_setMiss_10 (fun y42 H locs f41 ry42 h43 hF hB => ?_)
  obtain ⟨qy42, z44⟩ := h43
  have z45 : q_z f41 mo 2 = 0 := (hF.z hmo (by rw [kmo]; rfl)).trans hf0
  have z46 : q_z f41 mo 8 = 0 := (hF.z hmo (by rw [kmo]; rfl)).trans hf1
  have z47 : q_z f41 mo 9 = (-1) := (hF.z hmo (by rw [kmo]; rfl)).trans hf2
  have z48 : q_z f41 mo 10 = 0 := (hF.z hmo (by rw [kmo]; rfl)).trans hf3
  have z49 : q_z f41 mo 11 = (-1) := (hF.z hmo (by rw [kmo]; rfl)).trans hf4
  have z50 : q_z f41 mo 21 = 0 := (hF.z hmo (by rw [kmo]; rfl)).trans hf5
  have z51 : q_z f41 mo 22 = 0 := (hF.z hmo (by rw [kmo]; rfl)).trans hf6
  have z52 : q_z f41 mo 40 = 0 := (hF.z hmo (by rw [kmo]; rfl)).trans hf7
  have z53 : q_z f41 sr 0 = 0 := (hF.z hsr (by rw [ksr]; rfl)).trans hf8
  have z54 : q_z f41 sr 1 = 0 := (hF.z hsr (by rw [ksr]; rfl)).trans hf9
  have z55 : q_z f41 sr 2 = 12 := (hF.z hsr (by rw [ksr]; rfl)).trans hf10
  have z56 : q_z f41 sr 3 = 0 := (hF.z hsr (by rw [ksr]; rfl)).trans hf11
  have z57 : q_z f41 sr 4 = 0 := (hF.z hsr (by rw [ksr]; rfl)).trans hf12
  have z58 : q_z f41 sr 5 = 1 := (hF.z hsr (by rw [ksr]; rfl)).trans hf13
  have z59 : q_z f41 sr 6 = 2 := (hF.z hsr (by rw [ksr]; rfl)).trans hf14
  have z60 : q_z f41 sr 7 = 5 := (hF.z hsr (by rw [ksr]; rfl)).trans hf15
  have z61 : q_z f41 sr 8 = 3 := (hF.z hsr (by rw [ksr]; rfl)).trans hf16
  have z62 : q_z f41 sr 9 = 0 := (hF.z hsr (by rw [ksr]; rfl)).trans hf17
  have z63 : q_r f41 mo 1 = bu := (hF.r hmo (by rw [kmo]; rfl)).trans hr0
  have z64 : q_r f41 mo 13 = sr := (hF.r hmo (by rw [kmo]; rfl)).trans hr1
  have z65 : q_r f41 mo 14 = sd := (hF.r hmo (by rw [kmo]; rfl)).trans hr2
  have z66 : q_r f41 mo 15 = as := (hF.r hmo (by rw [kmo]; rfl)).trans hr3
  have z67 : q_r f41 mo 16 = aw := (hF.r hmo (by rw [kmo]; rfl)).trans hr4
  have z68 : q_r f41 mo 17 = pa := (hF.r hmo (by rw [kmo]; rfl)).trans hr5
  have z69 : q_r f41 mo 18 = nm := (hF.r hmo (by rw [kmo]; rfl)).trans hr6
  have z70 : q_r f41 mo 19 = snm := (hF.r hmo (by rw [kmo]; rfl)).trans hr7
  have z71 : q_r f41 mo 20 = anm := (hF.r hmo (by rw [kmo]; rfl)).trans hr8
  subst qy42
  refine q_ifne (tgt := 18) cx ⟨by decide, by decide⟩ dX12_setMiss_13 (by decide) (fun c72 => ?_) (fun c72 => ?_)
  · exact absurd c72 (by omega)
  · refine q_iconst cx dX12_setMiss_16 ?_
    refine q_iret cx hr hlk hB dX12_setMiss_17 ⟨by decide, by decide⟩ ?_
    exact ⟨rfl, z44⟩
set_option maxHeartbeats 4000000 in
set_option maxRecDepth 100000 in
theorem p_setMissb (l : Launch) (g : q_G) {K : Nat → Nat} {L : List Nat} (hN : L.Nodup) {f : Nat → va_E} (hT : q_Ty g K L f) (mo : Nat) (hmo : mo ∈ L) (kmo : K mo = 12) (a0 : Int) (la0 : 1 ≤ a0) (ua0 : a0 ≤ 9) (bu : Nat) (hbu : bu ∈ L) (kbu : K bu = 150) (sr : Nat) (hsr : sr ∈ L) (ksr : K sr = 151) (sd : Nat) (hsd : sd ∈ L) (ksd : K sd = 152) (as : Nat) (has : as ∈ L) (kas : K as = 153) (aw : Nat) (haw : aw ∈ L) (kaw : K aw = 154) (pa : Nat) (hpa : pa ∈ L) (kpa : K pa = 155) (nm : Nat) (hnm : nm ∈ L) (knm : K nm = 156) (snm : Nat) (hsnm : snm ∈ L) (ksnm : K snm = 157) (anm : Nat) (hanm : anm ∈ L) (kanm : K anm = 158) (hf0 : q_z f mo 2 = 0) (hf1 : q_z f mo 8 = 0) (hf2 : q_z f mo 9 = (-1)) (hf3 : q_z f mo 10 = 0) (hf4 : q_z f mo 11 = (-1)) (hf5 : q_z f mo 21 = 0) (hf6 : q_z f mo 22 = 0) (hf7 : q_z f mo 40 = 0) (hf8 : q_z f sr 0 = 0) (hf9 : q_z f sr 1 = 0) (hf10 : q_z f sr 2 = 12) (hf11 : q_z f sr 3 = 0) (hf12 : q_z f sr 4 = 0) (hf13 : q_z f sr 5 = 1) (hf14 : q_z f sr 6 = 2) (hf15 : q_z f sr 7 = 5) (hf16 : q_z f sr 8 = 3) (hf17 : q_z f sr 9 = 0) (hr0 : q_r f mo 1 = bu) (hr1 : q_r f mo 13 = sr) (hr2 : q_r f mo 14 = sd) (hr3 : q_r f mo 15 = as) (hr4 : q_r f mo 16 = aw) (hr5 : q_r f mo 17 = pa) (hr6 : q_r f mo 18 = nm) (hr7 : q_r f mo 19 = snm) (hr8 : q_r f mo 20 = anm) : q_Ct l g K L yX12_setMiss cX12_setMiss 2 (some .int) 3 66 [.ref mo, .int (q_i a0)] f [(12, 0, 40), (150, 0, 599), (151, 0, 657), (152, 0, 657), (153, 0, 657), (154, 0, 657), (155, 0, 3947), (156, 0, 9), (157, 0, 9), (158, 0, 9)] (q_Pi (fun (z : Int) (f1 : Nat → va_E) => z = 3 ∧ q_z f1 mo 0 = 0)) := by
  refine q_ofb (by decide +kernel) hN hT (Nat.le_of_ble_eq_true rfl) ?_
  intro p e s m below meth c ls cx hr hlk hB hl
  have hl : lv_has ls 2 [(0, .ref mo), (1, .int (q_i a0))] := hl
  obtain ⟨H, hH⟩ : ∃ H : Heap, H = s.heap := ⟨_, rfl⟩
  obtain ⟨locs, hlocs⟩ : ∃ z : List Loc, z = [] := ⟨_, rfl⟩
  rw [← hH, ← hlocs] at hB
  rw [← hH, ← hlocs]
  refine q_ald_n cx dX12_setMiss_0 rfl (lv_at hl 0 rfl) ?_
  refine q_ild_n cx dX12_setMiss_1 rfl (lv_at hl 1 rfl) ?_
  refine q_i2l cx ⟨by omega, by omega⟩ dX12_setMiss_2 ?_
  refine q_lconst (z := 1) cx (by decide) dX12_setMiss_3 ?_
  refine lv_ldc2 (v := q_l 9) cx.1 cx.2.1 cx.2.2.2.1 (cx.2.2.2.2 _ q_h2211) dX12_setMiss_4 ?_
  refine q_cSi (As := [.long (q_l a0), .long (q_l 1), .long (q_l 9)]) (rest := [.ref mo]) cx hB (fun _ h => h) hN (r_isIn l g hN hB.2.1 a0 (by omega) (by omega) 1 (by decide) (by decide) 9 (by decide) (by decide)) q_cX12_93 q_dX12_isIn (by decide) rfl rfl hl.1 rfl (Nat.le_of_ble_eq_true rfl) dX12_setMiss_7 (fun y128 H locs f127 ry128 h129 hF hB => ?_)
  obtain ⟨rfl, ly128, uy128, t130⟩ := h129
  obtain rfl : y128 = 1 := by omega
  refine q_cVi (As := [.int (q_i 1)]) (rest := []) cx hB (fun _ h => h) hN hmo kmo (by decide) rfl (r_goes1 l g hN hB.2.1 mo hmo kmo 1 (by decide) (by decide)) q_cX12_85 q_dX12_goes (by decide) rfl rfl hl.1 rfl (Nat.le_of_ble_eq_true rfl) dX12_setMiss_10 (fun y132 H locs f131 ry132 h133 hF hB => ?_)
  obtain ⟨qy132, z134⟩ := h133
  have z135 : q_z f131 mo 2 = 0 := (hF.z hmo (by rw [kmo]; rfl)).trans hf0
  have z136 : q_z f131 mo 8 = 0 := (hF.z hmo (by rw [kmo]; rfl)).trans hf1
  have z137 : q_z f131 mo 9 = (-1) := (hF.z hmo (by rw [kmo]; rfl)).trans hf2
  have z138 : q_z f131 mo 10 = 0 := (hF.z hmo (by rw [kmo]; rfl)).trans hf3
  have z139 : q_z f131 mo 11 = (-1) := (hF.z hmo (by rw [kmo]; rfl)).trans hf4
  have z140 : q_z f131 mo 21 = 0 := (hF.z hmo (by rw [kmo]; rfl)).trans hf5
  have z141 : q_z f131 mo 22 = 0 := (hF.z hmo (by rw [kmo]; rfl)).trans hf6
  have z142 : q_z f131 mo 40 = 0 := (hF.z hmo (by rw [kmo]; rfl)).trans hf7
  have z143 : q_z f131 sr 0 = 0 := (hF.z hsr (by rw [ksr]; rfl)).trans hf8
  have z144 : q_z f131 sr 1 = 0 := (hF.z hsr (by rw [ksr]; rfl)).trans hf9
  have z145 : q_z f131 sr 2 = 12 := (hF.z hsr (by rw [ksr]; rfl)).trans hf10
  have z146 : q_z f131 sr 3 = 0 := (hF.z hsr (by rw [ksr]; rfl)).trans hf11
  have z147 : q_z f131 sr 4 = 0 := (hF.z hsr (by rw [ksr]; rfl)).trans hf12
  have z148 : q_z f131 sr 5 = 1 := (hF.z hsr (by rw [ksr]; rfl)).trans hf13
  have z149 : q_z f131 sr 6 = 2 := (hF.z hsr (by rw [ksr]; rfl)).trans hf14
  have z150 : q_z f131 sr 7 = 5 := (hF.z hsr (by rw [ksr]; rfl)).trans hf15
  have z151 : q_z f131 sr 8 = 3 := (hF.z hsr (by rw [ksr]; rfl)).trans hf16
  have z152 : q_z f131 sr 9 = 0 := (hF.z hsr (by rw [ksr]; rfl)).trans hf17
  have z153 : q_r f131 mo 1 = bu := (hF.r hmo (by rw [kmo]; rfl)).trans hr0
  have z154 : q_r f131 mo 13 = sr := (hF.r hmo (by rw [kmo]; rfl)).trans hr1
  have z155 : q_r f131 mo 14 = sd := (hF.r hmo (by rw [kmo]; rfl)).trans hr2
  have z156 : q_r f131 mo 15 = as := (hF.r hmo (by rw [kmo]; rfl)).trans hr3
  have z157 : q_r f131 mo 16 = aw := (hF.r hmo (by rw [kmo]; rfl)).trans hr4
  have z158 : q_r f131 mo 17 = pa := (hF.r hmo (by rw [kmo]; rfl)).trans hr5
  have z159 : q_r f131 mo 18 = nm := (hF.r hmo (by rw [kmo]; rfl)).trans hr6
  have z160 : q_r f131 mo 19 = snm := (hF.r hmo (by rw [kmo]; rfl)).trans hr7
  have z161 : q_r f131 mo 20 = anm := (hF.r hmo (by rw [kmo]; rfl)).trans hr8
  subst qy132
  refine q_ifne (tgt := 18) cx ⟨by decide, by decide⟩ dX12_setMiss_13 (by decide) (fun c162 => ?_) (fun c162 => ?_)
  · refine q_ald_n cx dX12_setMiss_18 rfl (lv_at hl 0 rfl) ?_
    refine q_cVv (As := []) (rest := []) cx hB (fun _ h => h) hN hmo kmo (by decide) rfl (r_laysAside l g hN hB.2.1 mo hmo kmo sr hsr ksr as has kas z154 z156) q_cX12_247 q_dX12_laysAside (by decide) rfl rfl hl.1 rfl (Nat.le_of_ble_eq_true rfl) dX12_setMiss_19 (fun H locs f163 h165 hF hB => ?_)
    have z166 : q_z f163 mo 2 = 0 := (hF.z hmo (by rw [kmo]; rfl)).trans z135
    have z167 : q_z f163 mo 8 = 0 := (hF.z hmo (by rw [kmo]; rfl)).trans z136
    have z168 : q_z f163 mo 9 = (-1) := (hF.z hmo (by rw [kmo]; rfl)).trans z137
    have z169 : q_z f163 mo 10 = 0 := (hF.z hmo (by rw [kmo]; rfl)).trans z138
    have z170 : q_z f163 mo 11 = (-1) := (hF.z hmo (by rw [kmo]; rfl)).trans z139
    have z171 : q_z f163 mo 21 = 0 := (hF.z hmo (by rw [kmo]; rfl)).trans z140
    have z172 : q_z f163 mo 22 = 0 := (hF.z hmo (by rw [kmo]; rfl)).trans z141
    have z173 : q_z f163 mo 40 = 0 := (hF.z hmo (by rw [kmo]; rfl)).trans z142
    have z174 : q_z f163 sr 0 = 0 := (hF.z hsr (by rw [ksr]; rfl)).trans z143
    have z175 : q_z f163 sr 1 = 0 := (hF.z hsr (by rw [ksr]; rfl)).trans z144
    have z176 : q_z f163 sr 2 = 12 := (hF.z hsr (by rw [ksr]; rfl)).trans z145
    have z177 : q_z f163 sr 3 = 0 := (hF.z hsr (by rw [ksr]; rfl)).trans z146
    have z178 : q_z f163 sr 4 = 0 := (hF.z hsr (by rw [ksr]; rfl)).trans z147
    have z179 : q_z f163 sr 5 = 1 := (hF.z hsr (by rw [ksr]; rfl)).trans z148
    have z180 : q_z f163 sr 6 = 2 := (hF.z hsr (by rw [ksr]; rfl)).trans z149
    have z181 : q_z f163 sr 7 = 5 := (hF.z hsr (by rw [ksr]; rfl)).trans z150
    have z182 : q_z f163 sr 8 = 3 := (hF.z hsr (by rw [ksr]; rfl)).trans z151
    have z183 : q_z f163 sr 9 = 0 := (hF.z hsr (by rw [ksr]; rfl)).trans z152
    have z184 : q_z f163 mo 0 = 0 := (hF.z hmo (by rw [kmo]; rfl)).trans z134
    have z185 : q_r f163 mo 1 = bu := (hF.r hmo (by rw [kmo]; rfl)).trans z153
    have z186 : q_r f163 mo 13 = sr := (hF.r hmo (by rw [kmo]; rfl)).trans z154
    have z187 : q_r f163 mo 14 = sd := (hF.r hmo (by rw [kmo]; rfl)).trans z155
    have z188 : q_r f163 mo 15 = as := (hF.r hmo (by rw [kmo]; rfl)).trans z156
    have z189 : q_r f163 mo 16 = aw := (hF.r hmo (by rw [kmo]; rfl)).trans z157
    have z190 : q_r f163 mo 17 = pa := (hF.r hmo (by rw [kmo]; rfl)).trans z158
    have z191 : q_r f163 mo 18 = nm := (hF.r hmo (by rw [kmo]; rfl)).trans z159
    have z192 : q_r f163 mo 19 = snm := (hF.r hmo (by rw [kmo]; rfl)).trans z160
    have z193 : q_r f163 mo 20 = anm := (hF.r hmo (by rw [kmo]; rfl)).trans z161
    refine q_ald_n cx dX12_setMiss_22 rfl (lv_at hl 0 rfl) ?_
    refine q_ald_n cx dX12_setMiss_23 rfl (lv_at hl 0 rfl) ?_
    refine q_bipush cx dX12_setMiss_24 rfl ?_
    refine q_ild_n cx dX12_setMiss_26 rfl (lv_at hl 1 rfl) ?_
    refine q_cVi (As := [.int (q_i 8), .int (q_i a0)]) (rest := [.ref mo]) cx hB (fun _ h => h) hN hmo kmo (by decide) rfl (r_swapsCell8 l g hN hB.2.1 mo hmo kmo 8 (by decide) (by decide) a0 (by omega) (by omega) sr hsr ksr z182 z186) q_cX12_462 q_dX12_swapsCell (by decide) rfl rfl hl.1 rfl (Nat.le_of_ble_eq_true rfl) dX12_setMiss_27 (fun y195 H locs f194 ry195 h196 hF hB => ?_)
    have qy195 := h196
    have z197 : q_z f194 mo 2 = 0 := (hF.z hmo (by rw [kmo]; rfl)).trans z166
    have z198 : q_z f194 mo 8 = 0 := (hF.z hmo (by rw [kmo]; rfl)).trans z167
    have z199 : q_z f194 mo 9 = (-1) := (hF.z hmo (by rw [kmo]; rfl)).trans z168
    have z200 : q_z f194 mo 10 = 0 := (hF.z hmo (by rw [kmo]; rfl)).trans z169
    have z201 : q_z f194 mo 11 = (-1) := (hF.z hmo (by rw [kmo]; rfl)).trans z170
    have z202 : q_z f194 mo 21 = 0 := (hF.z hmo (by rw [kmo]; rfl)).trans z171
    have z203 : q_z f194 mo 22 = 0 := (hF.z hmo (by rw [kmo]; rfl)).trans z172
    have z204 : q_z f194 mo 40 = 0 := (hF.z hmo (by rw [kmo]; rfl)).trans z173
    have z205 : q_z f194 sr 0 = 0 := (hF.z hsr (by rw [ksr]; rfl)).trans z174
    have z206 : q_z f194 sr 1 = 0 := (hF.z hsr (by rw [ksr]; rfl)).trans z175
    have z207 : q_z f194 sr 2 = 12 := (hF.z hsr (by rw [ksr]; rfl)).trans z176
    have z208 : q_z f194 sr 3 = 0 := (hF.z hsr (by rw [ksr]; rfl)).trans z177
    have z209 : q_z f194 sr 4 = 0 := (hF.z hsr (by rw [ksr]; rfl)).trans z178
    have z210 : q_z f194 sr 5 = 1 := (hF.z hsr (by rw [ksr]; rfl)).trans z179
    have z211 : q_z f194 sr 6 = 2 := (hF.z hsr (by rw [ksr]; rfl)).trans z180
    have z212 : q_z f194 sr 7 = 5 := (hF.z hsr (by rw [ksr]; rfl)).trans z181
    have z213 : q_z f194 sr 9 = 0 := (hF.z hsr (by rw [ksr]; rfl)).trans z183
    have z214 : q_z f194 mo 0 = 0 := (hF.z hmo (by rw [kmo]; rfl)).trans z184
    have z215 : q_r f194 mo 1 = bu := (hF.r hmo (by rw [kmo]; rfl)).trans z185
    have z216 : q_r f194 mo 13 = sr := (hF.r hmo (by rw [kmo]; rfl)).trans z186
    have z217 : q_r f194 mo 14 = sd := (hF.r hmo (by rw [kmo]; rfl)).trans z187
    have z218 : q_r f194 mo 15 = as := (hF.r hmo (by rw [kmo]; rfl)).trans z188
    have z219 : q_r f194 mo 16 = aw := (hF.r hmo (by rw [kmo]; rfl)).trans z189
    have z220 : q_r f194 mo 17 = pa := (hF.r hmo (by rw [kmo]; rfl)).trans z190
    have z221 : q_r f194 mo 18 = nm := (hF.r hmo (by rw [kmo]; rfl)).trans z191
    have z222 : q_r f194 mo 19 = snm := (hF.r hmo (by rw [kmo]; rfl)).trans z192
    have z223 : q_r f194 mo 20 = anm := (hF.r hmo (by rw [kmo]; rfl)).trans z193
    subst qy195
    refine q_cVi (As := [.int (q_i 3)]) (rest := []) cx hB (fun _ h => h) hN hmo kmo (by decide) rfl (r_kept0 l g hN hB.2.1 mo hmo kmo 3 (by decide) (by decide) as has kas pa hpa kpa z202 z218 z220) q_cX12_449 q_dX12_kept (by decide) rfl rfl hl.1 rfl (Nat.le_of_ble_eq_true rfl) dX12_setMiss_30 (fun y225 H locs f224 ry225 h226 hF hB => ?_)
    have qy225 := h226
    have z227 : q_z f224 mo 2 = 0 := (hF.z hmo (by rw [kmo]; rfl)).trans z197
    have z228 : q_z f224 mo 8 = 0 := (hF.z hmo (by rw [kmo]; rfl)).trans z198
    have z229 : q_z f224 mo 9 = (-1) := (hF.z hmo (by rw [kmo]; rfl)).trans z199
    have z230 : q_z f224 mo 10 = 0 := (hF.z hmo (by rw [kmo]; rfl)).trans z200
    have z231 : q_z f224 mo 11 = (-1) := (hF.z hmo (by rw [kmo]; rfl)).trans z201
    have z232 : q_z f224 mo 22 = 0 := (hF.z hmo (by rw [kmo]; rfl)).trans z203
    have z233 : q_z f224 mo 40 = 0 := (hF.z hmo (by rw [kmo]; rfl)).trans z204
    have z234 : q_z f224 sr 0 = 0 := (hF.z hsr (by rw [ksr]; rfl)).trans z205
    have z235 : q_z f224 sr 1 = 0 := (hF.z hsr (by rw [ksr]; rfl)).trans z206
    have z236 : q_z f224 sr 2 = 12 := (hF.z hsr (by rw [ksr]; rfl)).trans z207
    have z237 : q_z f224 sr 3 = 0 := (hF.z hsr (by rw [ksr]; rfl)).trans z208
    have z238 : q_z f224 sr 4 = 0 := (hF.z hsr (by rw [ksr]; rfl)).trans z209
    have z239 : q_z f224 sr 5 = 1 := (hF.z hsr (by rw [ksr]; rfl)).trans z210
    have z240 : q_z f224 sr 6 = 2 := (hF.z hsr (by rw [ksr]; rfl)).trans z211
    have z241 : q_z f224 sr 7 = 5 := (hF.z hsr (by rw [ksr]; rfl)).trans z212
    have z242 : q_z f224 sr 9 = 0 := (hF.z hsr (by rw [ksr]; rfl)).trans z213
    have z243 : q_z f224 mo 0 = 0 := (hF.z hmo (by rw [kmo]; rfl)).trans z214
    have z244 : q_r f224 mo 1 = bu := (hF.r hmo (by rw [kmo]; rfl)).trans z215
    have z245 : q_r f224 mo 13 = sr := (hF.r hmo (by rw [kmo]; rfl)).trans z216
    have z246 : q_r f224 mo 14 = sd := (hF.r hmo (by rw [kmo]; rfl)).trans z217
    have z247 : q_r f224 mo 15 = as := (hF.r hmo (by rw [kmo]; rfl)).trans z218
    have z248 : q_r f224 mo 16 = aw := (hF.r hmo (by rw [kmo]; rfl)).trans z219
    have z249 : q_r f224 mo 17 = pa := (hF.r hmo (by rw [kmo]; rfl)).trans z220
    have z250 : q_r f224 mo 18 = nm := (hF.r hmo (by rw [kmo]; rfl)).trans z221
    have z251 : q_r f224 mo 19 = snm := (hF.r hmo (by rw [kmo]; rfl)).trans z222
    have z252 : q_r f224 mo 20 = anm := (hF.r hmo (by rw [kmo]; rfl)).trans z223
    subst qy225
    refine q_iret cx hr hlk hB dX12_setMiss_33 ⟨by decide, by decide⟩ ?_
    exact ⟨rfl, z243⟩
  · exact absurd c162 (by omega)
set_option maxHeartbeats 4000000 in
set_option maxRecDepth 100000 in
theorem p_setMissc (l : Launch) (g : q_G) {K : Nat → Nat} {L : List Nat} (hN : L.Nodup) {f : Nat → va_E} (hT : q_Ty g K L f) (mo : Nat) (hmo : mo ∈ L) (kmo : K mo = 12) (a0 : Int) (la0 : 10 ≤ a0) (ua0 : a0 ≤ 2147483647) (bu : Nat) (hbu : bu ∈ L) (kbu : K bu = 150) (sr : Nat) (hsr : sr ∈ L) (ksr : K sr = 151) (sd : Nat) (hsd : sd ∈ L) (ksd : K sd = 152) (as : Nat) (has : as ∈ L) (kas : K as = 153) (aw : Nat) (haw : aw ∈ L) (kaw : K aw = 154) (pa : Nat) (hpa : pa ∈ L) (kpa : K pa = 155) (nm : Nat) (hnm : nm ∈ L) (knm : K nm = 156) (snm : Nat) (hsnm : snm ∈ L) (ksnm : K snm = 157) (anm : Nat) (hanm : anm ∈ L) (kanm : K anm = 158) (hf0 : q_z f mo 2 = 0) (hf1 : q_z f mo 8 = 0) (hf2 : q_z f mo 9 = (-1)) (hf3 : q_z f mo 10 = 0) (hf4 : q_z f mo 11 = (-1)) (hf5 : q_z f mo 21 = 0) (hf6 : q_z f mo 22 = 0) (hf7 : q_z f mo 40 = 0) (hf8 : q_z f sr 0 = 0) (hf9 : q_z f sr 1 = 0) (hf10 : q_z f sr 2 = 12) (hf11 : q_z f sr 3 = 0) (hf12 : q_z f sr 4 = 0) (hf13 : q_z f sr 5 = 1) (hf14 : q_z f sr 6 = 2) (hf15 : q_z f sr 7 = 5) (hf16 : q_z f sr 8 = 3) (hf17 : q_z f sr 9 = 0) (hr0 : q_r f mo 1 = bu) (hr1 : q_r f mo 13 = sr) (hr2 : q_r f mo 14 = sd) (hr3 : q_r f mo 15 = as) (hr4 : q_r f mo 16 = aw) (hr5 : q_r f mo 17 = pa) (hr6 : q_r f mo 18 = nm) (hr7 : q_r f mo 19 = snm) (hr8 : q_r f mo 20 = anm) : q_Ct l g K L yX12_setMiss cX12_setMiss 2 (some .int) 2 41 [.ref mo, .int (q_i a0)] f [(12, 0, 40), (150, 0, 599), (151, 0, 657), (152, 0, 657), (153, 0, 657), (154, 0, 657), (155, 0, 3947), (156, 0, 9), (157, 0, 9), (158, 0, 9)] (q_Pi (fun (z : Int) (f1 : Nat → va_E) => z = 0 ∧ q_z f1 mo 0 = 1)) := by
  refine q_ofb (by decide +kernel) hN hT (Nat.le_of_ble_eq_true rfl) ?_
  intro p e s m below meth c ls cx hr hlk hB hl
  have hl : lv_has ls 2 [(0, .ref mo), (1, .int (q_i a0))] := hl
  obtain ⟨H, hH⟩ : ∃ H : Heap, H = s.heap := ⟨_, rfl⟩
  obtain ⟨locs, hlocs⟩ : ∃ z : List Loc, z = [] := ⟨_, rfl⟩
  rw [← hH, ← hlocs] at hB
  rw [← hH, ← hlocs]
  refine q_ald_n cx dX12_setMiss_0 rfl (lv_at hl 0 rfl) ?_
  refine q_ild_n cx dX12_setMiss_1 rfl (lv_at hl 1 rfl) ?_
  refine q_i2l cx ⟨by omega, by omega⟩ dX12_setMiss_2 ?_
  refine q_lconst (z := 1) cx (by decide) dX12_setMiss_3 ?_
  refine lv_ldc2 (v := q_l 9) cx.1 cx.2.1 cx.2.2.2.1 (cx.2.2.2.2 _ q_h2211) dX12_setMiss_4 ?_
  refine q_cSi (As := [.long (q_l a0), .long (q_l 1), .long (q_l 9)]) (rest := [.ref mo]) cx hB (fun _ h => h) hN (r_isIn l g hN hB.2.1 a0 (by omega) (by omega) 1 (by decide) (by decide) 9 (by decide) (by decide)) q_cX12_93 q_dX12_isIn (by decide) rfl rfl hl.1 rfl (Nat.le_of_ble_eq_true rfl) dX12_setMiss_7 (fun y38 H locs f37 ry38 h39 hF hB => ?_)
  obtain ⟨rfl, ly38, uy38, t40⟩ := h39
  obtain rfl : y38 = 0 := by omega
  refine q_cVi (As := [.int (q_i 0)]) (rest := []) cx hB (fun _ h => h) hN hmo kmo (by decide) rfl (r_goes0 l g hN hB.2.1 mo hmo kmo 0 (by decide) (by decide)) q_cX12_85 q_dX12_goes (by decide) rfl rfl hl.1 rfl (Nat.le_of_ble_eq_true rfl) dX12_setMiss_10 (fun y42 H locs f41 ry42 h43 hF hB => ?_)
  obtain ⟨qy42, z44⟩ := h43
  have z45 : q_z f41 mo 2 = 0 := (hF.z hmo (by rw [kmo]; rfl)).trans hf0
  have z46 : q_z f41 mo 8 = 0 := (hF.z hmo (by rw [kmo]; rfl)).trans hf1
  have z47 : q_z f41 mo 9 = (-1) := (hF.z hmo (by rw [kmo]; rfl)).trans hf2
  have z48 : q_z f41 mo 10 = 0 := (hF.z hmo (by rw [kmo]; rfl)).trans hf3
  have z49 : q_z f41 mo 11 = (-1) := (hF.z hmo (by rw [kmo]; rfl)).trans hf4
  have z50 : q_z f41 mo 21 = 0 := (hF.z hmo (by rw [kmo]; rfl)).trans hf5
  have z51 : q_z f41 mo 22 = 0 := (hF.z hmo (by rw [kmo]; rfl)).trans hf6
  have z52 : q_z f41 mo 40 = 0 := (hF.z hmo (by rw [kmo]; rfl)).trans hf7
  have z53 : q_z f41 sr 0 = 0 := (hF.z hsr (by rw [ksr]; rfl)).trans hf8
  have z54 : q_z f41 sr 1 = 0 := (hF.z hsr (by rw [ksr]; rfl)).trans hf9
  have z55 : q_z f41 sr 2 = 12 := (hF.z hsr (by rw [ksr]; rfl)).trans hf10
  have z56 : q_z f41 sr 3 = 0 := (hF.z hsr (by rw [ksr]; rfl)).trans hf11
  have z57 : q_z f41 sr 4 = 0 := (hF.z hsr (by rw [ksr]; rfl)).trans hf12
  have z58 : q_z f41 sr 5 = 1 := (hF.z hsr (by rw [ksr]; rfl)).trans hf13
  have z59 : q_z f41 sr 6 = 2 := (hF.z hsr (by rw [ksr]; rfl)).trans hf14
  have z60 : q_z f41 sr 7 = 5 := (hF.z hsr (by rw [ksr]; rfl)).trans hf15
  have z61 : q_z f41 sr 8 = 3 := (hF.z hsr (by rw [ksr]; rfl)).trans hf16
  have z62 : q_z f41 sr 9 = 0 := (hF.z hsr (by rw [ksr]; rfl)).trans hf17
  have z63 : q_r f41 mo 1 = bu := (hF.r hmo (by rw [kmo]; rfl)).trans hr0
  have z64 : q_r f41 mo 13 = sr := (hF.r hmo (by rw [kmo]; rfl)).trans hr1
  have z65 : q_r f41 mo 14 = sd := (hF.r hmo (by rw [kmo]; rfl)).trans hr2
  have z66 : q_r f41 mo 15 = as := (hF.r hmo (by rw [kmo]; rfl)).trans hr3
  have z67 : q_r f41 mo 16 = aw := (hF.r hmo (by rw [kmo]; rfl)).trans hr4
  have z68 : q_r f41 mo 17 = pa := (hF.r hmo (by rw [kmo]; rfl)).trans hr5
  have z69 : q_r f41 mo 18 = nm := (hF.r hmo (by rw [kmo]; rfl)).trans hr6
  have z70 : q_r f41 mo 19 = snm := (hF.r hmo (by rw [kmo]; rfl)).trans hr7
  have z71 : q_r f41 mo 20 = anm := (hF.r hmo (by rw [kmo]; rfl)).trans hr8
  subst qy42
  refine q_ifne (tgt := 18) cx ⟨by decide, by decide⟩ dX12_setMiss_13 (by decide) (fun c72 => ?_) (fun c72 => ?_)
  · exact absurd c72 (by omega)
  · refine q_iconst cx dX12_setMiss_16 ?_
    refine q_iret cx hr hlk hB dX12_setMiss_17 ⟨by decide, by decide⟩ ?_
    exact ⟨rfl, z44⟩
set_option maxHeartbeats 4000000 in
set_option maxRecDepth 100000 in
theorem p_report (l : Launch) (g : q_G) {K : Nat → Nat} {L : List Nat} (hN : L.Nodup) {f : Nat → va_E} (hT : q_Ty g K L f) (mo : Nat) (hmo : mo ∈ L) (kmo : K mo = 12) (bu : Nat) (hbu : bu ∈ L) (kbu : K bu = 150) (sr : Nat) (hsr : sr ∈ L) (ksr : K sr = 151) (sd : Nat) (hsd : sd ∈ L) (ksd : K sd = 152) (as : Nat) (has : as ∈ L) (kas : K as = 153) (aw : Nat) (haw : aw ∈ L) (kaw : K aw = 154) (pa : Nat) (hpa : pa ∈ L) (kpa : K pa = 155) (nm : Nat) (hnm : nm ∈ L) (knm : K nm = 156) (snm : Nat) (hsnm : snm ∈ L) (ksnm : K snm = 157) (anm : Nat) (hanm : anm ∈ L) (kanm : K anm = 158) (hf0 : q_z f mo 2 = 0) (hf1 : q_z f mo 8 = 0) (hf2 : q_z f mo 9 = (-1)) (hf3 : q_z f mo 10 = 0) (hf4 : q_z f mo 11 = (-1)) (hf5 : q_z f mo 21 = 0) (hf6 : q_z f mo 22 = 0) (hf7 : q_z f mo 40 = 0) (hf8 : q_z f sr 0 = 0) (hf9 : q_z f sr 1 = 0) (hf10 : q_z f sr 2 = 12) (hf11 : q_z f sr 3 = 0) (hf12 : q_z f sr 4 = 0) (hf13 : q_z f sr 5 = 1) (hf14 : q_z f sr 6 = 2) (hf15 : q_z f sr 7 = 5) (hf16 : q_z f sr 8 = 3) (hf17 : q_z f sr 9 = 0) (hr0 : q_r f mo 1 = bu) (hr1 : q_r f mo 13 = sr) (hr2 : q_r f mo 14 = sd) (hr3 : q_r f mo 15 = as) (hr4 : q_r f mo 16 = aw) (hr5 : q_r f mo 17 = pa) (hr6 : q_r f mo 18 = nm) (hr7 : q_r f mo 19 = snm) (hr8 : q_r f mo 20 = anm) : q_Ct l g K L yX12_report cX12_report 2 (some .int) 0 0 [.ref mo] f [(12, 0, 40), (150, 0, 599), (151, 0, 657), (152, 0, 657), (153, 0, 657), (154, 0, 657), (155, 0, 3947), (156, 0, 9), (157, 0, 9), (158, 0, 9)] (q_Pi (fun (z : Int) (f1 : Nat → va_E) => z = 0 ∧ q_z f1 mo 0 = 0)) := by
  refine q_ofb (by decide +kernel) hN hT (Nat.le_of_ble_eq_true rfl) ?_
  intro p e s m below meth c ls cx hr hlk hB hl
  have hl : lv_has ls 2 [(0, .ref mo)] := hl
  obtain ⟨H, hH⟩ : ∃ H : Heap, H = s.heap := ⟨_, rfl⟩
  obtain ⟨locs, hlocs⟩ : ∃ z : List Loc, z = [] := ⟨_, rfl⟩
  rw [← hH, ← hlocs] at hB
  rw [← hH, ← hlocs]
  refine q_ald_n cx dX12_report_0 rfl (lv_at hl 0 rfl) ?_
  refine q_iconst cx dX12_report_1 ?_
  refine q_pX12_75 cx hB hmo kmo ⟨by decide, by decide⟩ (by decide) (by decide) rfl dX12_report_2 (fun H locs f95 ef95 z96 hB => ?_)
  have z97 : q_z f95 mo 2 = 0 := by rw [ef95, q_setz (Or.inr (by decide))]; exact hf0
  have z98 : q_z f95 mo 8 = 0 := by rw [ef95, q_setz (Or.inr (by decide))]; exact hf1
  have z99 : q_z f95 mo 9 = (-1) := by rw [ef95, q_setz (Or.inr (by decide))]; exact hf2
  have z100 : q_z f95 mo 10 = 0 := by rw [ef95, q_setz (Or.inr (by decide))]; exact hf3
  have z101 : q_z f95 mo 11 = (-1) := by rw [ef95, q_setz (Or.inr (by decide))]; exact hf4
  have z102 : q_z f95 mo 21 = 0 := by rw [ef95, q_setz (Or.inr (by decide))]; exact hf5
  have z103 : q_z f95 mo 22 = 0 := by rw [ef95, q_setz (Or.inr (by decide))]; exact hf6
  have z104 : q_z f95 mo 40 = 0 := by rw [ef95, q_setz (Or.inr (by decide))]; exact hf7
  have z105 : q_z f95 sr 0 = 0 := by rw [ef95, q_setz (Or.inl (fun q => by rw [q, kmo] at ksr; exact absurd ksr (by decide)))]; exact hf8
  have z106 : q_z f95 sr 1 = 0 := by rw [ef95, q_setz (Or.inr (by decide))]; exact hf9
  have z107 : q_z f95 sr 2 = 12 := by rw [ef95, q_setz (Or.inr (by decide))]; exact hf10
  have z108 : q_z f95 sr 3 = 0 := by rw [ef95, q_setz (Or.inr (by decide))]; exact hf11
  have z109 : q_z f95 sr 4 = 0 := by rw [ef95, q_setz (Or.inr (by decide))]; exact hf12
  have z110 : q_z f95 sr 5 = 1 := by rw [ef95, q_setz (Or.inr (by decide))]; exact hf13
  have z111 : q_z f95 sr 6 = 2 := by rw [ef95, q_setz (Or.inr (by decide))]; exact hf14
  have z112 : q_z f95 sr 7 = 5 := by rw [ef95, q_setz (Or.inr (by decide))]; exact hf15
  have z113 : q_z f95 sr 8 = 3 := by rw [ef95, q_setz (Or.inr (by decide))]; exact hf16
  have z114 : q_z f95 sr 9 = 0 := by rw [ef95, q_setz (Or.inr (by decide))]; exact hf17
  have z115 : q_r f95 mo 1 = bu := by rw [ef95, q_setr (Or.inr (by decide))]; exact hr0
  have z116 : q_r f95 mo 13 = sr := by rw [ef95, q_setr (Or.inr (by decide))]; exact hr1
  have z117 : q_r f95 mo 14 = sd := by rw [ef95, q_setr (Or.inr (by decide))]; exact hr2
  have z118 : q_r f95 mo 15 = as := by rw [ef95, q_setr (Or.inr (by decide))]; exact hr3
  have z119 : q_r f95 mo 16 = aw := by rw [ef95, q_setr (Or.inr (by decide))]; exact hr4
  have z120 : q_r f95 mo 17 = pa := by rw [ef95, q_setr (Or.inr (by decide))]; exact hr5
  have z121 : q_r f95 mo 18 = nm := by rw [ef95, q_setr (Or.inr (by decide))]; exact hr6
  have z122 : q_r f95 mo 19 = snm := by rw [ef95, q_setr (Or.inr (by decide))]; exact hr7
  have z123 : q_r f95 mo 20 = anm := by rw [ef95, q_setr (Or.inr (by decide))]; exact hr8
  refine q_ald_n cx dX12_report_5 rfl (lv_at hl 0 rfl) ?_
  refine q_iconst cx dX12_report_6 ?_
  refine q_pX12_515 cx hB hmo kmo ⟨by decide, by decide⟩ (by decide) (by decide) rfl dX12_report_7 (fun H locs f124 ef124 z125 hB => ?_)
  have z126 : q_z f124 mo 2 = 0 := by rw [ef124, q_setz (Or.inr (by decide))]; exact z97
  have z127 : q_z f124 mo 8 = 0 := by rw [ef124, q_setz (Or.inr (by decide))]; exact z98
  have z128 : q_z f124 mo 9 = (-1) := by rw [ef124, q_setz (Or.inr (by decide))]; exact z99
  have z129 : q_z f124 mo 10 = 0 := by rw [ef124, q_setz (Or.inr (by decide))]; exact z100
  have z130 : q_z f124 mo 11 = (-1) := by rw [ef124, q_setz (Or.inr (by decide))]; exact z101
  have z131 : q_z f124 mo 21 = 0 := by rw [ef124, q_setz (Or.inr (by decide))]; exact z102
  have z132 : q_z f124 mo 22 = 0 := by rw [ef124, q_setz (Or.inr (by decide))]; exact z103
  have z133 : q_z f124 mo 40 = 0 := by rw [ef124, q_setz (Or.inr (by decide))]; exact z104
  have z134 : q_z f124 sr 0 = 0 := by rw [ef124, q_setz (Or.inr (by decide))]; exact z105
  have z135 : q_z f124 sr 1 = 0 := by rw [ef124, q_setz (Or.inr (by decide))]; exact z106
  have z136 : q_z f124 sr 2 = 12 := by rw [ef124, q_setz (Or.inr (by decide))]; exact z107
  have z137 : q_z f124 sr 3 = 0 := by rw [ef124, q_setz (Or.inr (by decide))]; exact z108
  have z138 : q_z f124 sr 4 = 0 := by rw [ef124, q_setz (Or.inr (by decide))]; exact z109
  have z139 : q_z f124 sr 5 = 1 := by rw [ef124, q_setz (Or.inr (by decide))]; exact z110
  have z140 : q_z f124 sr 6 = 2 := by rw [ef124, q_setz (Or.inr (by decide))]; exact z111
  have z141 : q_z f124 sr 7 = 5 := by rw [ef124, q_setz (Or.inr (by decide))]; exact z112
  have z142 : q_z f124 sr 8 = 3 := by rw [ef124, q_setz (Or.inr (by decide))]; exact z113
  have z143 : q_z f124 sr 9 = 0 := by rw [ef124, q_setz (Or.inr (by decide))]; exact z114
  have z144 : q_z f124 mo 0 = 0 := by rw [ef124, q_setz (Or.inr (by decide))]; exact z96
  have z145 : q_r f124 mo 1 = bu := by rw [ef124, q_setr (Or.inr (by decide))]; exact z115
  have z146 : q_r f124 mo 13 = sr := by rw [ef124, q_setr (Or.inr (by decide))]; exact z116
  have z147 : q_r f124 mo 14 = sd := by rw [ef124, q_setr (Or.inr (by decide))]; exact z117
  have z148 : q_r f124 mo 15 = as := by rw [ef124, q_setr (Or.inr (by decide))]; exact z118
  have z149 : q_r f124 mo 16 = aw := by rw [ef124, q_setr (Or.inr (by decide))]; exact z119
  have z150 : q_r f124 mo 17 = pa := by rw [ef124, q_setr (Or.inr (by decide))]; exact z120
  have z151 : q_r f124 mo 18 = nm := by rw [ef124, q_setr (Or.inr (by decide))]; exact z121
  have z152 : q_r f124 mo 19 = snm := by rw [ef124, q_setr (Or.inr (by decide))]; exact z122
  have z153 : q_r f124 mo 20 = anm := by rw [ef124, q_setr (Or.inr (by decide))]; exact z123
  refine q_ald_n cx dX12_report_10 rfl (lv_at hl 0 rfl) ?_
  refine q_iconst cx dX12_report_11 ?_
  refine q_pX12_524 cx hB hmo kmo ⟨by decide, by decide⟩ (by decide) (by decide) rfl dX12_report_12 (fun H locs f154 ef154 z155 hB => ?_)
  have z156 : q_z f154 mo 2 = 0 := by rw [ef154, q_setz (Or.inr (by decide))]; exact z126
  have z157 : q_z f154 mo 8 = 0 := by rw [ef154, q_setz (Or.inr (by decide))]; exact z127
  have z158 : q_z f154 mo 9 = (-1) := by rw [ef154, q_setz (Or.inr (by decide))]; exact z128
  have z159 : q_z f154 mo 10 = 0 := by rw [ef154, q_setz (Or.inr (by decide))]; exact z129
  have z160 : q_z f154 mo 11 = (-1) := by rw [ef154, q_setz (Or.inr (by decide))]; exact z130
  have z161 : q_z f154 mo 21 = 0 := by rw [ef154, q_setz (Or.inr (by decide))]; exact z131
  have z162 : q_z f154 mo 22 = 0 := by rw [ef154, q_setz (Or.inr (by decide))]; exact z132
  have z163 : q_z f154 sr 0 = 0 := by rw [ef154, q_setz (Or.inr (by decide))]; exact z134
  have z164 : q_z f154 sr 1 = 0 := by rw [ef154, q_setz (Or.inr (by decide))]; exact z135
  have z165 : q_z f154 sr 2 = 12 := by rw [ef154, q_setz (Or.inr (by decide))]; exact z136
  have z166 : q_z f154 sr 3 = 0 := by rw [ef154, q_setz (Or.inr (by decide))]; exact z137
  have z167 : q_z f154 sr 4 = 0 := by rw [ef154, q_setz (Or.inr (by decide))]; exact z138
  have z168 : q_z f154 sr 5 = 1 := by rw [ef154, q_setz (Or.inr (by decide))]; exact z139
  have z169 : q_z f154 sr 6 = 2 := by rw [ef154, q_setz (Or.inr (by decide))]; exact z140
  have z170 : q_z f154 sr 7 = 5 := by rw [ef154, q_setz (Or.inr (by decide))]; exact z141
  have z171 : q_z f154 sr 8 = 3 := by rw [ef154, q_setz (Or.inr (by decide))]; exact z142
  have z172 : q_z f154 sr 9 = 0 := by rw [ef154, q_setz (Or.inr (by decide))]; exact z143
  have z173 : q_z f154 mo 0 = 0 := by rw [ef154, q_setz (Or.inr (by decide))]; exact z144
  have z174 : q_z f154 mo 39 = 0 := by rw [ef154, q_setz (Or.inr (by decide))]; exact z125
  have z175 : q_r f154 mo 1 = bu := by rw [ef154, q_setr (Or.inr (by decide))]; exact z145
  have z176 : q_r f154 mo 13 = sr := by rw [ef154, q_setr (Or.inr (by decide))]; exact z146
  have z177 : q_r f154 mo 14 = sd := by rw [ef154, q_setr (Or.inr (by decide))]; exact z147
  have z178 : q_r f154 mo 15 = as := by rw [ef154, q_setr (Or.inr (by decide))]; exact z148
  have z179 : q_r f154 mo 16 = aw := by rw [ef154, q_setr (Or.inr (by decide))]; exact z149
  have z180 : q_r f154 mo 17 = pa := by rw [ef154, q_setr (Or.inr (by decide))]; exact z150
  have z181 : q_r f154 mo 18 = nm := by rw [ef154, q_setr (Or.inr (by decide))]; exact z151
  have z182 : q_r f154 mo 19 = snm := by rw [ef154, q_setr (Or.inr (by decide))]; exact z152
  have z183 : q_r f154 mo 20 = anm := by rw [ef154, q_setr (Or.inr (by decide))]; exact z153
  refine q_iconst cx dX12_report_15 ?_
  refine lv_istore_n (lv' := [(1, .int (q_i 0)), (0, .ref mo)]) cx.1 cx.2.1 dX12_report_16 rfl hl (by decide) rfl (fun ls hl => ?_)
  refine q_ild_n cx dX12_report_17 rfl (lv_at hl 0 rfl) ?_
  refine q_ald_n cx dX12_report_18 rfl (lv_at hl 1 rfl) ?_
  refine q_gX12_20 cx hB hmo kmo z176 dX12_report_19 (fun hb184 kb184 => ?_)
  refine q_iconst cx dX12_report_22 ?_
  refine q_iald (lo := 0) (hi := 10) (n := 658) cx hB hsr ksr (by decide) rfl rfl (by decide) (by decide) (by decide) rfl z163 dX12_report_23 (fun lb186 ub186 => ?_)
  refine q_icge (tgt := 38) cx ⟨by decide, by decide⟩ ⟨by decide, by decide⟩ dX12_report_24 (by decide) (fun c187 => ?_) (fun c187 => ?_)
  · refine q_ald_n cx dX12_report_38 rfl (lv_at hl 1 rfl) ?_
    refine q_gX12_515 cx hB hmo kmo z174 dX12_report_39 (fun lb188 ub188 => ?_)
    refine q_iret cx hr hlk hB dX12_report_42 ⟨by decide, by decide⟩ ?_
    exact ⟨rfl, z173⟩
  · exact absurd c187 (by omega)
set_option maxHeartbeats 4000000 in
set_option maxRecDepth 100000 in
theorem p_undo (l : Launch) (g : q_G) {K : Nat → Nat} {L : List Nat} (hN : L.Nodup) {f : Nat → va_E} (hT : q_Ty g K L f) (mo : Nat) (hmo : mo ∈ L) (kmo : K mo = 12) (bu : Nat) (hbu : bu ∈ L) (kbu : K bu = 150) (sr : Nat) (hsr : sr ∈ L) (ksr : K sr = 151) (sd : Nat) (hsd : sd ∈ L) (ksd : K sd = 152) (as : Nat) (has : as ∈ L) (kas : K as = 153) (aw : Nat) (haw : aw ∈ L) (kaw : K aw = 154) (pa : Nat) (hpa : pa ∈ L) (kpa : K pa = 155) (nm : Nat) (hnm : nm ∈ L) (knm : K nm = 156) (snm : Nat) (hsnm : snm ∈ L) (ksnm : K snm = 157) (anm : Nat) (hanm : anm ∈ L) (kanm : K anm = 158) (hf0 : q_z f mo 2 = 0) (hf1 : q_z f mo 8 = 0) (hf2 : q_z f mo 9 = (-1)) (hf3 : q_z f mo 10 = 0) (hf4 : q_z f mo 11 = (-1)) (hf5 : q_z f mo 21 = 0) (hf6 : q_z f mo 22 = 0) (hf7 : q_z f mo 40 = 0) (hf8 : q_z f sr 0 = 0) (hf9 : q_z f sr 1 = 0) (hf10 : q_z f sr 2 = 12) (hf11 : q_z f sr 3 = 0) (hf12 : q_z f sr 4 = 0) (hf13 : q_z f sr 5 = 1) (hf14 : q_z f sr 6 = 2) (hf15 : q_z f sr 7 = 5) (hf16 : q_z f sr 8 = 3) (hf17 : q_z f sr 9 = 0) (hr0 : q_r f mo 1 = bu) (hr1 : q_r f mo 13 = sr) (hr2 : q_r f mo 14 = sd) (hr3 : q_r f mo 15 = as) (hr4 : q_r f mo 16 = aw) (hr5 : q_r f mo 17 = pa) (hr6 : q_r f mo 18 = nm) (hr7 : q_r f mo 19 = snm) (hr8 : q_r f mo 20 = anm) : q_Ct l g K L yX12_undo cX12_undo 1 (some .int) 0 0 [.ref mo] f [(12, 0, 40), (150, 0, 599), (151, 0, 657), (152, 0, 657), (153, 0, 657), (154, 0, 657), (155, 0, 3947), (156, 0, 9), (157, 0, 9), (158, 0, 9)] (q_Pi (fun (z : Int) (f1 : Nat → va_E) => z = (-1) ∧ q_z f1 mo 0 = 0)) := by
  refine q_ofb (by decide +kernel) hN hT (Nat.le_of_ble_eq_true rfl) ?_
  intro p e s m below meth c ls cx hr hlk hB hl
  have hl : lv_has ls 1 [(0, .ref mo)] := hl
  obtain ⟨H, hH⟩ : ∃ H : Heap, H = s.heap := ⟨_, rfl⟩
  obtain ⟨locs, hlocs⟩ : ∃ z : List Loc, z = [] := ⟨_, rfl⟩
  rw [← hH, ← hlocs] at hB
  rw [← hH, ← hlocs]
  refine q_ald_n cx dX12_undo_0 rfl (lv_at hl 0 rfl) ?_
  refine q_iconst cx dX12_undo_1 ?_
  refine q_pX12_75 cx hB hmo kmo ⟨by decide, by decide⟩ (by decide) (by decide) rfl dX12_undo_2 (fun H locs f32 ef32 z33 hB => ?_)
  have z34 : q_z f32 mo 2 = 0 := by rw [ef32, q_setz (Or.inr (by decide))]; exact hf0
  have z35 : q_z f32 mo 8 = 0 := by rw [ef32, q_setz (Or.inr (by decide))]; exact hf1
  have z36 : q_z f32 mo 9 = (-1) := by rw [ef32, q_setz (Or.inr (by decide))]; exact hf2
  have z37 : q_z f32 mo 10 = 0 := by rw [ef32, q_setz (Or.inr (by decide))]; exact hf3
  have z38 : q_z f32 mo 11 = (-1) := by rw [ef32, q_setz (Or.inr (by decide))]; exact hf4
  have z39 : q_z f32 mo 21 = 0 := by rw [ef32, q_setz (Or.inr (by decide))]; exact hf5
  have z40 : q_z f32 mo 22 = 0 := by rw [ef32, q_setz (Or.inr (by decide))]; exact hf6
  have z41 : q_z f32 mo 40 = 0 := by rw [ef32, q_setz (Or.inr (by decide))]; exact hf7
  have z42 : q_z f32 sr 0 = 0 := by rw [ef32, q_setz (Or.inl (fun q => by rw [q, kmo] at ksr; exact absurd ksr (by decide)))]; exact hf8
  have z43 : q_z f32 sr 1 = 0 := by rw [ef32, q_setz (Or.inr (by decide))]; exact hf9
  have z44 : q_z f32 sr 2 = 12 := by rw [ef32, q_setz (Or.inr (by decide))]; exact hf10
  have z45 : q_z f32 sr 3 = 0 := by rw [ef32, q_setz (Or.inr (by decide))]; exact hf11
  have z46 : q_z f32 sr 4 = 0 := by rw [ef32, q_setz (Or.inr (by decide))]; exact hf12
  have z47 : q_z f32 sr 5 = 1 := by rw [ef32, q_setz (Or.inr (by decide))]; exact hf13
  have z48 : q_z f32 sr 6 = 2 := by rw [ef32, q_setz (Or.inr (by decide))]; exact hf14
  have z49 : q_z f32 sr 7 = 5 := by rw [ef32, q_setz (Or.inr (by decide))]; exact hf15
  have z50 : q_z f32 sr 8 = 3 := by rw [ef32, q_setz (Or.inr (by decide))]; exact hf16
  have z51 : q_z f32 sr 9 = 0 := by rw [ef32, q_setz (Or.inr (by decide))]; exact hf17
  have z52 : q_r f32 mo 1 = bu := by rw [ef32, q_setr (Or.inr (by decide))]; exact hr0
  have z53 : q_r f32 mo 13 = sr := by rw [ef32, q_setr (Or.inr (by decide))]; exact hr1
  have z54 : q_r f32 mo 14 = sd := by rw [ef32, q_setr (Or.inr (by decide))]; exact hr2
  have z55 : q_r f32 mo 15 = as := by rw [ef32, q_setr (Or.inr (by decide))]; exact hr3
  have z56 : q_r f32 mo 16 = aw := by rw [ef32, q_setr (Or.inr (by decide))]; exact hr4
  have z57 : q_r f32 mo 17 = pa := by rw [ef32, q_setr (Or.inr (by decide))]; exact hr5
  have z58 : q_r f32 mo 18 = nm := by rw [ef32, q_setr (Or.inr (by decide))]; exact hr6
  have z59 : q_r f32 mo 19 = snm := by rw [ef32, q_setr (Or.inr (by decide))]; exact hr7
  have z60 : q_r f32 mo 20 = anm := by rw [ef32, q_setr (Or.inr (by decide))]; exact hr8
  refine q_ald_n cx dX12_undo_5 rfl (lv_at hl 0 rfl) ?_
  refine q_gX12_158 cx hB hmo kmo z39 dX12_undo_6 (fun lb61 ub61 => ?_)
  refine q_ifne (tgt := 14) cx ⟨by decide, by decide⟩ dX12_undo_9 (by decide) (fun c62 => ?_) (fun c62 => ?_)
  · exact absurd c62 (by omega)
  · refine q_iconst cx dX12_undo_12 ?_
    refine q_iret cx hr hlk hB dX12_undo_13 ⟨by decide, by decide⟩ ?_
    exact ⟨rfl, z33⟩
set_option maxHeartbeats 4000000 in
set_option maxRecDepth 100000 in
theorem p_save (l : Launch) (g : q_G) {K : Nat → Nat} {L : List Nat} (hN : L.Nodup) {f : Nat → va_E} (hT : q_Ty g K L f) (mo : Nat) (hmo : mo ∈ L) (kmo : K mo = 12) (bu : Nat) (hbu : bu ∈ L) (kbu : K bu = 150) (sr : Nat) (hsr : sr ∈ L) (ksr : K sr = 151) (sd : Nat) (hsd : sd ∈ L) (ksd : K sd = 152) (as : Nat) (has : as ∈ L) (kas : K as = 153) (aw : Nat) (haw : aw ∈ L) (kaw : K aw = 154) (pa : Nat) (hpa : pa ∈ L) (kpa : K pa = 155) (nm : Nat) (hnm : nm ∈ L) (knm : K nm = 156) (snm : Nat) (hsnm : snm ∈ L) (ksnm : K snm = 157) (anm : Nat) (hanm : anm ∈ L) (kanm : K anm = 158) (hf0 : q_z f mo 2 = 0) (hf1 : q_z f mo 8 = 0) (hf2 : q_z f mo 9 = (-1)) (hf3 : q_z f mo 10 = 0) (hf4 : q_z f mo 11 = (-1)) (hf5 : q_z f mo 21 = 0) (hf6 : q_z f mo 22 = 0) (hf7 : q_z f mo 40 = 0) (hf8 : q_z f sr 0 = 0) (hf9 : q_z f sr 1 = 0) (hf10 : q_z f sr 2 = 12) (hf11 : q_z f sr 3 = 0) (hf12 : q_z f sr 4 = 0) (hf13 : q_z f sr 5 = 1) (hf14 : q_z f sr 6 = 2) (hf15 : q_z f sr 7 = 5) (hf16 : q_z f sr 8 = 3) (hf17 : q_z f sr 9 = 0) (hr0 : q_r f mo 1 = bu) (hr1 : q_r f mo 13 = sr) (hr2 : q_r f mo 14 = sd) (hr3 : q_r f mo 15 = as) (hr4 : q_r f mo 16 = aw) (hr5 : q_r f mo 17 = pa) (hr6 : q_r f mo 18 = nm) (hr7 : q_r f mo 19 = snm) (hr8 : q_r f mo 20 = anm) : q_Ct l g K L yX12_save cX12_save 1 (some .int) 1 24 [.ref mo] f [(12, 0, 40), (150, 0, 599), (151, 0, 657), (152, 0, 657), (153, 0, 657), (154, 0, 657), (155, 0, 3947), (156, 0, 9), (157, 0, 9), (158, 0, 9)] (q_Pi (fun (z : Int) (f1 : Nat → va_E) => z = 0 ∧ q_z f1 mo 0 = 0)) := by
  refine q_ofb (by decide +kernel) hN hT (Nat.le_of_ble_eq_true rfl) ?_
  intro p e s m below meth c ls cx hr hlk hB hl
  have hl : lv_has ls 1 [(0, .ref mo)] := hl
  obtain ⟨H, hH⟩ : ∃ H : Heap, H = s.heap := ⟨_, rfl⟩
  obtain ⟨locs, hlocs⟩ : ∃ z : List Loc, z = [] := ⟨_, rfl⟩
  rw [← hH, ← hlocs] at hB
  rw [← hH, ← hlocs]
  refine q_ald_n cx dX12_save_0 rfl (lv_at hl 0 rfl) ?_
  refine q_iconst cx dX12_save_1 ?_
  refine q_pX12_75 cx hB hmo kmo ⟨by decide, by decide⟩ (by decide) (by decide) rfl dX12_save_2 (fun H locs f128 ef128 z129 hB => ?_)
  have z130 : q_z f128 mo 2 = 0 := by rw [ef128, q_setz (Or.inr (by decide))]; exact hf0
  have z131 : q_z f128 mo 8 = 0 := by rw [ef128, q_setz (Or.inr (by decide))]; exact hf1
  have z132 : q_z f128 mo 9 = (-1) := by rw [ef128, q_setz (Or.inr (by decide))]; exact hf2
  have z133 : q_z f128 mo 10 = 0 := by rw [ef128, q_setz (Or.inr (by decide))]; exact hf3
  have z134 : q_z f128 mo 11 = (-1) := by rw [ef128, q_setz (Or.inr (by decide))]; exact hf4
  have z135 : q_z f128 mo 21 = 0 := by rw [ef128, q_setz (Or.inr (by decide))]; exact hf5
  have z136 : q_z f128 mo 22 = 0 := by rw [ef128, q_setz (Or.inr (by decide))]; exact hf6
  have z137 : q_z f128 mo 40 = 0 := by rw [ef128, q_setz (Or.inr (by decide))]; exact hf7
  have z138 : q_z f128 sr 0 = 0 := by rw [ef128, q_setz (Or.inl (fun q => by rw [q, kmo] at ksr; exact absurd ksr (by decide)))]; exact hf8
  have z139 : q_z f128 sr 1 = 0 := by rw [ef128, q_setz (Or.inr (by decide))]; exact hf9
  have z140 : q_z f128 sr 2 = 12 := by rw [ef128, q_setz (Or.inr (by decide))]; exact hf10
  have z141 : q_z f128 sr 3 = 0 := by rw [ef128, q_setz (Or.inr (by decide))]; exact hf11
  have z142 : q_z f128 sr 4 = 0 := by rw [ef128, q_setz (Or.inr (by decide))]; exact hf12
  have z143 : q_z f128 sr 5 = 1 := by rw [ef128, q_setz (Or.inr (by decide))]; exact hf13
  have z144 : q_z f128 sr 6 = 2 := by rw [ef128, q_setz (Or.inr (by decide))]; exact hf14
  have z145 : q_z f128 sr 7 = 5 := by rw [ef128, q_setz (Or.inr (by decide))]; exact hf15
  have z146 : q_z f128 sr 8 = 3 := by rw [ef128, q_setz (Or.inr (by decide))]; exact hf16
  have z147 : q_z f128 sr 9 = 0 := by rw [ef128, q_setz (Or.inr (by decide))]; exact hf17
  have z148 : q_r f128 mo 1 = bu := by rw [ef128, q_setr (Or.inr (by decide))]; exact hr0
  have z149 : q_r f128 mo 13 = sr := by rw [ef128, q_setr (Or.inr (by decide))]; exact hr1
  have z150 : q_r f128 mo 14 = sd := by rw [ef128, q_setr (Or.inr (by decide))]; exact hr2
  have z151 : q_r f128 mo 15 = as := by rw [ef128, q_setr (Or.inr (by decide))]; exact hr3
  have z152 : q_r f128 mo 16 = aw := by rw [ef128, q_setr (Or.inr (by decide))]; exact hr4
  have z153 : q_r f128 mo 17 = pa := by rw [ef128, q_setr (Or.inr (by decide))]; exact hr5
  have z154 : q_r f128 mo 18 = nm := by rw [ef128, q_setr (Or.inr (by decide))]; exact hr6
  have z155 : q_r f128 mo 19 = snm := by rw [ef128, q_setr (Or.inr (by decide))]; exact hr7
  have z156 : q_r f128 mo 20 = anm := by rw [ef128, q_setr (Or.inr (by decide))]; exact hr8
  refine q_ald_n cx dX12_save_5 rfl (lv_at hl 0 rfl) ?_
  refine q_gX12_20 cx hB hmo kmo z149 dX12_save_6 (fun hb157 kb157 => ?_)
  refine q_iconst cx dX12_save_9 ?_
  refine q_ald_n cx dX12_save_10 rfl (lv_at hl 0 rfl) ?_
  refine q_gX12_23 cx hB hmo kmo z150 dX12_save_11 (fun hb158 kb158 => ?_)
  refine q_iconst cx dX12_save_14 ?_
  refine q_cSv (As := [.ref sr, .int (q_i 0), .ref sd, .int (q_i 0)]) (rest := []) cx hB (fun _ h => h) hN (r_copiesRow_sr_sd l g hN hB.2.1 sr hsr ksr 0 (by decide) (by decide) sd hsd ksd 0 (by decide) (by decide)) q_cX12_154 q_dX12_copiesRow (by decide) rfl rfl hl.1 rfl (Nat.le_of_ble_eq_true rfl) dX12_save_15 (fun H locs f159 h161 hF hB => ?_)
  have z162 : q_z f159 mo 2 = 0 := (hF.z hmo (by rw [kmo]; rfl)).trans z130
  have z163 : q_z f159 mo 8 = 0 := (hF.z hmo (by rw [kmo]; rfl)).trans z131
  have z164 : q_z f159 mo 9 = (-1) := (hF.z hmo (by rw [kmo]; rfl)).trans z132
  have z165 : q_z f159 mo 10 = 0 := (hF.z hmo (by rw [kmo]; rfl)).trans z133
  have z166 : q_z f159 mo 11 = (-1) := (hF.z hmo (by rw [kmo]; rfl)).trans z134
  have z167 : q_z f159 mo 21 = 0 := (hF.z hmo (by rw [kmo]; rfl)).trans z135
  have z168 : q_z f159 mo 22 = 0 := (hF.z hmo (by rw [kmo]; rfl)).trans z136
  have z169 : q_z f159 mo 40 = 0 := (hF.z hmo (by rw [kmo]; rfl)).trans z137
  have z170 : q_z f159 sr 0 = 0 := (hF.z hsr (by rw [ksr]; rfl)).trans z138
  have z171 : q_z f159 sr 1 = 0 := (hF.z hsr (by rw [ksr]; rfl)).trans z139
  have z172 : q_z f159 sr 2 = 12 := (hF.z hsr (by rw [ksr]; rfl)).trans z140
  have z173 : q_z f159 sr 3 = 0 := (hF.z hsr (by rw [ksr]; rfl)).trans z141
  have z174 : q_z f159 sr 4 = 0 := (hF.z hsr (by rw [ksr]; rfl)).trans z142
  have z175 : q_z f159 sr 5 = 1 := (hF.z hsr (by rw [ksr]; rfl)).trans z143
  have z176 : q_z f159 sr 6 = 2 := (hF.z hsr (by rw [ksr]; rfl)).trans z144
  have z177 : q_z f159 sr 7 = 5 := (hF.z hsr (by rw [ksr]; rfl)).trans z145
  have z178 : q_z f159 sr 8 = 3 := (hF.z hsr (by rw [ksr]; rfl)).trans z146
  have z179 : q_z f159 sr 9 = 0 := (hF.z hsr (by rw [ksr]; rfl)).trans z147
  have z180 : q_z f159 mo 0 = 0 := (hF.z hmo (by rw [kmo]; rfl)).trans z129
  have z181 : q_r f159 mo 1 = bu := (hF.r hmo (by rw [kmo]; rfl)).trans z148
  have z182 : q_r f159 mo 13 = sr := (hF.r hmo (by rw [kmo]; rfl)).trans z149
  have z183 : q_r f159 mo 14 = sd := (hF.r hmo (by rw [kmo]; rfl)).trans z150
  have z184 : q_r f159 mo 15 = as := (hF.r hmo (by rw [kmo]; rfl)).trans z151
  have z185 : q_r f159 mo 16 = aw := (hF.r hmo (by rw [kmo]; rfl)).trans z152
  have z186 : q_r f159 mo 17 = pa := (hF.r hmo (by rw [kmo]; rfl)).trans z153
  have z187 : q_r f159 mo 18 = nm := (hF.r hmo (by rw [kmo]; rfl)).trans z154
  have z188 : q_r f159 mo 19 = snm := (hF.r hmo (by rw [kmo]; rfl)).trans z155
  have z189 : q_r f159 mo 20 = anm := (hF.r hmo (by rw [kmo]; rfl)).trans z156
  refine q_ald_n cx dX12_save_18 rfl (lv_at hl 0 rfl) ?_
  refine q_gX12_35 cx hB hmo kmo z187 dX12_save_19 (fun hb190 kb190 => ?_)
  refine q_ald_n cx dX12_save_22 rfl (lv_at hl 0 rfl) ?_
  refine q_gX12_39 cx hB hmo kmo z188 dX12_save_23 (fun hb191 kb191 => ?_)
  refine q_cSv (As := [.ref nm, .ref snm]) (rest := []) cx hB (fun _ h => h) hN (r_copiesNames_157 l g hN hB.2.1 nm hnm knm snm hsnm ksnm) q_cX12_164 q_dX12_copiesNames (by decide) rfl rfl hl.1 rfl (Nat.le_of_ble_eq_true rfl) dX12_save_26 (fun H locs f192 h194 hF hB => ?_)
  have z195 : q_z f192 mo 2 = 0 := (hF.z hmo (by rw [kmo]; rfl)).trans z162
  have z196 : q_z f192 mo 8 = 0 := (hF.z hmo (by rw [kmo]; rfl)).trans z163
  have z197 : q_z f192 mo 9 = (-1) := (hF.z hmo (by rw [kmo]; rfl)).trans z164
  have z198 : q_z f192 mo 10 = 0 := (hF.z hmo (by rw [kmo]; rfl)).trans z165
  have z199 : q_z f192 mo 11 = (-1) := (hF.z hmo (by rw [kmo]; rfl)).trans z166
  have z200 : q_z f192 mo 21 = 0 := (hF.z hmo (by rw [kmo]; rfl)).trans z167
  have z201 : q_z f192 mo 22 = 0 := (hF.z hmo (by rw [kmo]; rfl)).trans z168
  have z202 : q_z f192 mo 40 = 0 := (hF.z hmo (by rw [kmo]; rfl)).trans z169
  have z203 : q_z f192 sr 0 = 0 := (hF.z hsr (by rw [ksr]; rfl)).trans z170
  have z204 : q_z f192 sr 1 = 0 := (hF.z hsr (by rw [ksr]; rfl)).trans z171
  have z205 : q_z f192 sr 2 = 12 := (hF.z hsr (by rw [ksr]; rfl)).trans z172
  have z206 : q_z f192 sr 3 = 0 := (hF.z hsr (by rw [ksr]; rfl)).trans z173
  have z207 : q_z f192 sr 4 = 0 := (hF.z hsr (by rw [ksr]; rfl)).trans z174
  have z208 : q_z f192 sr 5 = 1 := (hF.z hsr (by rw [ksr]; rfl)).trans z175
  have z209 : q_z f192 sr 6 = 2 := (hF.z hsr (by rw [ksr]; rfl)).trans z176
  have z210 : q_z f192 sr 7 = 5 := (hF.z hsr (by rw [ksr]; rfl)).trans z177
  have z211 : q_z f192 sr 8 = 3 := (hF.z hsr (by rw [ksr]; rfl)).trans z178
  have z212 : q_z f192 sr 9 = 0 := (hF.z hsr (by rw [ksr]; rfl)).trans z179
  have z213 : q_z f192 mo 0 = 0 := (hF.z hmo (by rw [kmo]; rfl)).trans z180
  have z214 : q_r f192 mo 1 = bu := (hF.r hmo (by rw [kmo]; rfl)).trans z181
  have z215 : q_r f192 mo 13 = sr := (hF.r hmo (by rw [kmo]; rfl)).trans z182
  have z216 : q_r f192 mo 14 = sd := (hF.r hmo (by rw [kmo]; rfl)).trans z183
  have z217 : q_r f192 mo 15 = as := (hF.r hmo (by rw [kmo]; rfl)).trans z184
  have z218 : q_r f192 mo 16 = aw := (hF.r hmo (by rw [kmo]; rfl)).trans z185
  have z219 : q_r f192 mo 17 = pa := (hF.r hmo (by rw [kmo]; rfl)).trans z186
  have z220 : q_r f192 mo 18 = nm := (hF.r hmo (by rw [kmo]; rfl)).trans z187
  have z221 : q_r f192 mo 19 = snm := (hF.r hmo (by rw [kmo]; rfl)).trans z188
  have z222 : q_r f192 mo 20 = anm := (hF.r hmo (by rw [kmo]; rfl)).trans z189
  refine q_ald_n cx dX12_save_29 rfl (lv_at hl 0 rfl) ?_
  refine q_iconst cx dX12_save_30 ?_
  refine q_pX12_168 cx hB hmo kmo ⟨by decide, by decide⟩ (by decide) (by decide) rfl dX12_save_31 (fun H locs f223 ef223 z224 hB => ?_)
  have z225 : q_z f223 mo 2 = 0 := by rw [ef223, q_setz (Or.inr (by decide))]; exact z195
  have z226 : q_z f223 mo 8 = 0 := by rw [ef223, q_setz (Or.inr (by decide))]; exact z196
  have z227 : q_z f223 mo 9 = (-1) := by rw [ef223, q_setz (Or.inr (by decide))]; exact z197
  have z228 : q_z f223 mo 10 = 0 := by rw [ef223, q_setz (Or.inr (by decide))]; exact z198
  have z229 : q_z f223 mo 11 = (-1) := by rw [ef223, q_setz (Or.inr (by decide))]; exact z199
  have z230 : q_z f223 mo 21 = 0 := by rw [ef223, q_setz (Or.inr (by decide))]; exact z200
  have z231 : q_z f223 mo 40 = 0 := by rw [ef223, q_setz (Or.inr (by decide))]; exact z202
  have z232 : q_z f223 sr 0 = 0 := by rw [ef223, q_setz (Or.inr (by decide))]; exact z203
  have z233 : q_z f223 sr 1 = 0 := by rw [ef223, q_setz (Or.inr (by decide))]; exact z204
  have z234 : q_z f223 sr 2 = 12 := by rw [ef223, q_setz (Or.inr (by decide))]; exact z205
  have z235 : q_z f223 sr 3 = 0 := by rw [ef223, q_setz (Or.inr (by decide))]; exact z206
  have z236 : q_z f223 sr 4 = 0 := by rw [ef223, q_setz (Or.inr (by decide))]; exact z207
  have z237 : q_z f223 sr 5 = 1 := by rw [ef223, q_setz (Or.inr (by decide))]; exact z208
  have z238 : q_z f223 sr 6 = 2 := by rw [ef223, q_setz (Or.inr (by decide))]; exact z209
  have z239 : q_z f223 sr 7 = 5 := by rw [ef223, q_setz (Or.inr (by decide))]; exact z210
  have z240 : q_z f223 sr 8 = 3 := by rw [ef223, q_setz (Or.inr (by decide))]; exact z211
  have z241 : q_z f223 sr 9 = 0 := by rw [ef223, q_setz (Or.inr (by decide))]; exact z212
  have z242 : q_z f223 mo 0 = 0 := by rw [ef223, q_setz (Or.inr (by decide))]; exact z213
  have z243 : q_r f223 mo 1 = bu := by rw [ef223, q_setr (Or.inr (by decide))]; exact z214
  have z244 : q_r f223 mo 13 = sr := by rw [ef223, q_setr (Or.inr (by decide))]; exact z215
  have z245 : q_r f223 mo 14 = sd := by rw [ef223, q_setr (Or.inr (by decide))]; exact z216
  have z246 : q_r f223 mo 15 = as := by rw [ef223, q_setr (Or.inr (by decide))]; exact z217
  have z247 : q_r f223 mo 16 = aw := by rw [ef223, q_setr (Or.inr (by decide))]; exact z218
  have z248 : q_r f223 mo 17 = pa := by rw [ef223, q_setr (Or.inr (by decide))]; exact z219
  have z249 : q_r f223 mo 18 = nm := by rw [ef223, q_setr (Or.inr (by decide))]; exact z220
  have z250 : q_r f223 mo 19 = snm := by rw [ef223, q_setr (Or.inr (by decide))]; exact z221
  have z251 : q_r f223 mo 20 = anm := by rw [ef223, q_setr (Or.inr (by decide))]; exact z222
  refine q_ald_n cx dX12_save_34 rfl (lv_at hl 0 rfl) ?_
  refine q_gX12_20 cx hB hmo kmo z244 dX12_save_35 (fun hb252 kb252 => ?_)
  refine q_iconst cx dX12_save_38 ?_
  refine q_iald (lo := 0) (hi := 20000) (n := 658) cx hB hsr ksr (by decide) rfl rfl (by decide) (by decide) (by decide) rfl z235 dX12_save_39 (fun lb254 ub254 => ?_)
  refine q_iret cx hr hlk hB dX12_save_40 ⟨by decide, by decide⟩ ?_
  exact ⟨rfl, z242⟩
set_option maxHeartbeats 4000000 in
set_option maxRecDepth 100000 in
theorem p_restore (l : Launch) (g : q_G) {K : Nat → Nat} {L : List Nat} (hN : L.Nodup) {f : Nat → va_E} (hT : q_Ty g K L f) (mo : Nat) (hmo : mo ∈ L) (kmo : K mo = 12) (bu : Nat) (hbu : bu ∈ L) (kbu : K bu = 150) (sr : Nat) (hsr : sr ∈ L) (ksr : K sr = 151) (sd : Nat) (hsd : sd ∈ L) (ksd : K sd = 152) (as : Nat) (has : as ∈ L) (kas : K as = 153) (aw : Nat) (haw : aw ∈ L) (kaw : K aw = 154) (pa : Nat) (hpa : pa ∈ L) (kpa : K pa = 155) (nm : Nat) (hnm : nm ∈ L) (knm : K nm = 156) (snm : Nat) (hsnm : snm ∈ L) (ksnm : K snm = 157) (anm : Nat) (hanm : anm ∈ L) (kanm : K anm = 158) (hf0 : q_z f mo 2 = 0) (hf1 : q_z f mo 8 = 0) (hf2 : q_z f mo 9 = (-1)) (hf3 : q_z f mo 10 = 0) (hf4 : q_z f mo 11 = (-1)) (hf5 : q_z f mo 21 = 0) (hf6 : q_z f mo 22 = 0) (hf7 : q_z f mo 40 = 0) (hf8 : q_z f sr 0 = 0) (hf9 : q_z f sr 1 = 0) (hf10 : q_z f sr 2 = 12) (hf11 : q_z f sr 3 = 0) (hf12 : q_z f sr 4 = 0) (hf13 : q_z f sr 5 = 1) (hf14 : q_z f sr 6 = 2) (hf15 : q_z f sr 7 = 5) (hf16 : q_z f sr 8 = 3) (hf17 : q_z f sr 9 = 0) (hr0 : q_r f mo 1 = bu) (hr1 : q_r f mo 13 = sr) (hr2 : q_r f mo 14 = sd) (hr3 : q_r f mo 15 = as) (hr4 : q_r f mo 16 = aw) (hr5 : q_r f mo 17 = pa) (hr6 : q_r f mo 18 = nm) (hr7 : q_r f mo 19 = snm) (hr8 : q_r f mo 20 = anm) : q_Ct l g K L yX12_restore cX12_restore 1 (some .int) 2 41 [.ref mo] f [(12, 0, 40), (150, 0, 599), (151, 0, 657), (152, 0, 657), (153, 0, 657), (154, 0, 657), (155, 0, 3947), (156, 0, 9), (157, 0, 9), (158, 0, 9)] (q_Pi (fun (z : Int) (f1 : Nat → va_E) => z = 0 ∧ q_z f1 mo 0 = 1)) := by
  refine q_ofb (by decide +kernel) hN hT (Nat.le_of_ble_eq_true rfl) ?_
  intro p e s m below meth c ls cx hr hlk hB hl
  have hl : lv_has ls 1 [(0, .ref mo)] := hl
  obtain ⟨H, hH⟩ : ∃ H : Heap, H = s.heap := ⟨_, rfl⟩
  obtain ⟨locs, hlocs⟩ : ∃ z : List Loc, z = [] := ⟨_, rfl⟩
  rw [← hH, ← hlocs] at hB
  rw [← hH, ← hlocs]
  refine q_ald_n cx dX12_restore_0 rfl (lv_at hl 0 rfl) ?_
  refine q_ald_n cx dX12_restore_1 rfl (lv_at hl 0 rfl) ?_
  refine q_gX12_168 cx hB hmo kmo hf6 dX12_restore_2 (fun lb34 ub34 => ?_)
  refine q_cVi (As := [.int (q_i 0)]) (rest := []) cx hB (fun _ h => h) hN hmo kmo (by decide) rfl (r_goes0 l g hN hB.2.1 mo hmo kmo 0 (by decide) (by decide)) q_cX12_85 q_dX12_goes (by decide) rfl rfl hl.1 rfl (Nat.le_of_ble_eq_true rfl) dX12_restore_5 (fun y36 H locs f35 ry36 h37 hF hB => ?_)
  obtain ⟨qy36, z38⟩ := h37
  have z39 : q_z f35 mo 2 = 0 := (hF.z hmo (by rw [kmo]; rfl)).trans hf0
  have z40 : q_z f35 mo 8 = 0 := (hF.z hmo (by rw [kmo]; rfl)).trans hf1
  have z41 : q_z f35 mo 9 = (-1) := (hF.z hmo (by rw [kmo]; rfl)).trans hf2
  have z42 : q_z f35 mo 10 = 0 := (hF.z hmo (by rw [kmo]; rfl)).trans hf3
  have z43 : q_z f35 mo 11 = (-1) := (hF.z hmo (by rw [kmo]; rfl)).trans hf4
  have z44 : q_z f35 mo 21 = 0 := (hF.z hmo (by rw [kmo]; rfl)).trans hf5
  have z45 : q_z f35 mo 22 = 0 := (hF.z hmo (by rw [kmo]; rfl)).trans hf6
  have z46 : q_z f35 mo 40 = 0 := (hF.z hmo (by rw [kmo]; rfl)).trans hf7
  have z47 : q_z f35 sr 0 = 0 := (hF.z hsr (by rw [ksr]; rfl)).trans hf8
  have z48 : q_z f35 sr 1 = 0 := (hF.z hsr (by rw [ksr]; rfl)).trans hf9
  have z49 : q_z f35 sr 2 = 12 := (hF.z hsr (by rw [ksr]; rfl)).trans hf10
  have z50 : q_z f35 sr 3 = 0 := (hF.z hsr (by rw [ksr]; rfl)).trans hf11
  have z51 : q_z f35 sr 4 = 0 := (hF.z hsr (by rw [ksr]; rfl)).trans hf12
  have z52 : q_z f35 sr 5 = 1 := (hF.z hsr (by rw [ksr]; rfl)).trans hf13
  have z53 : q_z f35 sr 6 = 2 := (hF.z hsr (by rw [ksr]; rfl)).trans hf14
  have z54 : q_z f35 sr 7 = 5 := (hF.z hsr (by rw [ksr]; rfl)).trans hf15
  have z55 : q_z f35 sr 8 = 3 := (hF.z hsr (by rw [ksr]; rfl)).trans hf16
  have z56 : q_z f35 sr 9 = 0 := (hF.z hsr (by rw [ksr]; rfl)).trans hf17
  have z57 : q_r f35 mo 1 = bu := (hF.r hmo (by rw [kmo]; rfl)).trans hr0
  have z58 : q_r f35 mo 13 = sr := (hF.r hmo (by rw [kmo]; rfl)).trans hr1
  have z59 : q_r f35 mo 14 = sd := (hF.r hmo (by rw [kmo]; rfl)).trans hr2
  have z60 : q_r f35 mo 15 = as := (hF.r hmo (by rw [kmo]; rfl)).trans hr3
  have z61 : q_r f35 mo 16 = aw := (hF.r hmo (by rw [kmo]; rfl)).trans hr4
  have z62 : q_r f35 mo 17 = pa := (hF.r hmo (by rw [kmo]; rfl)).trans hr5
  have z63 : q_r f35 mo 18 = nm := (hF.r hmo (by rw [kmo]; rfl)).trans hr6
  have z64 : q_r f35 mo 19 = snm := (hF.r hmo (by rw [kmo]; rfl)).trans hr7
  have z65 : q_r f35 mo 20 = anm := (hF.r hmo (by rw [kmo]; rfl)).trans hr8
  subst qy36
  refine q_ifne (tgt := 13) cx ⟨by decide, by decide⟩ dX12_restore_8 (by decide) (fun c66 => ?_) (fun c66 => ?_)
  · exact absurd c66 (by omega)
  · refine q_iconst cx dX12_restore_11 ?_
    refine q_iret cx hr hlk hB dX12_restore_12 ⟨by decide, by decide⟩ ?_
    exact ⟨rfl, z38⟩
