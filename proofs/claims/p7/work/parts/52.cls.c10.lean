set_option maxHeartbeats 4000000 in
set_option maxRecDepth 100000 in
theorem g_X10_tryToPass (l : Launch) (g : q_G) {K : Nat → Nat} {L : List Nat} (hN : L.Nodup) {f : Nat → va_E} (hT : q_Ty g K L f) (v : Nat) (hv : v ∈ L) (kv : K v = 10) (p0 : Nat) (hp0 : p0 ∈ L) (kp0 : K p0 = 4) : q_Ct l g K L yX10_tryToPass cX10_tryToPass 8 none 2 50 [.ref v, .ref p0] f [(4, 2, 3), (4, 5, 6), (5, 4, 4), (5, 7, 8), (10, 14, 15)] (q_Pv (fun (f1 : Nat → va_E) => True)) := by
  refine q_ofb (by decide +kernel) hN hT (Nat.le_of_ble_eq_true rfl) ?_
  intro p e s m below meth c ls cx hr hlk hB hl
  have hl : lv_has ls 8 [(0, .ref v), (1, .ref p0)] := hl
  have J37 : ∀  (H : Heap) (locs : List Loc) (hB : q_B g K L (fun q => q ∈ L) [(4, 2, 3), (4, 5, 6), (5, 4, 4), (5, 7, 8), (10, 14, 15)] f f s H locs) (ls : Array Slot) (hl : lv_has ls 8 []), W p l e { frames := 2, cells := 0, slots := 0, locals := 50 } s m ([.ref v, .ref p0] : List Value).toArray below meth c H locs 0 0 (MQ below (q_Q g K L [(4, 2, 3), (4, 5, 6), (5, 4, 4), (5, 7, 8), (10, 14, 15)] f (q_Pv (fun (f1 : Nat → va_E) => True))) ([.ref v, .ref p0] : List Value).toArray s 0 0 (fun q => q ∈ L)) (F0 m 37 ls []) := by
    intro  H locs hB ls hl
    refine q_vret cx hr hlk hB dX10_tryToPass_37 ?_
    trivial
  have J71 : ∀  (H : Heap) (locs : List Loc) (hB : q_B g K L (fun q => q ∈ L) [(4, 2, 3), (4, 5, 6), (5, 4, 4), (5, 7, 8), (10, 14, 15)] f f s H locs) (ls : Array Slot) (hl : lv_has ls 8 []), W p l e { frames := 2, cells := 0, slots := 0, locals := 50 } s m ([.ref v, .ref p0] : List Value).toArray below meth c H locs 0 0 (MQ below (q_Q g K L [(4, 2, 3), (4, 5, 6), (5, 4, 4), (5, 7, 8), (10, 14, 15)] f (q_Pv (fun (f1 : Nat → va_E) => True))) ([.ref v, .ref p0] : List Value).toArray s 0 0 (fun q => q ∈ L)) (F0 m 71 ls []) := by
    intro  H locs hB ls hl
    refine q_vret cx hr hlk hB dX10_tryToPass_71 ?_
    trivial
  have J166 : ∀  (H : Heap) (locs : List Loc) (hB : q_B g K L (fun q => q ∈ L) [(4, 2, 3), (4, 5, 6), (5, 4, 4), (5, 7, 8), (10, 14, 15)] f f s H locs) (ls : Array Slot) (hl : lv_has ls 8 []), W p l e { frames := 2, cells := 0, slots := 0, locals := 50 } s m ([.ref v, .ref p0] : List Value).toArray below meth c H locs 0 0 (MQ below (q_Q g K L [(4, 2, 3), (4, 5, 6), (5, 4, 4), (5, 7, 8), (10, 14, 15)] f (q_Pv (fun (f1 : Nat → va_E) => True))) ([.ref v, .ref p0] : List Value).toArray s 0 0 (fun q => q ∈ L)) (F0 m 166 ls []) := by
    intro  H locs hB ls hl
    refine q_vret cx hr hlk hB dX10_tryToPass_166 ?_
    trivial
  have J146 : ∀ (v146_3 : Int) (lv146_3 : 0 ≤ v146_3) (uv146_3 : v146_3 ≤ 9) (v146_5 : Int) (lv146_5 : (-2147483648) ≤ v146_5) (uv146_5 : v146_5 ≤ 2147483647) (v146_6 : Nat) (hv146_6 : v146_6 ∈ L) (kv146_6 : K v146_6 = 5) (v146_7 : Nat) (hv146_7 : v146_7 ∈ L) (kv146_7 : K v146_7 = 5) (H : Heap) (locs : List Loc) (hB : q_B g K L (fun q => q ∈ L) [(4, 2, 3), (4, 5, 6), (5, 4, 4), (5, 7, 8), (10, 14, 15)] f f s H locs) (ls : Array Slot) (hl : lv_has ls 8 [(0, .ref v), (1, .ref p0), (3, .int (q_i v146_3)), (5, .int (q_i v146_5)), (6, .ref v146_6), (7, .ref v146_7)]), W p l e { frames := 2, cells := 0, slots := 0, locals := 50 } s m ([.ref v, .ref p0] : List Value).toArray below meth c H locs 0 0 (MQ below (q_Q g K L [(4, 2, 3), (4, 5, 6), (5, 4, 4), (5, 7, 8), (10, 14, 15)] f (q_Pv (fun (f1 : Nat → va_E) => True))) ([.ref v, .ref p0] : List Value).toArray s 0 0 (fun q => q ∈ L)) (F0 m 146 ls []) := by
    intro v146_3 lv146_3 uv146_3 v146_5 lv146_5 uv146_5 v146_6 hv146_6 kv146_6 v146_7 hv146_7 kv146_7 H locs hB ls hl
    refine lv_aload cx.1 cx.2.1 dX10_tryToPass_146 (lv_at hl 4 rfl) ?_
    obtain ⟨x105, ex105⟩ : ∃ zz, q_is (q_z f v146_6 4) zz := ⟨_, q_isr _⟩
    refine q_gX10_101 cx hB hv146_6 kv146_6 ex105 dX10_tryToPass_148 (fun lb106 ub106 => ?_)
    refine lv_iload cx.1 cx.2.1 dX10_tryToPass_151 (lv_at hl 3 rfl) ?_
    refine q_iclt (tgt := 166) cx ⟨by omega, by omega⟩ ⟨by omega, by omega⟩ dX10_tryToPass_153 (by decide) (fun c107 => ?_) (fun c107 => ?_)
    · exact J166  H locs hB ls (lv_sub hl [] rfl)
    · refine lv_aload cx.1 cx.2.1 dX10_tryToPass_156 (lv_at hl 5 rfl) ?_
      obtain ⟨x108, ex108⟩ : ∃ zz, q_is (q_z f v146_7 4) zz := ⟨_, q_isr _⟩
      refine q_gX10_101 cx hB hv146_7 kv146_7 ex108 dX10_tryToPass_158 (fun lb109 ub109 => ?_)
      refine lv_iload cx.1 cx.2.1 dX10_tryToPass_161 (lv_at hl 3 rfl) ?_
      refine q_icge (tgt := 167) cx ⟨by omega, by omega⟩ ⟨by omega, by omega⟩ dX10_tryToPass_163 (by decide) (fun c110 => ?_) (fun c110 => ?_)
      · refine lv_aload cx.1 cx.2.1 dX10_tryToPass_167 (lv_at hl 4 rfl) ?_
        refine lv_dup cx.1 cx.2.1 dX10_tryToPass_169 rfl ?_
        refine q_gX10_101 cx hB hv146_6 kv146_6 ex105 dX10_tryToPass_170 (fun lb111 ub111 => ?_)
        refine lv_iload cx.1 cx.2.1 dX10_tryToPass_173 (lv_at hl 3 rfl) ?_
        refine q_isub cx dX10_tryToPass_175 ?_
        refine q_any (fun y112 ry112 ey112 => ?_)
        refine q_pX10_101 cx hB hv146_6 kv146_6 ⟨by omega, by omega⟩ (by omega) (by omega) rfl dX10_tryToPass_176 (fun H locs f113 ef113 z114 hB => ?_)
        refine lv_aload cx.1 cx.2.1 dX10_tryToPass_179 (lv_at hl 4 rfl) ?_
        refine lv_dup cx.1 cx.2.1 dX10_tryToPass_181 rfl ?_
        obtain ⟨x115, ex115⟩ : ∃ zz, q_is (q_z f113 v146_6 7) zz := ⟨_, q_isr _⟩
        refine q_gX10_110 cx hB hv146_6 kv146_6 ex115 dX10_tryToPass_182 (fun lb116 ub116 => ?_)
        refine q_iconst cx dX10_tryToPass_185 ?_
        refine q_iadd cx dX10_tryToPass_186 ?_
        refine q_any (fun y117 ry117 ey117 => ?_)
        refine q_pX10_110 cx hB hv146_6 kv146_6 ⟨by omega, by omega⟩ (by omega) (by omega) rfl dX10_tryToPass_187 (fun H locs f118 ef118 z119 hB => ?_)
        refine q_ald_n cx dX10_tryToPass_190 rfl (lv_at hl 0 rfl) ?_
        refine lv_dup cx.1 cx.2.1 dX10_tryToPass_191 rfl ?_
        obtain ⟨x120, ex120⟩ : ∃ zz, q_is (q_z f118 v 14) zz := ⟨_, q_isr _⟩
        refine q_gX10_249 cx hB hv kv ex120 dX10_tryToPass_192 (fun lb121 ub121 => ?_)
        refine q_iconst cx dX10_tryToPass_195 ?_
        refine q_ald_n cx dX10_tryToPass_196 rfl (lv_at hl 1 rfl) ?_
        obtain ⟨x122, ex122⟩ : ∃ zz, q_is (q_z f118 p0 2) zz := ⟨_, q_isr _⟩
        refine q_gX10_137 cx hB hp0 kp0 ex122 dX10_tryToPass_197 (fun lb123 ub123 => ?_)
        refine q_ishl cx dX10_tryToPass_200 (fun y124 ry124 ey124 => ?_)
        refine q_ior cx dX10_tryToPass_201 (fun y125 ry125 ey125 => ?_)
        refine q_pX10_249 cx hB hv kv ⟨by omega, by omega⟩ (by omega) (by omega) rfl dX10_tryToPass_202 (fun H locs f126 ef126 z127 hB => ?_)
        refine lv_aload cx.1 cx.2.1 dX10_tryToPass_205 (lv_at hl 5 rfl) ?_
        refine lv_dup cx.1 cx.2.1 dX10_tryToPass_207 rfl ?_
        obtain ⟨x128, ex128⟩ : ∃ zz, q_is (q_z f126 v146_7 4) zz := ⟨_, q_isr _⟩
        refine q_gX10_101 cx hB hv146_7 kv146_7 ex128 dX10_tryToPass_208 (fun lb129 ub129 => ?_)
        refine lv_iload cx.1 cx.2.1 dX10_tryToPass_211 (lv_at hl 3 rfl) ?_
        refine q_isub cx dX10_tryToPass_213 ?_
        refine q_any (fun y130 ry130 ey130 => ?_)
        refine q_pX10_101 cx hB hv146_7 kv146_7 ⟨by omega, by omega⟩ (by omega) (by omega) rfl dX10_tryToPass_214 (fun H locs f131 ef131 z132 hB => ?_)
        refine lv_aload cx.1 cx.2.1 dX10_tryToPass_217 (lv_at hl 5 rfl) ?_
        refine lv_dup cx.1 cx.2.1 dX10_tryToPass_219 rfl ?_
        obtain ⟨x133, ex133⟩ : ∃ zz, q_is (q_z f131 v146_7 8) zz := ⟨_, q_isr _⟩
        refine q_gX10_113 cx hB hv146_7 kv146_7 ex133 dX10_tryToPass_220 (fun lb134 ub134 => ?_)
        refine q_iconst cx dX10_tryToPass_223 ?_
        refine q_iadd cx dX10_tryToPass_224 ?_
        refine q_any (fun y135 ry135 ey135 => ?_)
        refine q_pX10_113 cx hB hv146_7 kv146_7 ⟨by omega, by omega⟩ (by omega) (by omega) rfl dX10_tryToPass_225 (fun H locs f136 ef136 z137 hB => ?_)
        refine q_ald_n cx dX10_tryToPass_228 rfl (lv_at hl 0 rfl) ?_
        refine lv_dup cx.1 cx.2.1 dX10_tryToPass_229 rfl ?_
        obtain ⟨x138, ex138⟩ : ∃ zz, q_is (q_z f136 v 15) zz := ⟨_, q_isr _⟩
        refine q_gX10_252 cx hB hv kv ex138 dX10_tryToPass_230 (fun lb139 ub139 => ?_)
        refine q_iconst cx dX10_tryToPass_233 ?_
        refine q_ild_n cx dX10_tryToPass_234 rfl (lv_at hl 2 rfl) ?_
        refine q_ishl cx dX10_tryToPass_235 (fun y140 ry140 ey140 => ?_)
        refine q_ior cx dX10_tryToPass_236 (fun y141 ry141 ey141 => ?_)
        refine q_pX10_252 cx hB hv kv ⟨by omega, by omega⟩ (by omega) (by omega) rfl dX10_tryToPass_237 (fun H locs f142 ef142 z143 hB => ?_)
        refine q_ald_n cx dX10_tryToPass_240 rfl (lv_at hl 0 rfl) ?_
        refine q_ald_n cx dX10_tryToPass_241 rfl (lv_at hl 1 rfl) ?_
        refine q_ild_n cx dX10_tryToPass_242 rfl (lv_at hl 2 rfl) ?_
        refine q_cVv (As := [.ref p0, .int (q_i v146_3)]) (rest := []) cx hB (fun _ h => h) hN hv kv (by decide) rfl (g_X10_moveTo l g hN hB.2.1 v hv kv p0 hp0 kp0 v146_3 (by omega) (by omega)) q_cX10_277 q_dX10_moveTo (by decide) rfl rfl hl.1 rfl (Nat.le_of_ble_eq_true rfl) dX10_tryToPass_243 (fun H locs f144 h146 hF hB => ?_)
        refine q_vret cx hr hlk hB dX10_tryToPass_246 ?_
        trivial
      · exact J166  H locs hB ls (lv_sub hl [] rfl)
  have J115 : ∀ (v115_3 : Int) (lv115_3 : 0 ≤ v115_3) (uv115_3 : v115_3 ≤ 9) (v115_4 : Int) (lv115_4 : 0 ≤ v115_4) (uv115_4 : v115_4 ≤ 1) (t115_0 : Int) (lt115_0 : (-2147483648) ≤ t115_0) (ut115_0 : t115_0 ≤ 2147483647) (H : Heap) (locs : List Loc) (hB : q_B g K L (fun q => q ∈ L) [(4, 2, 3), (4, 5, 6), (5, 4, 4), (5, 7, 8), (10, 14, 15)] f f s H locs) (ls : Array Slot) (hl : lv_has ls 8 [(0, .ref v), (1, .ref p0), (3, .int (q_i v115_3)), (4, .int (q_i v115_4))]), W p l e { frames := 2, cells := 0, slots := 0, locals := 50 } s m ([.ref v, .ref p0] : List Value).toArray below meth c H locs 0 0 (MQ below (q_Q g K L [(4, 2, 3), (4, 5, 6), (5, 4, 4), (5, 7, 8), (10, 14, 15)] f (q_Pv (fun (f1 : Nat → va_E) => True))) ([.ref v, .ref p0] : List Value).toArray s 0 0 (fun q => q ∈ L)) (F0 m 115 ls [.int (q_i t115_0)]) := by
    intro v115_3 lv115_3 uv115_3 v115_4 lv115_4 uv115_4 t115_0 lt115_0 ut115_0 H locs hB ls hl
    refine lv_istore (lv' := [(5, .int (q_i t115_0)), (0, .ref v), (1, .ref p0), (3, .int (q_i v115_3)), (4, .int (q_i v115_4))]) cx.1 cx.2.1 dX10_tryToPass_115 hl (by decide) rfl (fun ls hl => ?_)
    refine q_ald_n cx dX10_tryToPass_117 rfl (lv_at hl 1 rfl) ?_
    refine q_ald_n cx dX10_tryToPass_118 rfl (lv_at hl 2 rfl) ?_
    obtain ⟨x147, ex147⟩ : ∃ zz, q_is (q_z f p0 2) zz := ⟨_, q_isr _⟩
    refine q_gX10_137 cx hB hp0 kp0 ex147 dX10_tryToPass_119 (fun lb148 ub148 => ?_)
    refine q_cVr (As := [.int (q_i x147)]) (rest := []) cx hB (fun _ h => h) hN hv kv (by decide) rfl (g_X10_nodeAt l g hN hB.2.1 v hv kv x147 (by omega) (by omega)) q_cX10_66 q_dX10_nodeAt (by decide) rfl rfl hl.1 rfl (Nat.le_of_ble_eq_true rfl) dX10_tryToPass_122 (fun y150 H locs f149 h151 hF hB => ?_)
    obtain ⟨rfl, hy150, ky150⟩ := h151
    refine lv_astore (lv' := [(6, .ref y150), (5, .int (q_i t115_0)), (0, .ref v), (1, .ref p0), (3, .int (q_i v115_3)), (4, .int (q_i v115_4))]) cx.1 cx.2.1 dX10_tryToPass_125 hl (by decide) rfl (fun ls hl => ?_)
    refine q_ald_n cx dX10_tryToPass_127 rfl (lv_at hl 2 rfl) ?_
    refine q_ild_n cx dX10_tryToPass_128 rfl (lv_at hl 4 rfl) ?_
    refine q_cVr (As := [.int (q_i v115_3)]) (rest := []) cx hB (fun _ h => h) hN hv kv (by decide) rfl (g_X10_nodeAt l g hN hB.2.1 v hv kv v115_3 (by omega) (by omega)) q_cX10_66 q_dX10_nodeAt (by decide) rfl rfl hl.1 rfl (Nat.le_of_ble_eq_true rfl) dX10_tryToPass_129 (fun y153 H locs f152 h154 hF hB => ?_)
    obtain ⟨rfl, hy153, ky153⟩ := h154
    refine lv_astore (lv' := [(7, .ref y153), (6, .ref y150), (5, .int (q_i t115_0)), (0, .ref v), (1, .ref p0), (3, .int (q_i v115_3)), (4, .int (q_i v115_4))]) cx.1 cx.2.1 dX10_tryToPass_132 hl (by decide) rfl (fun ls hl => ?_)
    refine lv_iload cx.1 cx.2.1 dX10_tryToPass_134 (lv_at hl 6 rfl) ?_
    refine q_ifne (tgt := 146) cx ⟨by omega, by omega⟩ dX10_tryToPass_136 (by decide) (fun c155 => ?_) (fun c155 => ?_)
    · exact J146 v115_3 (by omega) (by omega) t115_0 (by omega) (by omega) y150 hy150 ky150 y153 hy153 ky153 H locs hB ls (lv_sub hl [3, 4, 5, 2, 1, 0] rfl)
    · refine q_ald_n cx dX10_tryToPass_139 rfl (lv_at hl 4 rfl) ?_
      obtain ⟨x156, ex156⟩ : ∃ zz, q_is (q_z f p0 7) zz := ⟨_, q_isr _⟩
      refine q_gX10_152 cx hB hp0 kp0 ex156 dX10_tryToPass_140 (fun lb157 ub157 => ?_)
      refine q_ifeq (tgt := 166) cx ⟨by omega, by omega⟩ dX10_tryToPass_143 (by decide) (fun c158 => ?_) (fun c158 => ?_)
      · exact J166  H locs hB ls (lv_sub hl [] rfl)
      · exact J146 v115_3 (by omega) (by omega) t115_0 (by omega) (by omega) y150 hy150 ky150 y153 hy153 ky153 H locs hB ls (lv_sub hl [3, 4, 5, 2, 1, 0] rfl)
  have J92 : ∀ (v92_3 : Int) (lv92_3 : 0 ≤ v92_3) (uv92_3 : v92_3 ≤ 9) (t92_0 : Int) (lt92_0 : 0 ≤ t92_0) (ut92_0 : t92_0 ≤ 1) (H : Heap) (locs : List Loc) (hB : q_B g K L (fun q => q ∈ L) [(4, 2, 3), (4, 5, 6), (5, 4, 4), (5, 7, 8), (10, 14, 15)] f f s H locs) (ls : Array Slot) (hl : lv_has ls 8 [(0, .ref v), (1, .ref p0), (3, .int (q_i v92_3))]), W p l e { frames := 2, cells := 0, slots := 0, locals := 50 } s m ([.ref v, .ref p0] : List Value).toArray below meth c H locs 0 0 (MQ below (q_Q g K L [(4, 2, 3), (4, 5, 6), (5, 4, 4), (5, 7, 8), (10, 14, 15)] f (q_Pv (fun (f1 : Nat → va_E) => True))) ([.ref v, .ref p0] : List Value).toArray s 0 0 (fun q => q ∈ L)) (F0 m 92 ls [.int (q_i t92_0)]) := by
    intro v92_3 lv92_3 uv92_3 t92_0 lt92_0 ut92_0 H locs hB ls hl
    refine lv_istore (lv' := [(4, .int (q_i t92_0)), (0, .ref v), (1, .ref p0), (3, .int (q_i v92_3))]) cx.1 cx.2.1 dX10_tryToPass_92 hl (by decide) rfl (fun ls hl => ?_)
    refine lv_iload cx.1 cx.2.1 dX10_tryToPass_94 (lv_at hl 0 rfl) ?_
    refine q_ifeq (tgt := 106) cx ⟨by omega, by omega⟩ dX10_tryToPass_96 (by decide) (fun c159 => ?_) (fun c159 => ?_)
    · refine q_ald_n cx dX10_tryToPass_106 rfl (lv_at hl 1 rfl) ?_
      obtain ⟨x160, ex160⟩ : ∃ zz, q_is (q_z f v 8) zz := ⟨_, q_isr _⟩
      refine q_gX10_51 cx hB hv kv ex160 dX10_tryToPass_107 (fun lb161 ub161 => ?_)
      refine q_ald_n cx dX10_tryToPass_110 rfl (lv_at hl 1 rfl) ?_
      obtain ⟨x162, ex162⟩ : ∃ zz, q_is (q_z f v 9) zz := ⟨_, q_isr _⟩
      refine q_gX10_54 cx hB hv kv ex162 dX10_tryToPass_111 (fun lb163 ub163 => ?_)
      refine q_iadd cx dX10_tryToPass_114 ?_
      refine q_any (fun y164 ry164 ey164 => ?_)
      exact J115 v92_3 (by omega) (by omega) t92_0 (by omega) (by omega) y164 (by omega) (by omega) H locs hB ls (lv_sub hl [1, 2, 3, 0] rfl)
    · refine q_ald_n cx dX10_tryToPass_99 rfl (lv_at hl 1 rfl) ?_
      obtain ⟨x165, ex165⟩ : ∃ zz, q_is (q_z f v 8) zz := ⟨_, q_isr _⟩
      refine q_gX10_51 cx hB hv kv ex165 dX10_tryToPass_100 (fun lb166 ub166 => ?_)
      refine lv_goto (tgt := 115) cx.1 cx.2.1 dX10_tryToPass_103 (by decide) ?_
      exact J115 v92_3 (by omega) (by omega) t92_0 (by omega) (by omega) x165 (by omega) (by omega) H locs hB ls (lv_sub hl [1, 2, 3, 0] rfl)
  have J91 : ∀ (v91_3 : Int) (lv91_3 : 0 ≤ v91_3) (uv91_3 : v91_3 ≤ 9) (H : Heap) (locs : List Loc) (hB : q_B g K L (fun q => q ∈ L) [(4, 2, 3), (4, 5, 6), (5, 4, 4), (5, 7, 8), (10, 14, 15)] f f s H locs) (ls : Array Slot) (hl : lv_has ls 8 [(0, .ref v), (1, .ref p0), (3, .int (q_i v91_3))]), W p l e { frames := 2, cells := 0, slots := 0, locals := 50 } s m ([.ref v, .ref p0] : List Value).toArray below meth c H locs 0 0 (MQ below (q_Q g K L [(4, 2, 3), (4, 5, 6), (5, 4, 4), (5, 7, 8), (10, 14, 15)] f (q_Pv (fun (f1 : Nat → va_E) => True))) ([.ref v, .ref p0] : List Value).toArray s 0 0 (fun q => q ∈ L)) (F0 m 91 ls []) := by
    intro v91_3 lv91_3 uv91_3 H locs hB ls hl
    refine q_iconst cx dX10_tryToPass_91 ?_
    exact J92 v91_3 (by omega) (by omega) 0 (by decide) (by decide) H locs hB ls (lv_sub hl [0, 1, 2] rfl)
  have J38 : ∀ (v38_2 : Int) (lv38_2 : 0 ≤ v38_2) (uv38_2 : v38_2 ≤ 1) (H : Heap) (locs : List Loc) (hB : q_B g K L (fun q => q ∈ L) [(4, 2, 3), (4, 5, 6), (5, 4, 4), (5, 7, 8), (10, 14, 15)] f f s H locs) (ls : Array Slot) (hl : lv_has ls 8 [(0, .ref v), (1, .ref p0), (2, .int (q_i v38_2))]), W p l e { frames := 2, cells := 0, slots := 0, locals := 50 } s m ([.ref v, .ref p0] : List Value).toArray below meth c H locs 0 0 (MQ below (q_Q g K L [(4, 2, 3), (4, 5, 6), (5, 4, 4), (5, 7, 8), (10, 14, 15)] f (q_Pv (fun (f1 : Nat → va_E) => True))) ([.ref v, .ref p0] : List Value).toArray s 0 0 (fun q => q ∈ L)) (F0 m 38 ls []) := by
    intro v38_2 lv38_2 uv38_2 H locs hB ls hl
    refine q_ald_n cx dX10_tryToPass_38 rfl (lv_at hl 0 rfl) ?_
    refine q_ald_n cx dX10_tryToPass_39 rfl (lv_at hl 1 rfl) ?_
    obtain ⟨x167, ex167⟩ : ∃ zz, q_is (q_z f p0 2) zz := ⟨_, q_isr _⟩
    refine q_gX10_137 cx hB hp0 kp0 ex167 dX10_tryToPass_40 (fun lb168 ub168 => ?_)
    refine q_ald_n cx dX10_tryToPass_43 rfl (lv_at hl 1 rfl) ?_
    obtain ⟨x169, ex169⟩ : ∃ zz, q_is (q_z f p0 1) zz := ⟨_, q_isr _⟩
    refine q_gX10_134 cx hB hp0 kp0 ex169 dX10_tryToPass_44 (fun lb170 ub170 => ?_)
    refine q_ald_n cx dX10_tryToPass_47 rfl (lv_at hl 0 rfl) ?_
    refine q_cVi (As := []) (rest := [.int (q_i x169), .int (q_i x167), .ref v]) cx hB (fun _ h => h) hN hv kv (by decide) rfl (g_X10_notOut l g hN hB.2.1 v hv kv) q_cX10_195 q_dX10_notOut (by decide) rfl rfl hl.1 rfl (Nat.le_of_ble_eq_true rfl) dX10_tryToPass_48 (fun y172 H locs f171 ry172 h173 hF hB => ?_)
    obtain rfl := h173
    refine q_cVi (As := [.int (q_i x167), .int (q_i x169), .int (q_i y172)]) (rest := []) cx hB (fun _ h => h) hN hv kv (by decide) rfl (g_X10_nextTowards l g hN hB.2.1 v hv kv x167 (by omega) (by omega) x169 (by omega) (by omega) y172 (by omega) (by omega)) q_cX10_274 q_dX10_nextTowards (by decide) rfl rfl hl.1 rfl (Nat.le_of_ble_eq_true rfl) dX10_tryToPass_51 (fun y175 H locs f174 ry175 h176 hF hB => ?_)
    obtain ⟨rfl, ly175, uy175⟩ := h176
    refine lv_istore_n (lv' := [(3, .int (q_i y175)), (0, .ref v), (1, .ref p0), (2, .int (q_i v38_2))]) cx.1 cx.2.1 dX10_tryToPass_54 rfl hl (by decide) rfl (fun ls hl => ?_)
    refine q_ild_n cx dX10_tryToPass_55 rfl (lv_at hl 0 rfl) ?_
    refine q_iconst cx dX10_tryToPass_56 ?_
    refine q_iceq (tgt := 71) cx ⟨by omega, by omega⟩ ⟨by decide, by decide⟩ dX10_tryToPass_57 (by decide) (fun c177 => ?_) (fun c177 => ?_)
    · exact J71  H locs hB ls (lv_sub hl [] rfl)
    · refine q_ald_n cx dX10_tryToPass_60 rfl (lv_at hl 1 rfl) ?_
      obtain ⟨x178, ex178⟩ : ∃ zz, q_is (q_z f v 15) zz := ⟨_, q_isr _⟩
      refine q_gX10_252 cx hB hv kv ex178 dX10_tryToPass_61 (fun lb179 ub179 => ?_)
      refine q_ild_n cx dX10_tryToPass_64 rfl (lv_at hl 0 rfl) ?_
      refine q_cSi (As := [.int (q_i x178), .int (q_i y175)]) (rest := []) cx hB (fun _ h => h) hN (g_X10_has l g hN hB.2.1 x178 (by omega) (by omega) y175 (by omega) (by omega)) q_cX10_181 q_dX10_has (by decide) rfl rfl hl.1 rfl (Nat.le_of_ble_eq_true rfl) dX10_tryToPass_65 (fun y181 H locs f180 ry181 h182 hF hB => ?_)
      obtain ⟨rfl, ly181, uy181⟩ := h182
      refine q_ifeq (tgt := 72) cx ⟨by omega, by omega⟩ dX10_tryToPass_68 (by decide) (fun c183 => ?_) (fun c183 => ?_)
      · refine q_ild_n cx dX10_tryToPass_72 rfl (lv_at hl 3 rfl) ?_
        refine q_ifeq (tgt := 91) cx ⟨by omega, by omega⟩ dX10_tryToPass_73 (by decide) (fun c184 => ?_) (fun c184 => ?_)
        · exact J91 y175 (by omega) (by omega) H locs hB ls (lv_sub hl [1, 2, 0] rfl)
        · refine q_ald_n cx dX10_tryToPass_76 rfl (lv_at hl 1 rfl) ?_
          obtain ⟨x185, ex185⟩ : ∃ zz, q_is (q_z f v 13) zz := ⟨_, q_isr _⟩
          refine q_gX10_262 cx hB hv kv ex185 dX10_tryToPass_77 (fun lb186 ub186 => ?_)
          refine q_ild_n cx dX10_tryToPass_80 rfl (lv_at hl 0 rfl) ?_
          refine q_cSi (As := [.int (q_i x185), .int (q_i y175)]) (rest := []) cx hB (fun _ h => h) hN (g_X10_has l g hN hB.2.1 x185 (by omega) (by omega) y175 (by omega) (by omega)) q_cX10_181 q_dX10_has (by decide) rfl rfl hl.1 rfl (Nat.le_of_ble_eq_true rfl) dX10_tryToPass_81 (fun y188 H locs f187 ry188 h189 hF hB => ?_)
          obtain ⟨rfl, ly188, uy188⟩ := h189
          refine q_ifeq (tgt := 91) cx ⟨by omega, by omega⟩ dX10_tryToPass_84 (by decide) (fun c190 => ?_) (fun c190 => ?_)
          · exact J91 y175 (by omega) (by omega) H locs hB ls (lv_sub hl [1, 2, 0] rfl)
          · refine q_iconst cx dX10_tryToPass_87 ?_
            refine lv_goto (tgt := 92) cx.1 cx.2.1 dX10_tryToPass_88 (by decide) ?_
            exact J92 y175 (by omega) (by omega) 1 (by decide) (by decide) H locs hB ls (lv_sub hl [1, 2, 0] rfl)
      · exact J71  H locs hB ls (lv_sub hl [] rfl)
  obtain ⟨H, hH⟩ : ∃ H : Heap, H = s.heap := ⟨_, rfl⟩
  obtain ⟨locs, hlocs⟩ : ∃ z : List Loc, z = [] := ⟨_, rfl⟩
  rw [← hH, ← hlocs] at hB
  rw [← hH, ← hlocs]
  refine q_ald_n cx dX10_tryToPass_0 rfl (lv_at hl 0 rfl) ?_
  obtain ⟨x191, ex191⟩ : ∃ zz, q_is (q_z f v 13) zz := ⟨_, q_isr _⟩
  refine q_gX10_262 cx hB hv kv ex191 dX10_tryToPass_1 (fun lb192 ub192 => ?_)
  refine q_ald_n cx dX10_tryToPass_4 rfl (lv_at hl 1 rfl) ?_
  obtain ⟨x193, ex193⟩ : ∃ zz, q_is (q_z f p0 2) zz := ⟨_, q_isr _⟩
  refine q_gX10_137 cx hB hp0 kp0 ex193 dX10_tryToPass_5 (fun lb194 ub194 => ?_)
  refine q_cSi (As := [.int (q_i x191), .int (q_i x193)]) (rest := []) cx hB (fun _ h => h) hN (g_X10_has l g hN hB.2.1 x191 (by omega) (by omega) x193 (by omega) (by omega)) q_cX10_181 q_dX10_has (by decide) rfl rfl hl.1 rfl (Nat.le_of_ble_eq_true rfl) dX10_tryToPass_8 (fun y196 H locs f195 ry196 h197 hF hB => ?_)
  obtain ⟨rfl, ly196, uy196⟩ := h197
  refine lv_istore_n (lv' := [(2, .int (q_i y196)), (0, .ref v), (1, .ref p0)]) cx.1 cx.2.1 dX10_tryToPass_11 rfl hl (by decide) rfl (fun ls hl => ?_)
  refine q_ald_n cx dX10_tryToPass_12 rfl (lv_at hl 1 rfl) ?_
  obtain ⟨x198, ex198⟩ : ∃ zz, q_is (q_z f v 14) zz := ⟨_, q_isr _⟩
  refine q_gX10_249 cx hB hv kv ex198 dX10_tryToPass_13 (fun lb199 ub199 => ?_)
  refine q_ald_n cx dX10_tryToPass_16 rfl (lv_at hl 2 rfl) ?_
  refine q_gX10_137 cx hB hp0 kp0 ex193 dX10_tryToPass_17 (fun lb200 ub200 => ?_)
  refine q_cSi (As := [.int (q_i x198), .int (q_i x193)]) (rest := []) cx hB (fun _ h => h) hN (g_X10_has l g hN hB.2.1 x198 (by omega) (by omega) x193 (by omega) (by omega)) q_cX10_181 q_dX10_has (by decide) rfl rfl hl.1 rfl (Nat.le_of_ble_eq_true rfl) dX10_tryToPass_20 (fun y202 H locs f201 ry202 h203 hF hB => ?_)
  obtain ⟨rfl, ly202, uy202⟩ := h203
  refine q_ifne (tgt := 37) cx ⟨by omega, by omega⟩ dX10_tryToPass_23 (by decide) (fun c204 => ?_) (fun c204 => ?_)
  · exact J37  H locs hB ls (lv_sub hl [] rfl)
  · refine q_ild_n cx dX10_tryToPass_26 rfl (lv_at hl 0 rfl) ?_
    refine q_ifne (tgt := 38) cx ⟨by omega, by omega⟩ dX10_tryToPass_27 (by decide) (fun c205 => ?_) (fun c205 => ?_)
    · exact J38 y196 (by omega) (by omega) H locs hB ls (lv_sub hl [1, 2, 0] rfl)
    · refine q_ald_n cx dX10_tryToPass_30 rfl (lv_at hl 2 rfl) ?_
      obtain ⟨x206, ex206⟩ : ∃ zz, q_is (q_z f p0 7) zz := ⟨_, q_isr _⟩
      refine q_gX10_152 cx hB hp0 kp0 ex206 dX10_tryToPass_31 (fun lb207 ub207 => ?_)
      refine q_ifne (tgt := 38) cx ⟨by omega, by omega⟩ dX10_tryToPass_34 (by decide) (fun c208 => ?_) (fun c208 => ?_)
      · exact J38 y196 (by omega) (by omega) H locs hB ls (lv_sub hl [1, 2, 0] rfl)
      · exact J37  H locs hB ls (lv_sub hl [] rfl)
set_option maxHeartbeats 4000000 in
set_option maxRecDepth 100000 in
theorem g_X10_tryToPass_1 (l : Launch) (g : q_G) {K : Nat → Nat} {L : List Nat} (hN : L.Nodup) {f : Nat → va_E} (hT : q_Ty g K L f) (v : Nat) (hv : v ∈ L) (kv : K v = 13) (p0 : Nat) (hp0 : p0 ∈ L) (kp0 : K p0 = 25) : q_Ct l g K L yX10_tryToPass cX10_tryToPass 8 none 2 50 [.ref v, .ref p0] f [(13, 14, 15), (17, 4, 4), (17, 7, 8), (25, 2, 3), (25, 5, 6)] (q_Pv (fun (f1 : Nat → va_E) => True)) := by
  refine q_ofb (by decide +kernel) hN hT (Nat.le_of_ble_eq_true rfl) ?_
  intro p e s m below meth c ls cx hr hlk hB hl
  have hl : lv_has ls 8 [(0, .ref v), (1, .ref p0)] := hl
  have J37 : ∀  (H : Heap) (locs : List Loc) (hB : q_B g K L (fun q => q ∈ L) [(13, 14, 15), (17, 4, 4), (17, 7, 8), (25, 2, 3), (25, 5, 6)] f f s H locs) (ls : Array Slot) (hl : lv_has ls 8 []), W p l e { frames := 2, cells := 0, slots := 0, locals := 50 } s m ([.ref v, .ref p0] : List Value).toArray below meth c H locs 0 0 (MQ below (q_Q g K L [(13, 14, 15), (17, 4, 4), (17, 7, 8), (25, 2, 3), (25, 5, 6)] f (q_Pv (fun (f1 : Nat → va_E) => True))) ([.ref v, .ref p0] : List Value).toArray s 0 0 (fun q => q ∈ L)) (F0 m 37 ls []) := by
    intro  H locs hB ls hl
    refine q_vret cx hr hlk hB dX10_tryToPass_37 ?_
    trivial
  have J71 : ∀  (H : Heap) (locs : List Loc) (hB : q_B g K L (fun q => q ∈ L) [(13, 14, 15), (17, 4, 4), (17, 7, 8), (25, 2, 3), (25, 5, 6)] f f s H locs) (ls : Array Slot) (hl : lv_has ls 8 []), W p l e { frames := 2, cells := 0, slots := 0, locals := 50 } s m ([.ref v, .ref p0] : List Value).toArray below meth c H locs 0 0 (MQ below (q_Q g K L [(13, 14, 15), (17, 4, 4), (17, 7, 8), (25, 2, 3), (25, 5, 6)] f (q_Pv (fun (f1 : Nat → va_E) => True))) ([.ref v, .ref p0] : List Value).toArray s 0 0 (fun q => q ∈ L)) (F0 m 71 ls []) := by
    intro  H locs hB ls hl
    refine q_vret cx hr hlk hB dX10_tryToPass_71 ?_
    trivial
  have J166 : ∀  (H : Heap) (locs : List Loc) (hB : q_B g K L (fun q => q ∈ L) [(13, 14, 15), (17, 4, 4), (17, 7, 8), (25, 2, 3), (25, 5, 6)] f f s H locs) (ls : Array Slot) (hl : lv_has ls 8 []), W p l e { frames := 2, cells := 0, slots := 0, locals := 50 } s m ([.ref v, .ref p0] : List Value).toArray below meth c H locs 0 0 (MQ below (q_Q g K L [(13, 14, 15), (17, 4, 4), (17, 7, 8), (25, 2, 3), (25, 5, 6)] f (q_Pv (fun (f1 : Nat → va_E) => True))) ([.ref v, .ref p0] : List Value).toArray s 0 0 (fun q => q ∈ L)) (F0 m 166 ls []) := by
    intro  H locs hB ls hl
    refine q_vret cx hr hlk hB dX10_tryToPass_166 ?_
    trivial
  have J146 : ∀ (v146_3 : Int) (lv146_3 : 0 ≤ v146_3) (uv146_3 : v146_3 ≤ 9) (v146_5 : Int) (lv146_5 : (-2147483648) ≤ v146_5) (uv146_5 : v146_5 ≤ 2147483647) (v146_6 : Nat) (hv146_6 : v146_6 ∈ L) (kv146_6 : K v146_6 = 17) (v146_7 : Nat) (hv146_7 : v146_7 ∈ L) (kv146_7 : K v146_7 = 17) (H : Heap) (locs : List Loc) (hB : q_B g K L (fun q => q ∈ L) [(13, 14, 15), (17, 4, 4), (17, 7, 8), (25, 2, 3), (25, 5, 6)] f f s H locs) (ls : Array Slot) (hl : lv_has ls 8 [(0, .ref v), (1, .ref p0), (3, .int (q_i v146_3)), (5, .int (q_i v146_5)), (6, .ref v146_6), (7, .ref v146_7)]), W p l e { frames := 2, cells := 0, slots := 0, locals := 50 } s m ([.ref v, .ref p0] : List Value).toArray below meth c H locs 0 0 (MQ below (q_Q g K L [(13, 14, 15), (17, 4, 4), (17, 7, 8), (25, 2, 3), (25, 5, 6)] f (q_Pv (fun (f1 : Nat → va_E) => True))) ([.ref v, .ref p0] : List Value).toArray s 0 0 (fun q => q ∈ L)) (F0 m 146 ls []) := by
    intro v146_3 lv146_3 uv146_3 v146_5 lv146_5 uv146_5 v146_6 hv146_6 kv146_6 v146_7 hv146_7 kv146_7 H locs hB ls hl
    refine lv_aload cx.1 cx.2.1 dX10_tryToPass_146 (lv_at hl 4 rfl) ?_
    obtain ⟨x105, ex105⟩ : ∃ zz, q_is (q_z f v146_6 4) zz := ⟨_, q_isr _⟩
    refine q_gX10_101_17 cx hB hv146_6 kv146_6 ex105 dX10_tryToPass_148 (fun lb106 ub106 => ?_)
    refine lv_iload cx.1 cx.2.1 dX10_tryToPass_151 (lv_at hl 3 rfl) ?_
    refine q_iclt (tgt := 166) cx ⟨by omega, by omega⟩ ⟨by omega, by omega⟩ dX10_tryToPass_153 (by decide) (fun c107 => ?_) (fun c107 => ?_)
    · exact J166  H locs hB ls (lv_sub hl [] rfl)
    · refine lv_aload cx.1 cx.2.1 dX10_tryToPass_156 (lv_at hl 5 rfl) ?_
      obtain ⟨x108, ex108⟩ : ∃ zz, q_is (q_z f v146_7 4) zz := ⟨_, q_isr _⟩
      refine q_gX10_101_17 cx hB hv146_7 kv146_7 ex108 dX10_tryToPass_158 (fun lb109 ub109 => ?_)
      refine lv_iload cx.1 cx.2.1 dX10_tryToPass_161 (lv_at hl 3 rfl) ?_
      refine q_icge (tgt := 167) cx ⟨by omega, by omega⟩ ⟨by omega, by omega⟩ dX10_tryToPass_163 (by decide) (fun c110 => ?_) (fun c110 => ?_)
      · refine lv_aload cx.1 cx.2.1 dX10_tryToPass_167 (lv_at hl 4 rfl) ?_
        refine lv_dup cx.1 cx.2.1 dX10_tryToPass_169 rfl ?_
        refine q_gX10_101_17 cx hB hv146_6 kv146_6 ex105 dX10_tryToPass_170 (fun lb111 ub111 => ?_)
        refine lv_iload cx.1 cx.2.1 dX10_tryToPass_173 (lv_at hl 3 rfl) ?_
        refine q_isub cx dX10_tryToPass_175 ?_
        refine q_any (fun y112 ry112 ey112 => ?_)
        refine q_pX10_101_17 cx hB hv146_6 kv146_6 ⟨by omega, by omega⟩ (by omega) (by omega) rfl dX10_tryToPass_176 (fun H locs f113 ef113 z114 hB => ?_)
        refine lv_aload cx.1 cx.2.1 dX10_tryToPass_179 (lv_at hl 4 rfl) ?_
        refine lv_dup cx.1 cx.2.1 dX10_tryToPass_181 rfl ?_
        obtain ⟨x115, ex115⟩ : ∃ zz, q_is (q_z f113 v146_6 7) zz := ⟨_, q_isr _⟩
        refine q_gX10_110_17 cx hB hv146_6 kv146_6 ex115 dX10_tryToPass_182 (fun lb116 ub116 => ?_)
        refine q_iconst cx dX10_tryToPass_185 ?_
        refine q_iadd cx dX10_tryToPass_186 ?_
        refine q_any (fun y117 ry117 ey117 => ?_)
        refine q_pX10_110_17 cx hB hv146_6 kv146_6 ⟨by omega, by omega⟩ (by omega) (by omega) rfl dX10_tryToPass_187 (fun H locs f118 ef118 z119 hB => ?_)
        refine q_ald_n cx dX10_tryToPass_190 rfl (lv_at hl 0 rfl) ?_
        refine lv_dup cx.1 cx.2.1 dX10_tryToPass_191 rfl ?_
        obtain ⟨x120, ex120⟩ : ∃ zz, q_is (q_z f118 v 14) zz := ⟨_, q_isr _⟩
        refine q_gX10_249_13 cx hB hv kv ex120 dX10_tryToPass_192 (fun lb121 ub121 => ?_)
        refine q_iconst cx dX10_tryToPass_195 ?_
        refine q_ald_n cx dX10_tryToPass_196 rfl (lv_at hl 1 rfl) ?_
        obtain ⟨x122, ex122⟩ : ∃ zz, q_is (q_z f118 p0 2) zz := ⟨_, q_isr _⟩
        refine q_gX10_137_25 cx hB hp0 kp0 ex122 dX10_tryToPass_197 (fun lb123 ub123 => ?_)
        refine q_ishl cx dX10_tryToPass_200 (fun y124 ry124 ey124 => ?_)
        refine q_ior cx dX10_tryToPass_201 (fun y125 ry125 ey125 => ?_)
        refine q_pX10_249_13 cx hB hv kv ⟨by omega, by omega⟩ (by omega) (by omega) rfl dX10_tryToPass_202 (fun H locs f126 ef126 z127 hB => ?_)
        refine lv_aload cx.1 cx.2.1 dX10_tryToPass_205 (lv_at hl 5 rfl) ?_
        refine lv_dup cx.1 cx.2.1 dX10_tryToPass_207 rfl ?_
        obtain ⟨x128, ex128⟩ : ∃ zz, q_is (q_z f126 v146_7 4) zz := ⟨_, q_isr _⟩
        refine q_gX10_101_17 cx hB hv146_7 kv146_7 ex128 dX10_tryToPass_208 (fun lb129 ub129 => ?_)
        refine lv_iload cx.1 cx.2.1 dX10_tryToPass_211 (lv_at hl 3 rfl) ?_
        refine q_isub cx dX10_tryToPass_213 ?_
        refine q_any (fun y130 ry130 ey130 => ?_)
        refine q_pX10_101_17 cx hB hv146_7 kv146_7 ⟨by omega, by omega⟩ (by omega) (by omega) rfl dX10_tryToPass_214 (fun H locs f131 ef131 z132 hB => ?_)
        refine lv_aload cx.1 cx.2.1 dX10_tryToPass_217 (lv_at hl 5 rfl) ?_
        refine lv_dup cx.1 cx.2.1 dX10_tryToPass_219 rfl ?_
        obtain ⟨x133, ex133⟩ : ∃ zz, q_is (q_z f131 v146_7 8) zz := ⟨_, q_isr _⟩
        refine q_gX10_113_17 cx hB hv146_7 kv146_7 ex133 dX10_tryToPass_220 (fun lb134 ub134 => ?_)
        refine q_iconst cx dX10_tryToPass_223 ?_
        refine q_iadd cx dX10_tryToPass_224 ?_
        refine q_any (fun y135 ry135 ey135 => ?_)
        refine q_pX10_113_17 cx hB hv146_7 kv146_7 ⟨by omega, by omega⟩ (by omega) (by omega) rfl dX10_tryToPass_225 (fun H locs f136 ef136 z137 hB => ?_)
        refine q_ald_n cx dX10_tryToPass_228 rfl (lv_at hl 0 rfl) ?_
        refine lv_dup cx.1 cx.2.1 dX10_tryToPass_229 rfl ?_
        obtain ⟨x138, ex138⟩ : ∃ zz, q_is (q_z f136 v 15) zz := ⟨_, q_isr _⟩
        refine q_gX10_252_13 cx hB hv kv ex138 dX10_tryToPass_230 (fun lb139 ub139 => ?_)
        refine q_iconst cx dX10_tryToPass_233 ?_
        refine q_ild_n cx dX10_tryToPass_234 rfl (lv_at hl 2 rfl) ?_
        refine q_ishl cx dX10_tryToPass_235 (fun y140 ry140 ey140 => ?_)
        refine q_ior cx dX10_tryToPass_236 (fun y141 ry141 ey141 => ?_)
        refine q_pX10_252_13 cx hB hv kv ⟨by omega, by omega⟩ (by omega) (by omega) rfl dX10_tryToPass_237 (fun H locs f142 ef142 z143 hB => ?_)
        refine q_ald_n cx dX10_tryToPass_240 rfl (lv_at hl 0 rfl) ?_
        refine q_ald_n cx dX10_tryToPass_241 rfl (lv_at hl 1 rfl) ?_
        refine q_ild_n cx dX10_tryToPass_242 rfl (lv_at hl 2 rfl) ?_
        refine q_cVv (As := [.ref p0, .int (q_i v146_3)]) (rest := []) cx hB (fun _ h => h) hN hv kv (by decide) rfl (g_X10_moveTo_1 l g hN hB.2.1 v hv kv p0 hp0 kp0 v146_3 (by omega) (by omega)) q_cX10_277 q_dX10_moveTo (by decide) rfl rfl hl.1 rfl (Nat.le_of_ble_eq_true rfl) dX10_tryToPass_243 (fun H locs f144 h146 hF hB => ?_)
        refine q_vret cx hr hlk hB dX10_tryToPass_246 ?_
        trivial
      · exact J166  H locs hB ls (lv_sub hl [] rfl)
  have J115 : ∀ (v115_3 : Int) (lv115_3 : 0 ≤ v115_3) (uv115_3 : v115_3 ≤ 9) (v115_4 : Int) (lv115_4 : 0 ≤ v115_4) (uv115_4 : v115_4 ≤ 1) (t115_0 : Int) (lt115_0 : (-2147483648) ≤ t115_0) (ut115_0 : t115_0 ≤ 2147483647) (H : Heap) (locs : List Loc) (hB : q_B g K L (fun q => q ∈ L) [(13, 14, 15), (17, 4, 4), (17, 7, 8), (25, 2, 3), (25, 5, 6)] f f s H locs) (ls : Array Slot) (hl : lv_has ls 8 [(0, .ref v), (1, .ref p0), (3, .int (q_i v115_3)), (4, .int (q_i v115_4))]), W p l e { frames := 2, cells := 0, slots := 0, locals := 50 } s m ([.ref v, .ref p0] : List Value).toArray below meth c H locs 0 0 (MQ below (q_Q g K L [(13, 14, 15), (17, 4, 4), (17, 7, 8), (25, 2, 3), (25, 5, 6)] f (q_Pv (fun (f1 : Nat → va_E) => True))) ([.ref v, .ref p0] : List Value).toArray s 0 0 (fun q => q ∈ L)) (F0 m 115 ls [.int (q_i t115_0)]) := by
    intro v115_3 lv115_3 uv115_3 v115_4 lv115_4 uv115_4 t115_0 lt115_0 ut115_0 H locs hB ls hl
    refine lv_istore (lv' := [(5, .int (q_i t115_0)), (0, .ref v), (1, .ref p0), (3, .int (q_i v115_3)), (4, .int (q_i v115_4))]) cx.1 cx.2.1 dX10_tryToPass_115 hl (by decide) rfl (fun ls hl => ?_)
    refine q_ald_n cx dX10_tryToPass_117 rfl (lv_at hl 1 rfl) ?_
    refine q_ald_n cx dX10_tryToPass_118 rfl (lv_at hl 2 rfl) ?_
    obtain ⟨x147, ex147⟩ : ∃ zz, q_is (q_z f p0 2) zz := ⟨_, q_isr _⟩
    refine q_gX10_137_25 cx hB hp0 kp0 ex147 dX10_tryToPass_119 (fun lb148 ub148 => ?_)
    refine q_cVr (As := [.int (q_i x147)]) (rest := []) cx hB (fun _ h => h) hN hv kv (by decide) rfl (g_X10_nodeAt_1 l g hN hB.2.1 v hv kv x147 (by omega) (by omega)) q_cX10_66 q_dX10_nodeAt (by decide) rfl rfl hl.1 rfl (Nat.le_of_ble_eq_true rfl) dX10_tryToPass_122 (fun y150 H locs f149 h151 hF hB => ?_)
    obtain ⟨rfl, hy150, ky150⟩ := h151
    refine lv_astore (lv' := [(6, .ref y150), (5, .int (q_i t115_0)), (0, .ref v), (1, .ref p0), (3, .int (q_i v115_3)), (4, .int (q_i v115_4))]) cx.1 cx.2.1 dX10_tryToPass_125 hl (by decide) rfl (fun ls hl => ?_)
    refine q_ald_n cx dX10_tryToPass_127 rfl (lv_at hl 2 rfl) ?_
    refine q_ild_n cx dX10_tryToPass_128 rfl (lv_at hl 4 rfl) ?_
    refine q_cVr (As := [.int (q_i v115_3)]) (rest := []) cx hB (fun _ h => h) hN hv kv (by decide) rfl (g_X10_nodeAt_1 l g hN hB.2.1 v hv kv v115_3 (by omega) (by omega)) q_cX10_66 q_dX10_nodeAt (by decide) rfl rfl hl.1 rfl (Nat.le_of_ble_eq_true rfl) dX10_tryToPass_129 (fun y153 H locs f152 h154 hF hB => ?_)
    obtain ⟨rfl, hy153, ky153⟩ := h154
    refine lv_astore (lv' := [(7, .ref y153), (6, .ref y150), (5, .int (q_i t115_0)), (0, .ref v), (1, .ref p0), (3, .int (q_i v115_3)), (4, .int (q_i v115_4))]) cx.1 cx.2.1 dX10_tryToPass_132 hl (by decide) rfl (fun ls hl => ?_)
    refine lv_iload cx.1 cx.2.1 dX10_tryToPass_134 (lv_at hl 6 rfl) ?_
    refine q_ifne (tgt := 146) cx ⟨by omega, by omega⟩ dX10_tryToPass_136 (by decide) (fun c155 => ?_) (fun c155 => ?_)
    · exact J146 v115_3 (by omega) (by omega) t115_0 (by omega) (by omega) y150 hy150 ky150 y153 hy153 ky153 H locs hB ls (lv_sub hl [3, 4, 5, 2, 1, 0] rfl)
    · refine q_ald_n cx dX10_tryToPass_139 rfl (lv_at hl 4 rfl) ?_
      obtain ⟨x156, ex156⟩ : ∃ zz, q_is (q_z f p0 7) zz := ⟨_, q_isr _⟩
      refine q_gX10_152_25 cx hB hp0 kp0 ex156 dX10_tryToPass_140 (fun lb157 ub157 => ?_)
      refine q_ifeq (tgt := 166) cx ⟨by omega, by omega⟩ dX10_tryToPass_143 (by decide) (fun c158 => ?_) (fun c158 => ?_)
      · exact J166  H locs hB ls (lv_sub hl [] rfl)
      · exact J146 v115_3 (by omega) (by omega) t115_0 (by omega) (by omega) y150 hy150 ky150 y153 hy153 ky153 H locs hB ls (lv_sub hl [3, 4, 5, 2, 1, 0] rfl)
  have J92 : ∀ (v92_3 : Int) (lv92_3 : 0 ≤ v92_3) (uv92_3 : v92_3 ≤ 9) (t92_0 : Int) (lt92_0 : 0 ≤ t92_0) (ut92_0 : t92_0 ≤ 1) (H : Heap) (locs : List Loc) (hB : q_B g K L (fun q => q ∈ L) [(13, 14, 15), (17, 4, 4), (17, 7, 8), (25, 2, 3), (25, 5, 6)] f f s H locs) (ls : Array Slot) (hl : lv_has ls 8 [(0, .ref v), (1, .ref p0), (3, .int (q_i v92_3))]), W p l e { frames := 2, cells := 0, slots := 0, locals := 50 } s m ([.ref v, .ref p0] : List Value).toArray below meth c H locs 0 0 (MQ below (q_Q g K L [(13, 14, 15), (17, 4, 4), (17, 7, 8), (25, 2, 3), (25, 5, 6)] f (q_Pv (fun (f1 : Nat → va_E) => True))) ([.ref v, .ref p0] : List Value).toArray s 0 0 (fun q => q ∈ L)) (F0 m 92 ls [.int (q_i t92_0)]) := by
    intro v92_3 lv92_3 uv92_3 t92_0 lt92_0 ut92_0 H locs hB ls hl
    refine lv_istore (lv' := [(4, .int (q_i t92_0)), (0, .ref v), (1, .ref p0), (3, .int (q_i v92_3))]) cx.1 cx.2.1 dX10_tryToPass_92 hl (by decide) rfl (fun ls hl => ?_)
    refine lv_iload cx.1 cx.2.1 dX10_tryToPass_94 (lv_at hl 0 rfl) ?_
    refine q_ifeq (tgt := 106) cx ⟨by omega, by omega⟩ dX10_tryToPass_96 (by decide) (fun c159 => ?_) (fun c159 => ?_)
    · refine q_ald_n cx dX10_tryToPass_106 rfl (lv_at hl 1 rfl) ?_
      obtain ⟨x160, ex160⟩ : ∃ zz, q_is (q_z f v 8) zz := ⟨_, q_isr _⟩
      refine q_gX10_51_13 cx hB hv kv ex160 dX10_tryToPass_107 (fun lb161 ub161 => ?_)
      refine q_ald_n cx dX10_tryToPass_110 rfl (lv_at hl 1 rfl) ?_
      obtain ⟨x162, ex162⟩ : ∃ zz, q_is (q_z f v 9) zz := ⟨_, q_isr _⟩
      refine q_gX10_54_13 cx hB hv kv ex162 dX10_tryToPass_111 (fun lb163 ub163 => ?_)
      refine q_iadd cx dX10_tryToPass_114 ?_
      refine q_any (fun y164 ry164 ey164 => ?_)
      exact J115 v92_3 (by omega) (by omega) t92_0 (by omega) (by omega) y164 (by omega) (by omega) H locs hB ls (lv_sub hl [1, 2, 3, 0] rfl)
    · refine q_ald_n cx dX10_tryToPass_99 rfl (lv_at hl 1 rfl) ?_
      obtain ⟨x165, ex165⟩ : ∃ zz, q_is (q_z f v 8) zz := ⟨_, q_isr _⟩
      refine q_gX10_51_13 cx hB hv kv ex165 dX10_tryToPass_100 (fun lb166 ub166 => ?_)
      refine lv_goto (tgt := 115) cx.1 cx.2.1 dX10_tryToPass_103 (by decide) ?_
      exact J115 v92_3 (by omega) (by omega) t92_0 (by omega) (by omega) x165 (by omega) (by omega) H locs hB ls (lv_sub hl [1, 2, 3, 0] rfl)
  have J91 : ∀ (v91_3 : Int) (lv91_3 : 0 ≤ v91_3) (uv91_3 : v91_3 ≤ 9) (H : Heap) (locs : List Loc) (hB : q_B g K L (fun q => q ∈ L) [(13, 14, 15), (17, 4, 4), (17, 7, 8), (25, 2, 3), (25, 5, 6)] f f s H locs) (ls : Array Slot) (hl : lv_has ls 8 [(0, .ref v), (1, .ref p0), (3, .int (q_i v91_3))]), W p l e { frames := 2, cells := 0, slots := 0, locals := 50 } s m ([.ref v, .ref p0] : List Value).toArray below meth c H locs 0 0 (MQ below (q_Q g K L [(13, 14, 15), (17, 4, 4), (17, 7, 8), (25, 2, 3), (25, 5, 6)] f (q_Pv (fun (f1 : Nat → va_E) => True))) ([.ref v, .ref p0] : List Value).toArray s 0 0 (fun q => q ∈ L)) (F0 m 91 ls []) := by
    intro v91_3 lv91_3 uv91_3 H locs hB ls hl
    refine q_iconst cx dX10_tryToPass_91 ?_
    exact J92 v91_3 (by omega) (by omega) 0 (by decide) (by decide) H locs hB ls (lv_sub hl [0, 1, 2] rfl)
  have J38 : ∀ (v38_2 : Int) (lv38_2 : 0 ≤ v38_2) (uv38_2 : v38_2 ≤ 1) (H : Heap) (locs : List Loc) (hB : q_B g K L (fun q => q ∈ L) [(13, 14, 15), (17, 4, 4), (17, 7, 8), (25, 2, 3), (25, 5, 6)] f f s H locs) (ls : Array Slot) (hl : lv_has ls 8 [(0, .ref v), (1, .ref p0), (2, .int (q_i v38_2))]), W p l e { frames := 2, cells := 0, slots := 0, locals := 50 } s m ([.ref v, .ref p0] : List Value).toArray below meth c H locs 0 0 (MQ below (q_Q g K L [(13, 14, 15), (17, 4, 4), (17, 7, 8), (25, 2, 3), (25, 5, 6)] f (q_Pv (fun (f1 : Nat → va_E) => True))) ([.ref v, .ref p0] : List Value).toArray s 0 0 (fun q => q ∈ L)) (F0 m 38 ls []) := by
    intro v38_2 lv38_2 uv38_2 H locs hB ls hl
    refine q_ald_n cx dX10_tryToPass_38 rfl (lv_at hl 0 rfl) ?_
    refine q_ald_n cx dX10_tryToPass_39 rfl (lv_at hl 1 rfl) ?_
    obtain ⟨x167, ex167⟩ : ∃ zz, q_is (q_z f p0 2) zz := ⟨_, q_isr _⟩
    refine q_gX10_137_25 cx hB hp0 kp0 ex167 dX10_tryToPass_40 (fun lb168 ub168 => ?_)
    refine q_ald_n cx dX10_tryToPass_43 rfl (lv_at hl 1 rfl) ?_
    obtain ⟨x169, ex169⟩ : ∃ zz, q_is (q_z f p0 1) zz := ⟨_, q_isr _⟩
    refine q_gX10_134_25 cx hB hp0 kp0 ex169 dX10_tryToPass_44 (fun lb170 ub170 => ?_)
    refine q_ald_n cx dX10_tryToPass_47 rfl (lv_at hl 0 rfl) ?_
    refine q_cVi (As := []) (rest := [.int (q_i x169), .int (q_i x167), .ref v]) cx hB (fun _ h => h) hN hv kv (by decide) rfl (g_X10_notOut_1 l g hN hB.2.1 v hv kv) q_cX10_195 q_dX10_notOut (by decide) rfl rfl hl.1 rfl (Nat.le_of_ble_eq_true rfl) dX10_tryToPass_48 (fun y172 H locs f171 ry172 h173 hF hB => ?_)
    obtain rfl := h173
    refine q_cVi (As := [.int (q_i x167), .int (q_i x169), .int (q_i y172)]) (rest := []) cx hB (fun _ h => h) hN hv kv (by decide) rfl (g_X10_nextTowards_1 l g hN hB.2.1 v hv kv x167 (by omega) (by omega) x169 (by omega) (by omega) y172 (by omega) (by omega)) q_cX10_274 q_dX10_nextTowards (by decide) rfl rfl hl.1 rfl (Nat.le_of_ble_eq_true rfl) dX10_tryToPass_51 (fun y175 H locs f174 ry175 h176 hF hB => ?_)
    obtain ⟨rfl, ly175, uy175⟩ := h176
    refine lv_istore_n (lv' := [(3, .int (q_i y175)), (0, .ref v), (1, .ref p0), (2, .int (q_i v38_2))]) cx.1 cx.2.1 dX10_tryToPass_54 rfl hl (by decide) rfl (fun ls hl => ?_)
    refine q_ild_n cx dX10_tryToPass_55 rfl (lv_at hl 0 rfl) ?_
    refine q_iconst cx dX10_tryToPass_56 ?_
    refine q_iceq (tgt := 71) cx ⟨by omega, by omega⟩ ⟨by decide, by decide⟩ dX10_tryToPass_57 (by decide) (fun c177 => ?_) (fun c177 => ?_)
    · exact J71  H locs hB ls (lv_sub hl [] rfl)
    · refine q_ald_n cx dX10_tryToPass_60 rfl (lv_at hl 1 rfl) ?_
      obtain ⟨x178, ex178⟩ : ∃ zz, q_is (q_z f v 15) zz := ⟨_, q_isr _⟩
      refine q_gX10_252_13 cx hB hv kv ex178 dX10_tryToPass_61 (fun lb179 ub179 => ?_)
      refine q_ild_n cx dX10_tryToPass_64 rfl (lv_at hl 0 rfl) ?_
      refine q_cSi (As := [.int (q_i x178), .int (q_i y175)]) (rest := []) cx hB (fun _ h => h) hN (g_X10_has l g hN hB.2.1 x178 (by omega) (by omega) y175 (by omega) (by omega)) q_cX10_181 q_dX10_has (by decide) rfl rfl hl.1 rfl (Nat.le_of_ble_eq_true rfl) dX10_tryToPass_65 (fun y181 H locs f180 ry181 h182 hF hB => ?_)
      obtain ⟨rfl, ly181, uy181⟩ := h182
      refine q_ifeq (tgt := 72) cx ⟨by omega, by omega⟩ dX10_tryToPass_68 (by decide) (fun c183 => ?_) (fun c183 => ?_)
      · refine q_ild_n cx dX10_tryToPass_72 rfl (lv_at hl 3 rfl) ?_
        refine q_ifeq (tgt := 91) cx ⟨by omega, by omega⟩ dX10_tryToPass_73 (by decide) (fun c184 => ?_) (fun c184 => ?_)
        · exact J91 y175 (by omega) (by omega) H locs hB ls (lv_sub hl [1, 2, 0] rfl)
        · refine q_ald_n cx dX10_tryToPass_76 rfl (lv_at hl 1 rfl) ?_
          obtain ⟨x185, ex185⟩ : ∃ zz, q_is (q_z f v 13) zz := ⟨_, q_isr _⟩
          refine q_gX10_262_13 cx hB hv kv ex185 dX10_tryToPass_77 (fun lb186 ub186 => ?_)
          refine q_ild_n cx dX10_tryToPass_80 rfl (lv_at hl 0 rfl) ?_
          refine q_cSi (As := [.int (q_i x185), .int (q_i y175)]) (rest := []) cx hB (fun _ h => h) hN (g_X10_has l g hN hB.2.1 x185 (by omega) (by omega) y175 (by omega) (by omega)) q_cX10_181 q_dX10_has (by decide) rfl rfl hl.1 rfl (Nat.le_of_ble_eq_true rfl) dX10_tryToPass_81 (fun y188 H locs f187 ry188 h189 hF hB => ?_)
          obtain ⟨rfl, ly188, uy188⟩ := h189
          refine q_ifeq (tgt := 91) cx ⟨by omega, by omega⟩ dX10_tryToPass_84 (by decide) (fun c190 => ?_) (fun c190 => ?_)
          · exact J91 y175 (by omega) (by omega) H locs hB ls (lv_sub hl [1, 2, 0] rfl)
          · refine q_iconst cx dX10_tryToPass_87 ?_
            refine lv_goto (tgt := 92) cx.1 cx.2.1 dX10_tryToPass_88 (by decide) ?_
            exact J92 y175 (by omega) (by omega) 1 (by decide) (by decide) H locs hB ls (lv_sub hl [1, 2, 0] rfl)
      · exact J71  H locs hB ls (lv_sub hl [] rfl)
  obtain ⟨H, hH⟩ : ∃ H : Heap, H = s.heap := ⟨_, rfl⟩
  obtain ⟨locs, hlocs⟩ : ∃ z : List Loc, z = [] := ⟨_, rfl⟩
  rw [← hH, ← hlocs] at hB
  rw [← hH, ← hlocs]
  refine q_ald_n cx dX10_tryToPass_0 rfl (lv_at hl 0 rfl) ?_
  obtain ⟨x191, ex191⟩ : ∃ zz, q_is (q_z f v 13) zz := ⟨_, q_isr _⟩
  refine q_gX10_262_13 cx hB hv kv ex191 dX10_tryToPass_1 (fun lb192 ub192 => ?_)
  refine q_ald_n cx dX10_tryToPass_4 rfl (lv_at hl 1 rfl) ?_
  obtain ⟨x193, ex193⟩ : ∃ zz, q_is (q_z f p0 2) zz := ⟨_, q_isr _⟩
  refine q_gX10_137_25 cx hB hp0 kp0 ex193 dX10_tryToPass_5 (fun lb194 ub194 => ?_)
  refine q_cSi (As := [.int (q_i x191), .int (q_i x193)]) (rest := []) cx hB (fun _ h => h) hN (g_X10_has l g hN hB.2.1 x191 (by omega) (by omega) x193 (by omega) (by omega)) q_cX10_181 q_dX10_has (by decide) rfl rfl hl.1 rfl (Nat.le_of_ble_eq_true rfl) dX10_tryToPass_8 (fun y196 H locs f195 ry196 h197 hF hB => ?_)
  obtain ⟨rfl, ly196, uy196⟩ := h197
  refine lv_istore_n (lv' := [(2, .int (q_i y196)), (0, .ref v), (1, .ref p0)]) cx.1 cx.2.1 dX10_tryToPass_11 rfl hl (by decide) rfl (fun ls hl => ?_)
  refine q_ald_n cx dX10_tryToPass_12 rfl (lv_at hl 1 rfl) ?_
  obtain ⟨x198, ex198⟩ : ∃ zz, q_is (q_z f v 14) zz := ⟨_, q_isr _⟩
  refine q_gX10_249_13 cx hB hv kv ex198 dX10_tryToPass_13 (fun lb199 ub199 => ?_)
  refine q_ald_n cx dX10_tryToPass_16 rfl (lv_at hl 2 rfl) ?_
  refine q_gX10_137_25 cx hB hp0 kp0 ex193 dX10_tryToPass_17 (fun lb200 ub200 => ?_)
  refine q_cSi (As := [.int (q_i x198), .int (q_i x193)]) (rest := []) cx hB (fun _ h => h) hN (g_X10_has l g hN hB.2.1 x198 (by omega) (by omega) x193 (by omega) (by omega)) q_cX10_181 q_dX10_has (by decide) rfl rfl hl.1 rfl (Nat.le_of_ble_eq_true rfl) dX10_tryToPass_20 (fun y202 H locs f201 ry202 h203 hF hB => ?_)
  obtain ⟨rfl, ly202, uy202⟩ := h203
  refine q_ifne (tgt := 37) cx ⟨by omega, by omega⟩ dX10_tryToPass_23 (by decide) (fun c204 => ?_) (fun c204 => ?_)
  · exact J37  H locs hB ls (lv_sub hl [] rfl)
  · refine q_ild_n cx dX10_tryToPass_26 rfl (lv_at hl 0 rfl) ?_
    refine q_ifne (tgt := 38) cx ⟨by omega, by omega⟩ dX10_tryToPass_27 (by decide) (fun c205 => ?_) (fun c205 => ?_)
    · exact J38 y196 (by omega) (by omega) H locs hB ls (lv_sub hl [1, 2, 0] rfl)
    · refine q_ald_n cx dX10_tryToPass_30 rfl (lv_at hl 2 rfl) ?_
      obtain ⟨x206, ex206⟩ : ∃ zz, q_is (q_z f p0 7) zz := ⟨_, q_isr _⟩
      refine q_gX10_152_25 cx hB hp0 kp0 ex206 dX10_tryToPass_31 (fun lb207 ub207 => ?_)
      refine q_ifne (tgt := 38) cx ⟨by omega, by omega⟩ dX10_tryToPass_34 (by decide) (fun c208 => ?_) (fun c208 => ?_)
      · exact J38 y196 (by omega) (by omega) H locs hB ls (lv_sub hl [1, 2, 0] rfl)
      · exact J37  H locs hB ls (lv_sub hl [] rfl)
set_option maxHeartbeats 4000000 in
set_option maxRecDepth 100000 in
theorem g_X10_tryToPass_2 (l : Launch) (g : q_G) {K : Nat → Nat} {L : List Nat} (hN : L.Nodup) {f : Nat → va_E} (hT : q_Ty g K L f) (v : Nat) (hv : v ∈ L) (kv : K v = 14) (p0 : Nat) (hp0 : p0 ∈ L) (kp0 : K p0 = 26) : q_Ct l g K L yX10_tryToPass cX10_tryToPass 8 none 2 50 [.ref v, .ref p0] f [(14, 14, 15), (18, 4, 4), (18, 7, 8), (26, 2, 3), (26, 5, 6)] (q_Pv (fun (f1 : Nat → va_E) => True)) := by
  refine q_ofb (by decide +kernel) hN hT (Nat.le_of_ble_eq_true rfl) ?_
  intro p e s m below meth c ls cx hr hlk hB hl
  have hl : lv_has ls 8 [(0, .ref v), (1, .ref p0)] := hl
  have J37 : ∀  (H : Heap) (locs : List Loc) (hB : q_B g K L (fun q => q ∈ L) [(14, 14, 15), (18, 4, 4), (18, 7, 8), (26, 2, 3), (26, 5, 6)] f f s H locs) (ls : Array Slot) (hl : lv_has ls 8 []), W p l e { frames := 2, cells := 0, slots := 0, locals := 50 } s m ([.ref v, .ref p0] : List Value).toArray below meth c H locs 0 0 (MQ below (q_Q g K L [(14, 14, 15), (18, 4, 4), (18, 7, 8), (26, 2, 3), (26, 5, 6)] f (q_Pv (fun (f1 : Nat → va_E) => True))) ([.ref v, .ref p0] : List Value).toArray s 0 0 (fun q => q ∈ L)) (F0 m 37 ls []) := by
    intro  H locs hB ls hl
    refine q_vret cx hr hlk hB dX10_tryToPass_37 ?_
    trivial
  have J71 : ∀  (H : Heap) (locs : List Loc) (hB : q_B g K L (fun q => q ∈ L) [(14, 14, 15), (18, 4, 4), (18, 7, 8), (26, 2, 3), (26, 5, 6)] f f s H locs) (ls : Array Slot) (hl : lv_has ls 8 []), W p l e { frames := 2, cells := 0, slots := 0, locals := 50 } s m ([.ref v, .ref p0] : List Value).toArray below meth c H locs 0 0 (MQ below (q_Q g K L [(14, 14, 15), (18, 4, 4), (18, 7, 8), (26, 2, 3), (26, 5, 6)] f (q_Pv (fun (f1 : Nat → va_E) => True))) ([.ref v, .ref p0] : List Value).toArray s 0 0 (fun q => q ∈ L)) (F0 m 71 ls []) := by
    intro  H locs hB ls hl
    refine q_vret cx hr hlk hB dX10_tryToPass_71 ?_
    trivial
  have J166 : ∀  (H : Heap) (locs : List Loc) (hB : q_B g K L (fun q => q ∈ L) [(14, 14, 15), (18, 4, 4), (18, 7, 8), (26, 2, 3), (26, 5, 6)] f f s H locs) (ls : Array Slot) (hl : lv_has ls 8 []), W p l e { frames := 2, cells := 0, slots := 0, locals := 50 } s m ([.ref v, .ref p0] : List Value).toArray below meth c H locs 0 0 (MQ below (q_Q g K L [(14, 14, 15), (18, 4, 4), (18, 7, 8), (26, 2, 3), (26, 5, 6)] f (q_Pv (fun (f1 : Nat → va_E) => True))) ([.ref v, .ref p0] : List Value).toArray s 0 0 (fun q => q ∈ L)) (F0 m 166 ls []) := by
    intro  H locs hB ls hl
    refine q_vret cx hr hlk hB dX10_tryToPass_166 ?_
    trivial
  have J146 : ∀ (v146_3 : Int) (lv146_3 : 0 ≤ v146_3) (uv146_3 : v146_3 ≤ 9) (v146_5 : Int) (lv146_5 : (-2147483648) ≤ v146_5) (uv146_5 : v146_5 ≤ 2147483647) (v146_6 : Nat) (hv146_6 : v146_6 ∈ L) (kv146_6 : K v146_6 = 18) (v146_7 : Nat) (hv146_7 : v146_7 ∈ L) (kv146_7 : K v146_7 = 18) (H : Heap) (locs : List Loc) (hB : q_B g K L (fun q => q ∈ L) [(14, 14, 15), (18, 4, 4), (18, 7, 8), (26, 2, 3), (26, 5, 6)] f f s H locs) (ls : Array Slot) (hl : lv_has ls 8 [(0, .ref v), (1, .ref p0), (3, .int (q_i v146_3)), (5, .int (q_i v146_5)), (6, .ref v146_6), (7, .ref v146_7)]), W p l e { frames := 2, cells := 0, slots := 0, locals := 50 } s m ([.ref v, .ref p0] : List Value).toArray below meth c H locs 0 0 (MQ below (q_Q g K L [(14, 14, 15), (18, 4, 4), (18, 7, 8), (26, 2, 3), (26, 5, 6)] f (q_Pv (fun (f1 : Nat → va_E) => True))) ([.ref v, .ref p0] : List Value).toArray s 0 0 (fun q => q ∈ L)) (F0 m 146 ls []) := by
    intro v146_3 lv146_3 uv146_3 v146_5 lv146_5 uv146_5 v146_6 hv146_6 kv146_6 v146_7 hv146_7 kv146_7 H locs hB ls hl
    refine lv_aload cx.1 cx.2.1 dX10_tryToPass_146 (lv_at hl 4 rfl) ?_
    obtain ⟨x105, ex105⟩ : ∃ zz, q_is (q_z f v146_6 4) zz := ⟨_, q_isr _⟩
    refine q_gX10_101_18 cx hB hv146_6 kv146_6 ex105 dX10_tryToPass_148 (fun lb106 ub106 => ?_)
    refine lv_iload cx.1 cx.2.1 dX10_tryToPass_151 (lv_at hl 3 rfl) ?_
    refine q_iclt (tgt := 166) cx ⟨by omega, by omega⟩ ⟨by omega, by omega⟩ dX10_tryToPass_153 (by decide) (fun c107 => ?_) (fun c107 => ?_)
    · exact J166  H locs hB ls (lv_sub hl [] rfl)
    · refine lv_aload cx.1 cx.2.1 dX10_tryToPass_156 (lv_at hl 5 rfl) ?_
      obtain ⟨x108, ex108⟩ : ∃ zz, q_is (q_z f v146_7 4) zz := ⟨_, q_isr _⟩
      refine q_gX10_101_18 cx hB hv146_7 kv146_7 ex108 dX10_tryToPass_158 (fun lb109 ub109 => ?_)
      refine lv_iload cx.1 cx.2.1 dX10_tryToPass_161 (lv_at hl 3 rfl) ?_
      refine q_icge (tgt := 167) cx ⟨by omega, by omega⟩ ⟨by omega, by omega⟩ dX10_tryToPass_163 (by decide) (fun c110 => ?_) (fun c110 => ?_)
      · refine lv_aload cx.1 cx.2.1 dX10_tryToPass_167 (lv_at hl 4 rfl) ?_
        refine lv_dup cx.1 cx.2.1 dX10_tryToPass_169 rfl ?_
        refine q_gX10_101_18 cx hB hv146_6 kv146_6 ex105 dX10_tryToPass_170 (fun lb111 ub111 => ?_)
        refine lv_iload cx.1 cx.2.1 dX10_tryToPass_173 (lv_at hl 3 rfl) ?_
        refine q_isub cx dX10_tryToPass_175 ?_
        refine q_any (fun y112 ry112 ey112 => ?_)
        refine q_pX10_101_18 cx hB hv146_6 kv146_6 ⟨by omega, by omega⟩ (by omega) (by omega) rfl dX10_tryToPass_176 (fun H locs f113 ef113 z114 hB => ?_)
        refine lv_aload cx.1 cx.2.1 dX10_tryToPass_179 (lv_at hl 4 rfl) ?_
        refine lv_dup cx.1 cx.2.1 dX10_tryToPass_181 rfl ?_
        obtain ⟨x115, ex115⟩ : ∃ zz, q_is (q_z f113 v146_6 7) zz := ⟨_, q_isr _⟩
        refine q_gX10_110_18 cx hB hv146_6 kv146_6 ex115 dX10_tryToPass_182 (fun lb116 ub116 => ?_)
        refine q_iconst cx dX10_tryToPass_185 ?_
        refine q_iadd cx dX10_tryToPass_186 ?_
        refine q_any (fun y117 ry117 ey117 => ?_)
        refine q_pX10_110_18 cx hB hv146_6 kv146_6 ⟨by omega, by omega⟩ (by omega) (by omega) rfl dX10_tryToPass_187 (fun H locs f118 ef118 z119 hB => ?_)
        refine q_ald_n cx dX10_tryToPass_190 rfl (lv_at hl 0 rfl) ?_
        refine lv_dup cx.1 cx.2.1 dX10_tryToPass_191 rfl ?_
        obtain ⟨x120, ex120⟩ : ∃ zz, q_is (q_z f118 v 14) zz := ⟨_, q_isr _⟩
        refine q_gX10_249_14 cx hB hv kv ex120 dX10_tryToPass_192 (fun lb121 ub121 => ?_)
        refine q_iconst cx dX10_tryToPass_195 ?_
        refine q_ald_n cx dX10_tryToPass_196 rfl (lv_at hl 1 rfl) ?_
        obtain ⟨x122, ex122⟩ : ∃ zz, q_is (q_z f118 p0 2) zz := ⟨_, q_isr _⟩
        refine q_gX10_137_26 cx hB hp0 kp0 ex122 dX10_tryToPass_197 (fun lb123 ub123 => ?_)
        refine q_ishl cx dX10_tryToPass_200 (fun y124 ry124 ey124 => ?_)
        refine q_ior cx dX10_tryToPass_201 (fun y125 ry125 ey125 => ?_)
        refine q_pX10_249_14 cx hB hv kv ⟨by omega, by omega⟩ (by omega) (by omega) rfl dX10_tryToPass_202 (fun H locs f126 ef126 z127 hB => ?_)
        refine lv_aload cx.1 cx.2.1 dX10_tryToPass_205 (lv_at hl 5 rfl) ?_
        refine lv_dup cx.1 cx.2.1 dX10_tryToPass_207 rfl ?_
        obtain ⟨x128, ex128⟩ : ∃ zz, q_is (q_z f126 v146_7 4) zz := ⟨_, q_isr _⟩
        refine q_gX10_101_18 cx hB hv146_7 kv146_7 ex128 dX10_tryToPass_208 (fun lb129 ub129 => ?_)
        refine lv_iload cx.1 cx.2.1 dX10_tryToPass_211 (lv_at hl 3 rfl) ?_
        refine q_isub cx dX10_tryToPass_213 ?_
        refine q_any (fun y130 ry130 ey130 => ?_)
        refine q_pX10_101_18 cx hB hv146_7 kv146_7 ⟨by omega, by omega⟩ (by omega) (by omega) rfl dX10_tryToPass_214 (fun H locs f131 ef131 z132 hB => ?_)
        refine lv_aload cx.1 cx.2.1 dX10_tryToPass_217 (lv_at hl 5 rfl) ?_
        refine lv_dup cx.1 cx.2.1 dX10_tryToPass_219 rfl ?_
        obtain ⟨x133, ex133⟩ : ∃ zz, q_is (q_z f131 v146_7 8) zz := ⟨_, q_isr _⟩
        refine q_gX10_113_18 cx hB hv146_7 kv146_7 ex133 dX10_tryToPass_220 (fun lb134 ub134 => ?_)
        refine q_iconst cx dX10_tryToPass_223 ?_
        refine q_iadd cx dX10_tryToPass_224 ?_
        refine q_any (fun y135 ry135 ey135 => ?_)
        refine q_pX10_113_18 cx hB hv146_7 kv146_7 ⟨by omega, by omega⟩ (by omega) (by omega) rfl dX10_tryToPass_225 (fun H locs f136 ef136 z137 hB => ?_)
        refine q_ald_n cx dX10_tryToPass_228 rfl (lv_at hl 0 rfl) ?_
        refine lv_dup cx.1 cx.2.1 dX10_tryToPass_229 rfl ?_
        obtain ⟨x138, ex138⟩ : ∃ zz, q_is (q_z f136 v 15) zz := ⟨_, q_isr _⟩
        refine q_gX10_252_14 cx hB hv kv ex138 dX10_tryToPass_230 (fun lb139 ub139 => ?_)
        refine q_iconst cx dX10_tryToPass_233 ?_
        refine q_ild_n cx dX10_tryToPass_234 rfl (lv_at hl 2 rfl) ?_
        refine q_ishl cx dX10_tryToPass_235 (fun y140 ry140 ey140 => ?_)
        refine q_ior cx dX10_tryToPass_236 (fun y141 ry141 ey141 => ?_)
        refine q_pX10_252_14 cx hB hv kv ⟨by omega, by omega⟩ (by omega) (by omega) rfl dX10_tryToPass_237 (fun H locs f142 ef142 z143 hB => ?_)
        refine q_ald_n cx dX10_tryToPass_240 rfl (lv_at hl 0 rfl) ?_
        refine q_ald_n cx dX10_tryToPass_241 rfl (lv_at hl 1 rfl) ?_
        refine q_ild_n cx dX10_tryToPass_242 rfl (lv_at hl 2 rfl) ?_
        refine q_cVv (As := [.ref p0, .int (q_i v146_3)]) (rest := []) cx hB (fun _ h => h) hN hv kv (by decide) rfl (g_X10_moveTo_2 l g hN hB.2.1 v hv kv p0 hp0 kp0 v146_3 (by omega) (by omega)) q_cX10_277 q_dX10_moveTo (by decide) rfl rfl hl.1 rfl (Nat.le_of_ble_eq_true rfl) dX10_tryToPass_243 (fun H locs f144 h146 hF hB => ?_)
        refine q_vret cx hr hlk hB dX10_tryToPass_246 ?_
        trivial
      · exact J166  H locs hB ls (lv_sub hl [] rfl)
  have J115 : ∀ (v115_3 : Int) (lv115_3 : 0 ≤ v115_3) (uv115_3 : v115_3 ≤ 9) (v115_4 : Int) (lv115_4 : 0 ≤ v115_4) (uv115_4 : v115_4 ≤ 1) (t115_0 : Int) (lt115_0 : (-2147483648) ≤ t115_0) (ut115_0 : t115_0 ≤ 2147483647) (H : Heap) (locs : List Loc) (hB : q_B g K L (fun q => q ∈ L) [(14, 14, 15), (18, 4, 4), (18, 7, 8), (26, 2, 3), (26, 5, 6)] f f s H locs) (ls : Array Slot) (hl : lv_has ls 8 [(0, .ref v), (1, .ref p0), (3, .int (q_i v115_3)), (4, .int (q_i v115_4))]), W p l e { frames := 2, cells := 0, slots := 0, locals := 50 } s m ([.ref v, .ref p0] : List Value).toArray below meth c H locs 0 0 (MQ below (q_Q g K L [(14, 14, 15), (18, 4, 4), (18, 7, 8), (26, 2, 3), (26, 5, 6)] f (q_Pv (fun (f1 : Nat → va_E) => True))) ([.ref v, .ref p0] : List Value).toArray s 0 0 (fun q => q ∈ L)) (F0 m 115 ls [.int (q_i t115_0)]) := by
    intro v115_3 lv115_3 uv115_3 v115_4 lv115_4 uv115_4 t115_0 lt115_0 ut115_0 H locs hB ls hl
    refine lv_istore (lv' := [(5, .int (q_i t115_0)), (0, .ref v), (1, .ref p0), (3, .int (q_i v115_3)), (4, .int (q_i v115_4))]) cx.1 cx.2.1 dX10_tryToPass_115 hl (by decide) rfl (fun ls hl => ?_)
    refine q_ald_n cx dX10_tryToPass_117 rfl (lv_at hl 1 rfl) ?_
    refine q_ald_n cx dX10_tryToPass_118 rfl (lv_at hl 2 rfl) ?_
    obtain ⟨x147, ex147⟩ : ∃ zz, q_is (q_z f p0 2) zz := ⟨_, q_isr _⟩
    refine q_gX10_137_26 cx hB hp0 kp0 ex147 dX10_tryToPass_119 (fun lb148 ub148 => ?_)
    refine q_cVr (As := [.int (q_i x147)]) (rest := []) cx hB (fun _ h => h) hN hv kv (by decide) rfl (g_X10_nodeAt_2 l g hN hB.2.1 v hv kv x147 (by omega) (by omega)) q_cX10_66 q_dX10_nodeAt (by decide) rfl rfl hl.1 rfl (Nat.le_of_ble_eq_true rfl) dX10_tryToPass_122 (fun y150 H locs f149 h151 hF hB => ?_)
    obtain ⟨rfl, hy150, ky150⟩ := h151
    refine lv_astore (lv' := [(6, .ref y150), (5, .int (q_i t115_0)), (0, .ref v), (1, .ref p0), (3, .int (q_i v115_3)), (4, .int (q_i v115_4))]) cx.1 cx.2.1 dX10_tryToPass_125 hl (by decide) rfl (fun ls hl => ?_)
    refine q_ald_n cx dX10_tryToPass_127 rfl (lv_at hl 2 rfl) ?_
    refine q_ild_n cx dX10_tryToPass_128 rfl (lv_at hl 4 rfl) ?_
    refine q_cVr (As := [.int (q_i v115_3)]) (rest := []) cx hB (fun _ h => h) hN hv kv (by decide) rfl (g_X10_nodeAt_2 l g hN hB.2.1 v hv kv v115_3 (by omega) (by omega)) q_cX10_66 q_dX10_nodeAt (by decide) rfl rfl hl.1 rfl (Nat.le_of_ble_eq_true rfl) dX10_tryToPass_129 (fun y153 H locs f152 h154 hF hB => ?_)
    obtain ⟨rfl, hy153, ky153⟩ := h154
    refine lv_astore (lv' := [(7, .ref y153), (6, .ref y150), (5, .int (q_i t115_0)), (0, .ref v), (1, .ref p0), (3, .int (q_i v115_3)), (4, .int (q_i v115_4))]) cx.1 cx.2.1 dX10_tryToPass_132 hl (by decide) rfl (fun ls hl => ?_)
    refine lv_iload cx.1 cx.2.1 dX10_tryToPass_134 (lv_at hl 6 rfl) ?_
    refine q_ifne (tgt := 146) cx ⟨by omega, by omega⟩ dX10_tryToPass_136 (by decide) (fun c155 => ?_) (fun c155 => ?_)
    · exact J146 v115_3 (by omega) (by omega) t115_0 (by omega) (by omega) y150 hy150 ky150 y153 hy153 ky153 H locs hB ls (lv_sub hl [3, 4, 5, 2, 1, 0] rfl)
    · refine q_ald_n cx dX10_tryToPass_139 rfl (lv_at hl 4 rfl) ?_
      obtain ⟨x156, ex156⟩ : ∃ zz, q_is (q_z f p0 7) zz := ⟨_, q_isr _⟩
      refine q_gX10_152_26 cx hB hp0 kp0 ex156 dX10_tryToPass_140 (fun lb157 ub157 => ?_)
      refine q_ifeq (tgt := 166) cx ⟨by omega, by omega⟩ dX10_tryToPass_143 (by decide) (fun c158 => ?_) (fun c158 => ?_)
      · exact J166  H locs hB ls (lv_sub hl [] rfl)
      · exact J146 v115_3 (by omega) (by omega) t115_0 (by omega) (by omega) y150 hy150 ky150 y153 hy153 ky153 H locs hB ls (lv_sub hl [3, 4, 5, 2, 1, 0] rfl)
  have J92 : ∀ (v92_3 : Int) (lv92_3 : 0 ≤ v92_3) (uv92_3 : v92_3 ≤ 9) (t92_0 : Int) (lt92_0 : 0 ≤ t92_0) (ut92_0 : t92_0 ≤ 1) (H : Heap) (locs : List Loc) (hB : q_B g K L (fun q => q ∈ L) [(14, 14, 15), (18, 4, 4), (18, 7, 8), (26, 2, 3), (26, 5, 6)] f f s H locs) (ls : Array Slot) (hl : lv_has ls 8 [(0, .ref v), (1, .ref p0), (3, .int (q_i v92_3))]), W p l e { frames := 2, cells := 0, slots := 0, locals := 50 } s m ([.ref v, .ref p0] : List Value).toArray below meth c H locs 0 0 (MQ below (q_Q g K L [(14, 14, 15), (18, 4, 4), (18, 7, 8), (26, 2, 3), (26, 5, 6)] f (q_Pv (fun (f1 : Nat → va_E) => True))) ([.ref v, .ref p0] : List Value).toArray s 0 0 (fun q => q ∈ L)) (F0 m 92 ls [.int (q_i t92_0)]) := by
    intro v92_3 lv92_3 uv92_3 t92_0 lt92_0 ut92_0 H locs hB ls hl
    refine lv_istore (lv' := [(4, .int (q_i t92_0)), (0, .ref v), (1, .ref p0), (3, .int (q_i v92_3))]) cx.1 cx.2.1 dX10_tryToPass_92 hl (by decide) rfl (fun ls hl => ?_)
    refine lv_iload cx.1 cx.2.1 dX10_tryToPass_94 (lv_at hl 0 rfl) ?_
    refine q_ifeq (tgt := 106) cx ⟨by omega, by omega⟩ dX10_tryToPass_96 (by decide) (fun c159 => ?_) (fun c159 => ?_)
    · refine q_ald_n cx dX10_tryToPass_106 rfl (lv_at hl 1 rfl) ?_
      obtain ⟨x160, ex160⟩ : ∃ zz, q_is (q_z f v 8) zz := ⟨_, q_isr _⟩
      refine q_gX10_51_14 cx hB hv kv ex160 dX10_tryToPass_107 (fun lb161 ub161 => ?_)
      refine q_ald_n cx dX10_tryToPass_110 rfl (lv_at hl 1 rfl) ?_
      obtain ⟨x162, ex162⟩ : ∃ zz, q_is (q_z f v 9) zz := ⟨_, q_isr _⟩
      refine q_gX10_54_14 cx hB hv kv ex162 dX10_tryToPass_111 (fun lb163 ub163 => ?_)
      refine q_iadd cx dX10_tryToPass_114 ?_
      refine q_any (fun y164 ry164 ey164 => ?_)
      exact J115 v92_3 (by omega) (by omega) t92_0 (by omega) (by omega) y164 (by omega) (by omega) H locs hB ls (lv_sub hl [1, 2, 3, 0] rfl)
    · refine q_ald_n cx dX10_tryToPass_99 rfl (lv_at hl 1 rfl) ?_
      obtain ⟨x165, ex165⟩ : ∃ zz, q_is (q_z f v 8) zz := ⟨_, q_isr _⟩
      refine q_gX10_51_14 cx hB hv kv ex165 dX10_tryToPass_100 (fun lb166 ub166 => ?_)
      refine lv_goto (tgt := 115) cx.1 cx.2.1 dX10_tryToPass_103 (by decide) ?_
      exact J115 v92_3 (by omega) (by omega) t92_0 (by omega) (by omega) x165 (by omega) (by omega) H locs hB ls (lv_sub hl [1, 2, 3, 0] rfl)
  have J91 : ∀ (v91_3 : Int) (lv91_3 : 0 ≤ v91_3) (uv91_3 : v91_3 ≤ 9) (H : Heap) (locs : List Loc) (hB : q_B g K L (fun q => q ∈ L) [(14, 14, 15), (18, 4, 4), (18, 7, 8), (26, 2, 3), (26, 5, 6)] f f s H locs) (ls : Array Slot) (hl : lv_has ls 8 [(0, .ref v), (1, .ref p0), (3, .int (q_i v91_3))]), W p l e { frames := 2, cells := 0, slots := 0, locals := 50 } s m ([.ref v, .ref p0] : List Value).toArray below meth c H locs 0 0 (MQ below (q_Q g K L [(14, 14, 15), (18, 4, 4), (18, 7, 8), (26, 2, 3), (26, 5, 6)] f (q_Pv (fun (f1 : Nat → va_E) => True))) ([.ref v, .ref p0] : List Value).toArray s 0 0 (fun q => q ∈ L)) (F0 m 91 ls []) := by
    intro v91_3 lv91_3 uv91_3 H locs hB ls hl
    refine q_iconst cx dX10_tryToPass_91 ?_
    exact J92 v91_3 (by omega) (by omega) 0 (by decide) (by decide) H locs hB ls (lv_sub hl [0, 1, 2] rfl)
  have J38 : ∀ (v38_2 : Int) (lv38_2 : 0 ≤ v38_2) (uv38_2 : v38_2 ≤ 1) (H : Heap) (locs : List Loc) (hB : q_B g K L (fun q => q ∈ L) [(14, 14, 15), (18, 4, 4), (18, 7, 8), (26, 2, 3), (26, 5, 6)] f f s H locs) (ls : Array Slot) (hl : lv_has ls 8 [(0, .ref v), (1, .ref p0), (2, .int (q_i v38_2))]), W p l e { frames := 2, cells := 0, slots := 0, locals := 50 } s m ([.ref v, .ref p0] : List Value).toArray below meth c H locs 0 0 (MQ below (q_Q g K L [(14, 14, 15), (18, 4, 4), (18, 7, 8), (26, 2, 3), (26, 5, 6)] f (q_Pv (fun (f1 : Nat → va_E) => True))) ([.ref v, .ref p0] : List Value).toArray s 0 0 (fun q => q ∈ L)) (F0 m 38 ls []) := by
    intro v38_2 lv38_2 uv38_2 H locs hB ls hl
    refine q_ald_n cx dX10_tryToPass_38 rfl (lv_at hl 0 rfl) ?_
    refine q_ald_n cx dX10_tryToPass_39 rfl (lv_at hl 1 rfl) ?_
    obtain ⟨x167, ex167⟩ : ∃ zz, q_is (q_z f p0 2) zz := ⟨_, q_isr _⟩
    refine q_gX10_137_26 cx hB hp0 kp0 ex167 dX10_tryToPass_40 (fun lb168 ub168 => ?_)
    refine q_ald_n cx dX10_tryToPass_43 rfl (lv_at hl 1 rfl) ?_
    obtain ⟨x169, ex169⟩ : ∃ zz, q_is (q_z f p0 1) zz := ⟨_, q_isr _⟩
    refine q_gX10_134_26 cx hB hp0 kp0 ex169 dX10_tryToPass_44 (fun lb170 ub170 => ?_)
    refine q_ald_n cx dX10_tryToPass_47 rfl (lv_at hl 0 rfl) ?_
    refine q_cVi (As := []) (rest := [.int (q_i x169), .int (q_i x167), .ref v]) cx hB (fun _ h => h) hN hv kv (by decide) rfl (g_X10_notOut_2 l g hN hB.2.1 v hv kv) q_cX10_195 q_dX10_notOut (by decide) rfl rfl hl.1 rfl (Nat.le_of_ble_eq_true rfl) dX10_tryToPass_48 (fun y172 H locs f171 ry172 h173 hF hB => ?_)
    obtain rfl := h173
    refine q_cVi (As := [.int (q_i x167), .int (q_i x169), .int (q_i y172)]) (rest := []) cx hB (fun _ h => h) hN hv kv (by decide) rfl (g_X10_nextTowards_2 l g hN hB.2.1 v hv kv x167 (by omega) (by omega) x169 (by omega) (by omega) y172 (by omega) (by omega)) q_cX10_274 q_dX10_nextTowards (by decide) rfl rfl hl.1 rfl (Nat.le_of_ble_eq_true rfl) dX10_tryToPass_51 (fun y175 H locs f174 ry175 h176 hF hB => ?_)
    obtain ⟨rfl, ly175, uy175⟩ := h176
    refine lv_istore_n (lv' := [(3, .int (q_i y175)), (0, .ref v), (1, .ref p0), (2, .int (q_i v38_2))]) cx.1 cx.2.1 dX10_tryToPass_54 rfl hl (by decide) rfl (fun ls hl => ?_)
    refine q_ild_n cx dX10_tryToPass_55 rfl (lv_at hl 0 rfl) ?_
    refine q_iconst cx dX10_tryToPass_56 ?_
    refine q_iceq (tgt := 71) cx ⟨by omega, by omega⟩ ⟨by decide, by decide⟩ dX10_tryToPass_57 (by decide) (fun c177 => ?_) (fun c177 => ?_)
    · exact J71  H locs hB ls (lv_sub hl [] rfl)
    · refine q_ald_n cx dX10_tryToPass_60 rfl (lv_at hl 1 rfl) ?_
      obtain ⟨x178, ex178⟩ : ∃ zz, q_is (q_z f v 15) zz := ⟨_, q_isr _⟩
      refine q_gX10_252_14 cx hB hv kv ex178 dX10_tryToPass_61 (fun lb179 ub179 => ?_)
      refine q_ild_n cx dX10_tryToPass_64 rfl (lv_at hl 0 rfl) ?_
      refine q_cSi (As := [.int (q_i x178), .int (q_i y175)]) (rest := []) cx hB (fun _ h => h) hN (g_X10_has l g hN hB.2.1 x178 (by omega) (by omega) y175 (by omega) (by omega)) q_cX10_181 q_dX10_has (by decide) rfl rfl hl.1 rfl (Nat.le_of_ble_eq_true rfl) dX10_tryToPass_65 (fun y181 H locs f180 ry181 h182 hF hB => ?_)
      obtain ⟨rfl, ly181, uy181⟩ := h182
      refine q_ifeq (tgt := 72) cx ⟨by omega, by omega⟩ dX10_tryToPass_68 (by decide) (fun c183 => ?_) (fun c183 => ?_)
      · refine q_ild_n cx dX10_tryToPass_72 rfl (lv_at hl 3 rfl) ?_
        refine q_ifeq (tgt := 91) cx ⟨by omega, by omega⟩ dX10_tryToPass_73 (by decide) (fun c184 => ?_) (fun c184 => ?_)
        · exact J91 y175 (by omega) (by omega) H locs hB ls (lv_sub hl [1, 2, 0] rfl)
        · refine q_ald_n cx dX10_tryToPass_76 rfl (lv_at hl 1 rfl) ?_
          obtain ⟨x185, ex185⟩ : ∃ zz, q_is (q_z f v 13) zz := ⟨_, q_isr _⟩
          refine q_gX10_262_14 cx hB hv kv ex185 dX10_tryToPass_77 (fun lb186 ub186 => ?_)
          refine q_ild_n cx dX10_tryToPass_80 rfl (lv_at hl 0 rfl) ?_
          refine q_cSi (As := [.int (q_i x185), .int (q_i y175)]) (rest := []) cx hB (fun _ h => h) hN (g_X10_has l g hN hB.2.1 x185 (by omega) (by omega) y175 (by omega) (by omega)) q_cX10_181 q_dX10_has (by decide) rfl rfl hl.1 rfl (Nat.le_of_ble_eq_true rfl) dX10_tryToPass_81 (fun y188 H locs f187 ry188 h189 hF hB => ?_)
          obtain ⟨rfl, ly188, uy188⟩ := h189
          refine q_ifeq (tgt := 91) cx ⟨by omega, by omega⟩ dX10_tryToPass_84 (by decide) (fun c190 => ?_) (fun c190 => ?_)
          · exact J91 y175 (by omega) (by omega) H locs hB ls (lv_sub hl [1, 2, 0] rfl)
          · refine q_iconst cx dX10_tryToPass_87 ?_
            refine lv_goto (tgt := 92) cx.1 cx.2.1 dX10_tryToPass_88 (by decide) ?_
            exact J92 y175 (by omega) (by omega) 1 (by decide) (by decide) H locs hB ls (lv_sub hl [1, 2, 0] rfl)
      · exact J71  H locs hB ls (lv_sub hl [] rfl)
  obtain ⟨H, hH⟩ : ∃ H : Heap, H = s.heap := ⟨_, rfl⟩
  obtain ⟨locs, hlocs⟩ : ∃ z : List Loc, z = [] := ⟨_, rfl⟩
  rw [← hH, ← hlocs] at hB
  rw [← hH, ← hlocs]
  refine q_ald_n cx dX10_tryToPass_0 rfl (lv_at hl 0 rfl) ?_
  obtain ⟨x191, ex191⟩ : ∃ zz, q_is (q_z f v 13) zz := ⟨_, q_isr _⟩
  refine q_gX10_262_14 cx hB hv kv ex191 dX10_tryToPass_1 (fun lb192 ub192 => ?_)
  refine q_ald_n cx dX10_tryToPass_4 rfl (lv_at hl 1 rfl) ?_
  obtain ⟨x193, ex193⟩ : ∃ zz, q_is (q_z f p0 2) zz := ⟨_, q_isr _⟩
  refine q_gX10_137_26 cx hB hp0 kp0 ex193 dX10_tryToPass_5 (fun lb194 ub194 => ?_)
  refine q_cSi (As := [.int (q_i x191), .int (q_i x193)]) (rest := []) cx hB (fun _ h => h) hN (g_X10_has l g hN hB.2.1 x191 (by omega) (by omega) x193 (by omega) (by omega)) q_cX10_181 q_dX10_has (by decide) rfl rfl hl.1 rfl (Nat.le_of_ble_eq_true rfl) dX10_tryToPass_8 (fun y196 H locs f195 ry196 h197 hF hB => ?_)
  obtain ⟨rfl, ly196, uy196⟩ := h197
  refine lv_istore_n (lv' := [(2, .int (q_i y196)), (0, .ref v), (1, .ref p0)]) cx.1 cx.2.1 dX10_tryToPass_11 rfl hl (by decide) rfl (fun ls hl => ?_)
  refine q_ald_n cx dX10_tryToPass_12 rfl (lv_at hl 1 rfl) ?_
  obtain ⟨x198, ex198⟩ : ∃ zz, q_is (q_z f v 14) zz := ⟨_, q_isr _⟩
  refine q_gX10_249_14 cx hB hv kv ex198 dX10_tryToPass_13 (fun lb199 ub199 => ?_)
  refine q_ald_n cx dX10_tryToPass_16 rfl (lv_at hl 2 rfl) ?_
  refine q_gX10_137_26 cx hB hp0 kp0 ex193 dX10_tryToPass_17 (fun lb200 ub200 => ?_)
  refine q_cSi (As := [.int (q_i x198), .int (q_i x193)]) (rest := []) cx hB (fun _ h => h) hN (g_X10_has l g hN hB.2.1 x198 (by omega) (by omega) x193 (by omega) (by omega)) q_cX10_181 q_dX10_has (by decide) rfl rfl hl.1 rfl (Nat.le_of_ble_eq_true rfl) dX10_tryToPass_20 (fun y202 H locs f201 ry202 h203 hF hB => ?_)
  obtain ⟨rfl, ly202, uy202⟩ := h203
  refine q_ifne (tgt := 37) cx ⟨by omega, by omega⟩ dX10_tryToPass_23 (by decide) (fun c204 => ?_) (fun c204 => ?_)
  · exact J37  H locs hB ls (lv_sub hl [] rfl)
  · refine q_ild_n cx dX10_tryToPass_26 rfl (lv_at hl 0 rfl) ?_
    refine q_ifne (tgt := 38) cx ⟨by omega, by omega⟩ dX10_tryToPass_27 (by decide) (fun c205 => ?_) (fun c205 => ?_)
    · exact J38 y196 (by omega) (by omega) H locs hB ls (lv_sub hl [1, 2, 0] rfl)
    · refine q_ald_n cx dX10_tryToPass_30 rfl (lv_at hl 2 rfl) ?_
      obtain ⟨x206, ex206⟩ : ∃ zz, q_is (q_z f p0 7) zz := ⟨_, q_isr _⟩
      refine q_gX10_152_26 cx hB hp0 kp0 ex206 dX10_tryToPass_31 (fun lb207 ub207 => ?_)
      refine q_ifne (tgt := 38) cx ⟨by omega, by omega⟩ dX10_tryToPass_34 (by decide) (fun c208 => ?_) (fun c208 => ?_)
      · exact J38 y196 (by omega) (by omega) H locs hB ls (lv_sub hl [1, 2, 0] rfl)
      · exact J37  H locs hB ls (lv_sub hl [] rfl)
