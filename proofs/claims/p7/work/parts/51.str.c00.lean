set_option maxHeartbeats 4000000 in
set_option maxRecDepth 100000 in
theorem s_coder (l : Launch) (g : q_G) (ad : Nat → Nat) {K : Nat → Nat} {L : List Nat} (hN : L.Nodup) {f : Nat → va_E} (hT : q_Ty g K L f) (i : Nat) (hi : i < 15) : q_Xt l g ad K L yJ0_coder_7d493 cJ0_coder_7d493 1 (some .byte) 0 0 0 0 [.ref (ad i)] f [] (q_Pi (fun (z : Int) (f1 : Nat → va_E) => f = f1 ∧ z = 0)) (fun (_ : String) (_ : Nat → va_E) => False) := by
  refine q_xofb (by decide +kernel) hN hT (Nat.le_of_ble_eq_true rfl) ?_
  intro p e s m below meth c ls cx hr hlk htab hX hB hl
  have hl : lv_has ls 1 [(0, .ref (ad i))] := hl
  obtain ⟨H, hH⟩ : ∃ H : Heap, H = s.heap := ⟨_, rfl⟩
  obtain ⟨locs, hlocs⟩ : ∃ z : List Loc, z = [] := ⟨_, rfl⟩
  rw [← hH, ← hlocs] at hB
  rw [← hH, ← hlocs]
  have hS := hX.2.2.2.2.2
  refine va_gets cx.1 cx.2.1 hS.1 hB.1.2.2.2 cx.2.2.2.1 (cx.2.2.2.2 _ q_h956) (fun _ h => h) dJ0_coder_7d493_0 ?_
  refine q_ifeq (tgt := 13) cx ⟨by decide, by decide⟩ dJ0_coder_7d493_3 (by decide) (fun h => absurd h (by decide)) (fun _ => ?_)
  refine q_ald_n cx dJ0_coder_7d493_6 rfl (lv_at hl 0 rfl) ?_
  refine vk_getf cx.1 cx.2.1 (hS.2.2 i hi).2.2.1 hB.1.2.2.2 cx.2.2.2.1 (cx.2.2.2.2 _ q_h2273) (fun _ h => h) dJ0_coder_7d493_7 ?_
  refine lv_goto (tgt := 14) cx.1 cx.2.1 dJ0_coder_7d493_10 (by decide) ?_
  refine W.widen (k := 0) (n := 0) (by decide) (by decide) ?_
  refine vx_ret ?_
  exact W.zret cx.1 cx.2.1 hr (ty := .byte) rfl (q_end hB ⟨0, rfl, ⟨by first | decide | omega, by first | decide | omega⟩, ⟨rfl, rfl⟩⟩) hB.1.2.2.2.2.2 dJ0_coder_7d493_14 hlk
set_option maxHeartbeats 4000000 in
set_option maxRecDepth 100000 in
theorem s_isLatin1 (l : Launch) (g : q_G) (ad : Nat → Nat) {K : Nat → Nat} {L : List Nat} (hN : L.Nodup) {f : Nat → va_E} (hT : q_Ty g K L f) (i : Nat) (hi : i < 15) : q_Xt l g ad K L yJ0_isLatin1_aae02 cJ0_isLatin1_aae02 1 (some .boolean) 0 0 0 0 [.ref (ad i)] f [] (q_Pi (fun (z : Int) (f1 : Nat → va_E) => f = f1 ∧ z = 1)) (fun (_ : String) (_ : Nat → va_E) => False) := by
  refine q_xofb (by decide +kernel) hN hT (Nat.le_of_ble_eq_true rfl) ?_
  intro p e s m below meth c ls cx hr hlk htab hX hB hl
  have hl : lv_has ls 1 [(0, .ref (ad i))] := hl
  obtain ⟨H, hH⟩ : ∃ H : Heap, H = s.heap := ⟨_, rfl⟩
  obtain ⟨locs, hlocs⟩ : ∃ z : List Loc, z = [] := ⟨_, rfl⟩
  rw [← hH, ← hlocs] at hB
  rw [← hH, ← hlocs]
  have hS := hX.2.2.2.2.2
  refine va_gets cx.1 cx.2.1 hS.1 hB.1.2.2.2 cx.2.2.2.1 (cx.2.2.2.2 _ q_h956) (fun _ h => h) dJ0_isLatin1_aae02_0 ?_
  refine q_ifeq (tgt := 17) cx ⟨by decide, by decide⟩ dJ0_isLatin1_aae02_3 (by decide) (fun h => absurd h (by decide)) (fun _ => ?_)
  refine q_ald_n cx dJ0_isLatin1_aae02_6 rfl (lv_at hl 0 rfl) ?_
  refine vk_getf cx.1 cx.2.1 (hS.2.2 i hi).2.2.1 hB.1.2.2.2 cx.2.2.2.1 (cx.2.2.2.2 _ q_h2273) (fun _ h => h) dJ0_isLatin1_aae02_7 ?_
  refine q_ifne (tgt := 17) cx ⟨by decide, by decide⟩ dJ0_isLatin1_aae02_10 (by decide) (fun h => absurd rfl h) (fun _ => ?_)
  refine q_iconst cx dJ0_isLatin1_aae02_13 ?_
  refine lv_goto (tgt := 18) cx.1 cx.2.1 dJ0_isLatin1_aae02_14 (by decide) ?_
  refine W.widen (k := 0) (n := 0) (by decide) (by decide) ?_
  refine vx_ret ?_
  exact W.zret cx.1 cx.2.1 hr (ty := .boolean) rfl (q_end hB ⟨1, rfl, ⟨by first | decide | omega, by first | decide | omega⟩, ⟨rfl, rfl⟩⟩) hB.1.2.2.2.2.2 dJ0_isLatin1_aae02_18 hlk
set_option maxHeartbeats 4000000 in
set_option maxRecDepth 100000 in
theorem s_length (l : Launch) (g : q_G) (ad : Nat → Nat) {K : Nat → Nat} {L : List Nat} (hN : L.Nodup) {f : Nat → va_E} (hT : q_Ty g K L f) (i : Nat) (hi : i < 15) : q_Xt l g ad K L yJ0_length_8abf5 cJ0_length_8abf5 1 (some .int) 1 20 0 0 [.ref (ad i)] f [] (q_Pi (fun (z : Int) (f1 : Nat → va_E) => f = f1 ∧ z = q_sn i)) (fun (_ : String) (_ : Nat → va_E) => False) := by
  refine q_xofb (by decide +kernel) hN hT (Nat.le_of_ble_eq_true rfl) ?_
  intro p e s m below meth c ls cx hr hlk htab hX hB hl
  have hl : lv_has ls 1 [(0, .ref (ad i))] := hl
  obtain ⟨H, hH⟩ : ∃ H : Heap, H = s.heap := ⟨_, rfl⟩
  obtain ⟨locs, hlocs⟩ : ∃ z : List Loc, z = [] := ⟨_, rfl⟩
  rw [← hH, ← hlocs] at hB
  rw [← hH, ← hlocs]
  have hS := hX.2.2.2.2.2
  refine q_ald_n cx dJ0_length_8abf5_0 rfl (lv_at hl 0 rfl) ?_
  refine vk_getf cx.1 cx.2.1 (hS.2.2 i hi).2.2.2.1 hB.1.2.2.2 cx.2.2.2.1 (cx.2.2.2.2 _ q_h2272) (fun _ h => h) dJ0_length_8abf5_1 ?_
  refine va_tlen (v := q_i (q_sn i)) cx.1 cx.2.1 (hS.2.2 i hi).2.2.2.2 hB.1.2.2.2 (q_snv hi) dJ0_length_8abf5_4 ?_
  refine q_ald_n cx dJ0_length_8abf5_5 rfl (lv_at hl 0 rfl) ?_
  refine q_cXT (As := []) (rest := [.int (q_i (q_sn i))]) cx hX hB (fun _ h => h) (fun _ h _ => h) hN (q_srec hX hi hB) (s_coder l g ad hN hB.2.1 i hi) q_cJ0_335 q_dJ0_coder_7d493 (by decide) rfl rfl hl.1 rfl (Nat.le_of_ble_eq_true rfl) dJ0_length_8abf5_6 (fun E9 ce9 q9 H locs fx hex hF hB hcell hcv hcl => ?_) (fun v9 H locs f1 h1 hF hB => ?_)
  · exact hex.elim
  obtain ⟨z, rfl, -, rfl, rfl⟩ := h1
  refine W.eq (g2 := F0 m 9 ls [.int (q_i 0), .int (q_i (q_sn i))]) rfl ?_
  refine lv_ishr cx.1 cx.2.1 dJ0_length_8abf5_9 ?_
  rw [q_sh0]
  refine W.widen (k := 0) (n := 0) (by decide) (by decide) ?_
  refine vx_ret ?_
  exact q_iret cx hr hlk hB dJ0_length_8abf5_10 (q_snR hi) ⟨rfl, rfl⟩
set_option maxHeartbeats 4000000 in
set_option maxRecDepth 100000 in
theorem s_checkN (l : Launch) (g : q_G) (ad : Nat → Nat) {K : Nat → Nat} {L : List Nat} (hN : L.Nodup) {f : Nat → va_E} (hT : q_Ty g K L f) (k n : Int) (hk0 : 0 ≤ k) (hkn : k < n) (hn9 : n ≤ 2147483647) : q_Xt l g ad K L yJ3_checkIndex_8e157 cJ3_checkIndex_8e157 3 (some .int) 0 0 0 0 [.int (q_i k), .int (q_i n), .null] f [] (q_Pi (fun (z : Int) (f1 : Nat → va_E) => f = f1 ∧ z = k)) (fun (_ : String) (_ : Nat → va_E) => False) := by
  refine q_xofb (by decide +kernel) hN hT (Nat.le_of_ble_eq_true rfl) ?_
  intro p e s m below meth c ls cx hr hlk htab hX hB hl
  have hl : lv_has ls 3 [(0, .int (q_i k)), (1, .int (q_i n)), (2, .null)] := hl
  obtain ⟨H, hH⟩ : ∃ H : Heap, H = s.heap := ⟨_, rfl⟩
  obtain ⟨locs, hlocs⟩ : ∃ z : List Loc, z = [] := ⟨_, rfl⟩
  rw [← hH, ← hlocs] at hB
  rw [← hH, ← hlocs]
  have hS := hX.2.2.2.2.2
  refine q_ild_n cx dJ3_checkIndex_8e157_0 rfl (lv_at hl 0 rfl) ?_
  refine q_iflt (tgt := 9) cx ⟨by omega, by omega⟩ dJ3_checkIndex_8e157_1 (by decide) (fun h => absurd h (by omega)) (fun _ => ?_)
  refine q_ild_n cx dJ3_checkIndex_8e157_4 rfl (lv_at hl 0 rfl) ?_
  refine q_ild_n cx dJ3_checkIndex_8e157_5 rfl (lv_at hl 1 rfl) ?_
  refine q_iclt (tgt := 16) cx ⟨by omega, by omega⟩ ⟨by omega, by omega⟩ dJ3_checkIndex_8e157_6 (by decide) (fun _ => ?_) (fun h => absurd h (by omega))
  refine q_ild_n cx dJ3_checkIndex_8e157_16 rfl (lv_at hl 0 rfl) ?_
  refine W.widen (k := 0) (n := 0) (by decide) (by decide) ?_
  refine vx_ret ?_
  exact q_iret cx hr hlk hB dJ3_checkIndex_8e157_17 ⟨by omega, by omega⟩ ⟨rfl, rfl⟩
set_option maxHeartbeats 4000000 in
set_option maxRecDepth 100000 in
theorem s_checkR (l : Launch) (g : q_G) (ad : Nat → Nat) {K : Nat → Nat} {L : List Nat} (hN : L.Nodup) {f : Nat → va_E} (hT : q_Ty g K L f) (k n : Int) (hk0 : 0 ≤ k) (hkn : k < n) (hn9 : n ≤ 2147483647) (t : Nat) : q_Xt l g ad K L yJ3_checkIndex_8e157 cJ3_checkIndex_8e157 3 (some .int) 0 0 0 0 [.int (q_i k), .int (q_i n), .ref t] f [] (q_Pi (fun (z : Int) (f1 : Nat → va_E) => f = f1 ∧ z = k)) (fun (_ : String) (_ : Nat → va_E) => False) := by
  refine q_xofb (by decide +kernel) hN hT (Nat.le_of_ble_eq_true rfl) ?_
  intro p e s m below meth c ls cx hr hlk htab hX hB hl
  have hl : lv_has ls 3 [(0, .int (q_i k)), (1, .int (q_i n)), (2, .ref t)] := hl
  obtain ⟨H, hH⟩ : ∃ H : Heap, H = s.heap := ⟨_, rfl⟩
  obtain ⟨locs, hlocs⟩ : ∃ z : List Loc, z = [] := ⟨_, rfl⟩
  rw [← hH, ← hlocs] at hB
  rw [← hH, ← hlocs]
  have hS := hX.2.2.2.2.2
  refine q_ild_n cx dJ3_checkIndex_8e157_0 rfl (lv_at hl 0 rfl) ?_
  refine q_iflt (tgt := 9) cx ⟨by omega, by omega⟩ dJ3_checkIndex_8e157_1 (by decide) (fun h => absurd h (by omega)) (fun _ => ?_)
  refine q_ild_n cx dJ3_checkIndex_8e157_4 rfl (lv_at hl 0 rfl) ?_
  refine q_ild_n cx dJ3_checkIndex_8e157_5 rfl (lv_at hl 1 rfl) ?_
  refine q_iclt (tgt := 16) cx ⟨by omega, by omega⟩ ⟨by omega, by omega⟩ dJ3_checkIndex_8e157_6 (by decide) (fun _ => ?_) (fun h => absurd h (by omega))
  refine q_ild_n cx dJ3_checkIndex_8e157_16 rfl (lv_at hl 0 rfl) ?_
  refine W.widen (k := 0) (n := 0) (by decide) (by decide) ?_
  refine vx_ret ?_
  exact q_iret cx hr hlk hB dJ3_checkIndex_8e157_17 ⟨by omega, by omega⟩ ⟨rfl, rfl⟩
set_option maxHeartbeats 4000000 in
set_option maxRecDepth 100000 in
theorem s_checkIndex (l : Launch) (g : q_G) (ad : Nat → Nat) {K : Nat → Nat} {L : List Nat} (hN : L.Nodup) {f : Nat → va_E} (hT : q_Ty g K L f) (k n : Int) (hk0 : 0 ≤ k) (hkn : k < n) (hn9 : n ≤ 2147483647) : q_Xt l g ad K L yJ0_checkIndex_df160 cJ0_checkIndex_df160 2 none 1 22 0 0 [.int (q_i k), .int (q_i n)] f [] (q_Pv (fun (f1 : Nat → va_E) => f = f1)) (fun (_ : String) (_ : Nat → va_E) => False) := by
  refine q_xofb (by decide +kernel) hN hT (Nat.le_of_ble_eq_true rfl) ?_
  intro p e s m below meth c ls cx hr hlk htab hX hB hl
  have hl : lv_has ls 2 [(0, .int (q_i k)), (1, .int (q_i n))] := hl
  obtain ⟨H, hH⟩ : ∃ H : Heap, H = s.heap := ⟨_, rfl⟩
  obtain ⟨locs, hlocs⟩ : ∃ z : List Loc, z = [] := ⟨_, rfl⟩
  rw [← hH, ← hlocs] at hB
  rw [← hH, ← hlocs]
  have hS := hX.2.2.2.2.2
  refine q_ild_n cx dJ0_checkIndex_df160_0 rfl (lv_at hl 0 rfl) ?_
  refine q_ild_n cx dJ0_checkIndex_df160_1 rfl (lv_at hl 1 rfl) ?_
  rcases hS.2.1 with hz | ⟨t, hz⟩
  · refine va_gets cx.1 cx.2.1 hz hB.1.2.2.2 cx.2.2.2.1 (cx.2.2.2.2 _ q_h972) (fun _ h => h) dJ0_checkIndex_df160_2 ?_
    refine q_cXS (As := [.int (q_i k), .int (q_i n), .null]) (rest := []) cx hX hB (fun _ h => h) (fun _ h _ => h) hN (s_checkN l g ad hN hB.2.1 k n hk0 hkn hn9) q_cJ0_1059 q_dJ3_checkIndex_8e157 (by decide) rfl rfl hl.1 rfl (Nat.le_of_ble_eq_true rfl) dJ0_checkIndex_df160_5 (fun E9 ce9 q9 H locs fx hex hF hB hcell hcv hcl => ?_) (fun v9 H locs f1 h1 hF hB => ?_)
    · exact hex.elim
    obtain ⟨z, rfl, -, rfl, rfl⟩ := h1
    refine W.eq (g2 := F0 m 8 ls [.int (q_i z)]) rfl ?_
    refine lv_pop cx.1 cx.2.1 dJ0_checkIndex_df160_8 rfl ?_
    refine W.widen (k := 0) (n := 0) (by decide) (by decide) ?_
    refine vx_ret ?_
    exact q_vret cx hr hlk hB dJ0_checkIndex_df160_9 rfl
  · refine va_gets cx.1 cx.2.1 hz hB.1.2.2.2 cx.2.2.2.1 (cx.2.2.2.2 _ q_h972) (fun _ h => h) dJ0_checkIndex_df160_2 ?_
    refine q_cXS (As := [.int (q_i k), .int (q_i n), .ref t]) (rest := []) cx hX hB (fun _ h => h) (fun _ h _ => h) hN (s_checkR l g ad hN hB.2.1 k n hk0 hkn hn9 t) q_cJ0_1059 q_dJ3_checkIndex_8e157 (by decide) rfl rfl hl.1 rfl (Nat.le_of_ble_eq_true rfl) dJ0_checkIndex_df160_5 (fun E9 ce9 q9 H locs fx hex hF hB hcell hcv hcl => ?_) (fun v9 H locs f1 h1 hF hB => ?_)
    · exact hex.elim
    obtain ⟨z, rfl, -, rfl, rfl⟩ := h1
    refine W.eq (g2 := F0 m 8 ls [.int (q_i z)]) rfl ?_
    refine lv_pop cx.1 cx.2.1 dJ0_checkIndex_df160_8 rfl ?_
    refine W.widen (k := 0) (n := 0) (by decide) (by decide) ?_
    refine vx_ret ?_
    exact q_vret cx hr hlk hB dJ0_checkIndex_df160_9 rfl
set_option maxHeartbeats 4000000 in
set_option maxRecDepth 100000 in
theorem s_charAt1 (l : Launch) (g : q_G) (ad : Nat → Nat) {K : Nat → Nat} {L : List Nat} (hN : L.Nodup) {f : Nat → va_E} (hT : q_Ty g K L f) (i : Nat) (hi : i < 15) (k : Int) (hk0 : 0 ≤ k) (hkn : k < q_sn i) : q_Xt l g ad K L yJ1_charAt_3b067 cJ1_charAt_3b067 2 (some .char) 2 43 0 0 [.ref (ad (100 + i)), .int (q_i k)] f [] (q_Pi (fun (z : Int) (f1 : Nat → va_E) => f = f1 ∧ z = q_sc9 i k)) (fun (_ : String) (_ : Nat → va_E) => False) := by
  refine q_xofb (by decide +kernel) hN hT (Nat.le_of_ble_eq_true rfl) ?_
  intro p e s m below meth c ls cx hr hlk htab hX hB hl
  have hl : lv_has ls 2 [(0, .ref (ad (100 + i))), (1, .int (q_i k))] := hl
  obtain ⟨H, hH⟩ : ∃ H : Heap, H = s.heap := ⟨_, rfl⟩
  obtain ⟨locs, hlocs⟩ : ∃ z : List Loc, z = [] := ⟨_, rfl⟩
  rw [← hH, ← hlocs] at hB
  rw [← hH, ← hlocs]
  have hS := hX.2.2.2.2.2
  have hn9 := q_snR hi
  refine q_ild_n cx dJ1_charAt_3b067_0 rfl (lv_at hl 1 rfl) ?_
  refine q_ald_n cx dJ1_charAt_3b067_1 rfl (lv_at hl 0 rfl) ?_
  refine va_tlen (v := q_i (q_sn i)) cx.1 cx.2.1 (hS.2.2 i hi).2.2.2.2 hB.1.2.2.2 (q_snv hi) dJ1_charAt_3b067_2 ?_
  refine q_cXS (As := [.int (q_i k), .int (q_i (q_sn i))]) (rest := []) cx hX hB (fun _ h => h) (fun _ h _ => h) hN (s_checkIndex l g ad hN hB.2.1 k (q_sn i) hk0 hkn hn9.2) q_cJ1_9 q_dJ0_checkIndex_df160 (by decide) rfl rfl hl.1 rfl (Nat.le_of_ble_eq_true rfl) dJ1_charAt_3b067_3 (fun E9 ce9 q9 H locs fx hex hF hB hcell hcv hcl => ?_) (fun v9 H locs f1 h1 hF hB => ?_)
  · exact hex.elim
  obtain ⟨rfl, rfl⟩ := h1
  refine W.eq (g2 := F0 m 6 ls []) rfl ?_
  refine q_ald_n cx dJ1_charAt_3b067_6 rfl (lv_at hl 0 rfl) ?_
  refine q_ild_n cx dJ1_charAt_3b067_7 rfl (lv_at hl 1 rfl) ?_
  refine va_tb cx.1 cx.2.1 (hS.2.2 i hi).2.2.2.2 hB.1.2.2.2 (q_scin hi hk0 hkn) rfl dJ1_charAt_3b067_8 ?_
  refine q_sipush cx dJ1_charAt_3b067_9 rfl ?_
  refine lv_iand cx.1 cx.2.1 dJ1_charAt_3b067_12 ?_
  rw [q_sce hi hk0 hkn]
  refine lv_i2c (v := q_i (q_sc9 i k)) cx.1 cx.2.1 dJ1_charAt_3b067_13 (q_scc hi hk0 hkn).1 ?_
  refine W.widen (k := 0) (n := 0) (by decide) (by decide) ?_
  refine vx_ret ?_
  exact W.zret cx.1 cx.2.1 hr (ty := .char) (q_scc hi hk0 hkn).2.1 (q_end hB ⟨q_sc9 i k, rfl, (q_scc hi hk0 hkn).2.2, ⟨rfl, rfl⟩⟩) hB.1.2.2.2.2.2 dJ1_charAt_3b067_14 hlk
set_option maxHeartbeats 4000000 in
set_option maxRecDepth 100000 in
theorem s_charAt (l : Launch) (g : q_G) (ad : Nat → Nat) {K : Nat → Nat} {L : List Nat} (hN : L.Nodup) {f : Nat → va_E} (hT : q_Ty g K L f) (i : Nat) (hi : i < 15) (k : Int) (hk0 : 0 ≤ k) (hkn : k < q_sn i) : q_Xt l g ad K L yJ0_charAt_5068e cJ0_charAt_5068e 2 (some .char) 3 64 0 0 [.ref (ad i), .int (q_i k)] f [] (q_Pi (fun (z : Int) (f1 : Nat → va_E) => f = f1 ∧ z = q_sc9 i k)) (fun (_ : String) (_ : Nat → va_E) => False) := by
  refine q_xofb (by decide +kernel) hN hT (Nat.le_of_ble_eq_true rfl) ?_
  intro p e s m below meth c ls cx hr hlk htab hX hB hl
  have hl : lv_has ls 2 [(0, .ref (ad i)), (1, .int (q_i k))] := hl
  obtain ⟨H, hH⟩ : ∃ H : Heap, H = s.heap := ⟨_, rfl⟩
  obtain ⟨locs, hlocs⟩ : ∃ z : List Loc, z = [] := ⟨_, rfl⟩
  rw [← hH, ← hlocs] at hB
  rw [← hH, ← hlocs]
  have hS := hX.2.2.2.2.2
  refine q_ald_n cx dJ0_charAt_5068e_0 rfl (lv_at hl 0 rfl) ?_
  refine q_cXT (As := []) (rest := []) cx hX hB (fun _ h => h) (fun _ h _ => h) hN (q_srec hX hi hB) (s_isLatin1 l g ad hN hB.2.1 i hi) q_cJ0_492 q_dJ0_isLatin1_aae02 (by decide) rfl rfl hl.1 rfl (Nat.le_of_ble_eq_true rfl) dJ0_charAt_5068e_1 (fun E9 ce9 q9 H locs fx hex hF hB hcell hcv hcl => ?_) (fun v9 H locs f1 h1 hF hB => ?_)
  · exact hex.elim
  obtain ⟨z, rfl, -, rfl, rfl⟩ := h1
  refine W.eq (g2 := F0 m 4 ls [.int (q_i 1)]) rfl ?_
  refine q_ifeq (tgt := 16) cx ⟨by decide, by decide⟩ dJ0_charAt_5068e_4 (by decide) (fun h => absurd h (by decide)) (fun _ => ?_)
  refine q_ald_n cx dJ0_charAt_5068e_7 rfl (lv_at hl 0 rfl) ?_
  refine vk_getf cx.1 cx.2.1 (hS.2.2 i hi).2.2.2.1 hB.1.2.2.2 cx.2.2.2.1 (cx.2.2.2.2 _ q_h2272) (fun _ h => h) dJ0_charAt_5068e_8 ?_
  refine q_ild_n cx dJ0_charAt_5068e_11 rfl (lv_at hl 1 rfl) ?_
  refine q_cXS (As := [.ref (ad (100 + i)), .int (q_i k)]) (rest := []) cx hX hB (fun _ h => h) (fun _ h _ => h) hN (s_charAt1 l g ad hN hB.2.1 i hi k hk0 hkn) q_cJ0_495 q_dJ1_charAt_3b067 (by decide) rfl rfl hl.1 rfl (Nat.le_of_ble_eq_true rfl) dJ0_charAt_5068e_12 (fun E9 ce9 q9 H locs fx hex hF hB hcell hcv hcl => ?_) (fun v9 H locs f1 h1 hF hB => ?_)
  · exact hex.elim
  obtain ⟨z, rfl, -, rfl, rfl⟩ := h1
  refine W.eq (g2 := F0 m 15 ls [.int (q_i (q_sc9 i k))]) rfl ?_
  refine W.widen (k := 0) (n := 0) (by decide) (by decide) ?_
  refine vx_ret ?_
  exact W.zret cx.1 cx.2.1 hr (ty := .char) (q_scc hi hk0 hkn).2.1 (q_end hB ⟨q_sc9 i k, rfl, (q_scc hi hk0 hkn).2.2, ⟨rfl, rfl⟩⟩) hB.1.2.2.2.2.2 dJ0_charAt_5068e_15 hlk
