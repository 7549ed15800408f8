set_option maxHeartbeats 4000000 in
set_option maxRecDepth 100000 in
theorem g_takeWord_3 (l : Launch) (g : q_G) (ad : Nat → Nat) {K : Nat → Nat} {L : List Nat} (hN : L.Nodup) {f : Nat → va_E} (hT : q_Ty g K L f) (hfl : l.stackTraces = false) (v : Nat) (hv : v ∈ L) (kv : K v = 8) : q_Xt l g ad K L yX8_takeWord cX8_takeWord 2 (some .boolean) 5 107 0 0 [.ref v, .ref (ad 3)] f [(8, 2, 4), (8, 6, 9)] (q_Pi (fun (z : Int) (f1 : Nat → va_E) => 0 ≤ z ∧ z ≤ 1)) (fun (_ : String) (_ : Nat → va_E) => False) := by
  refine q_xofb (by decide +kernel) hN hT (Nat.le_of_ble_eq_true rfl) ?_
  intro p e s m below meth c ls cx hr hlk htab hX hB hl
  have hl : lv_has ls 2 [(0, .ref v), (1, .ref (ad 3))] := hl
  obtain ⟨H, hH⟩ : ∃ H : Heap, H = s.heap := ⟨_, rfl⟩
  obtain ⟨locs, hlocs⟩ : ∃ z : List Loc, z = [] := ⟨_, rfl⟩
  rw [← hH, ← hlocs] at hB
  rw [← hH, ← hlocs]
  refine q_ald_n cx dX8_takeWord_0 rfl (lv_at hl 0 rfl) ?_
  refine q_ald_n cx dX8_takeWord_1 rfl (lv_at hl 1 rfl) ?_
  refine q_cXV (As := [.ref (ad 3)]) (rest := []) cx hX hB (fun _ h => h) (fun _ h _ => h) hN hv kv (by decide) rfl (g_isWord_3 l g ad hN hB.2.1 hfl v hv kv) q_cX8_82 q_dX8_isWord (by decide) rfl rfl hl.1 rfl (Nat.le_of_ble_eq_true rfl) dX8_takeWord_2 (fun E9 ce9 q9 H locs f15 hex hF hB hcell hcv hcl => ?_) (fun v9 H locs f12 h14 hF hB => ?_)
  · exact hex.elim
  · obtain ⟨y13, rfl, ry13, h14⟩ := h14
    refine W.eq (g2 := F0 m 5 ls [.int (q_i y13)]) rfl ?_
    obtain ⟨rfl, ly13, uy13⟩ := h14
    refine q_ifne (tgt := 14) cx ⟨by omega, by omega⟩ dX8_takeWord_5 (by decide) (fun c16 => ?_) (fun c16 => ?_)
    · refine q_ald_n cx dX8_takeWord_14 rfl (lv_at hl 0 rfl) ?_
      refine q_cVv (As := []) (rest := []) cx hB (fun _ h => h) hN hv kv (by decide) rfl (g_X8_advance l g hN hB.2.1 v hv kv) q_cX8_30 q_dX8_advance (by decide) rfl rfl hl.1 rfl (Nat.le_of_ble_eq_true rfl) dX8_takeWord_15 (fun H locs f17 h19 hF hB => ?_)
      refine q_iconst cx dX8_takeWord_18 ?_
      refine W.widen (k := 0) (n := 0) (by decide) (by decide) ?_
      refine vx_ret ?_
      refine q_zret cx hr hlk hB dX8_takeWord_19 (by decide) (by decide) ?_
      exact ⟨(by decide), (by decide)⟩
    · refine q_ald_n cx dX8_takeWord_8 rfl (lv_at hl 0 rfl) ?_
      refine q_iconst cx dX8_takeWord_9 ?_
      refine q_cVi (As := [.int (q_i 1)]) (rest := []) cx hB (fun _ h => h) hN hv kv (by decide) rfl (g_X8_fail l g hN hB.2.1 v hv kv 1 (by decide) (by decide)) q_cX8_79 q_dX8_fail (by decide) rfl rfl hl.1 rfl (Nat.le_of_ble_eq_true rfl) dX8_takeWord_10 (fun y21 H locs f20 ry21 h22 hF hB => ?_)
      obtain ⟨ly21, uy21⟩ := h22
      refine W.widen (k := 0) (n := 0) (by decide) (by decide) ?_
      refine vx_ret ?_
      refine q_zret cx hr hlk hB dX8_takeWord_13 (by omega) (by omega) ?_
      exact ⟨(by omega), (by omega)⟩
set_option maxHeartbeats 4000000 in
set_option maxRecDepth 100000 in
theorem g_takeWord_4 (l : Launch) (g : q_G) (ad : Nat → Nat) {K : Nat → Nat} {L : List Nat} (hN : L.Nodup) {f : Nat → va_E} (hT : q_Ty g K L f) (hfl : l.stackTraces = false) (v : Nat) (hv : v ∈ L) (kv : K v = 8) : q_Xt l g ad K L yX8_takeWord cX8_takeWord 2 (some .boolean) 5 107 0 0 [.ref v, .ref (ad 4)] f [(8, 2, 4), (8, 6, 9)] (q_Pi (fun (z : Int) (f1 : Nat → va_E) => 0 ≤ z ∧ z ≤ 1)) (fun (_ : String) (_ : Nat → va_E) => False) := by
  refine q_xofb (by decide +kernel) hN hT (Nat.le_of_ble_eq_true rfl) ?_
  intro p e s m below meth c ls cx hr hlk htab hX hB hl
  have hl : lv_has ls 2 [(0, .ref v), (1, .ref (ad 4))] := hl
  obtain ⟨H, hH⟩ : ∃ H : Heap, H = s.heap := ⟨_, rfl⟩
  obtain ⟨locs, hlocs⟩ : ∃ z : List Loc, z = [] := ⟨_, rfl⟩
  rw [← hH, ← hlocs] at hB
  rw [← hH, ← hlocs]
  refine q_ald_n cx dX8_takeWord_0 rfl (lv_at hl 0 rfl) ?_
  refine q_ald_n cx dX8_takeWord_1 rfl (lv_at hl 1 rfl) ?_
  refine q_cXV (As := [.ref (ad 4)]) (rest := []) cx hX hB (fun _ h => h) (fun _ h _ => h) hN hv kv (by decide) rfl (g_isWord_4 l g ad hN hB.2.1 hfl v hv kv) q_cX8_82 q_dX8_isWord (by decide) rfl rfl hl.1 rfl (Nat.le_of_ble_eq_true rfl) dX8_takeWord_2 (fun E9 ce9 q9 H locs f15 hex hF hB hcell hcv hcl => ?_) (fun v9 H locs f12 h14 hF hB => ?_)
  · exact hex.elim
  · obtain ⟨y13, rfl, ry13, h14⟩ := h14
    refine W.eq (g2 := F0 m 5 ls [.int (q_i y13)]) rfl ?_
    obtain ⟨rfl, ly13, uy13⟩ := h14
    refine q_ifne (tgt := 14) cx ⟨by omega, by omega⟩ dX8_takeWord_5 (by decide) (fun c16 => ?_) (fun c16 => ?_)
    · refine q_ald_n cx dX8_takeWord_14 rfl (lv_at hl 0 rfl) ?_
      refine q_cVv (As := []) (rest := []) cx hB (fun _ h => h) hN hv kv (by decide) rfl (g_X8_advance l g hN hB.2.1 v hv kv) q_cX8_30 q_dX8_advance (by decide) rfl rfl hl.1 rfl (Nat.le_of_ble_eq_true rfl) dX8_takeWord_15 (fun H locs f17 h19 hF hB => ?_)
      refine q_iconst cx dX8_takeWord_18 ?_
      refine W.widen (k := 0) (n := 0) (by decide) (by decide) ?_
      refine vx_ret ?_
      refine q_zret cx hr hlk hB dX8_takeWord_19 (by decide) (by decide) ?_
      exact ⟨(by decide), (by decide)⟩
    · refine q_ald_n cx dX8_takeWord_8 rfl (lv_at hl 0 rfl) ?_
      refine q_iconst cx dX8_takeWord_9 ?_
      refine q_cVi (As := [.int (q_i 1)]) (rest := []) cx hB (fun _ h => h) hN hv kv (by decide) rfl (g_X8_fail l g hN hB.2.1 v hv kv 1 (by decide) (by decide)) q_cX8_79 q_dX8_fail (by decide) rfl rfl hl.1 rfl (Nat.le_of_ble_eq_true rfl) dX8_takeWord_10 (fun y21 H locs f20 ry21 h22 hF hB => ?_)
      obtain ⟨ly21, uy21⟩ := h22
      refine W.widen (k := 0) (n := 0) (by decide) (by decide) ?_
      refine vx_ret ?_
      refine q_zret cx hr hlk hB dX8_takeWord_13 (by omega) (by omega) ?_
      exact ⟨(by omega), (by omega)⟩
set_option maxHeartbeats 4000000 in
set_option maxRecDepth 100000 in
theorem g_takeWord_5 (l : Launch) (g : q_G) (ad : Nat → Nat) {K : Nat → Nat} {L : List Nat} (hN : L.Nodup) {f : Nat → va_E} (hT : q_Ty g K L f) (hfl : l.stackTraces = false) (v : Nat) (hv : v ∈ L) (kv : K v = 8) : q_Xt l g ad K L yX8_takeWord cX8_takeWord 2 (some .boolean) 5 107 0 0 [.ref v, .ref (ad 5)] f [(8, 2, 4), (8, 6, 9)] (q_Pi (fun (z : Int) (f1 : Nat → va_E) => 0 ≤ z ∧ z ≤ 1)) (fun (_ : String) (_ : Nat → va_E) => False) := by
  refine q_xofb (by decide +kernel) hN hT (Nat.le_of_ble_eq_true rfl) ?_
  intro p e s m below meth c ls cx hr hlk htab hX hB hl
  have hl : lv_has ls 2 [(0, .ref v), (1, .ref (ad 5))] := hl
  obtain ⟨H, hH⟩ : ∃ H : Heap, H = s.heap := ⟨_, rfl⟩
  obtain ⟨locs, hlocs⟩ : ∃ z : List Loc, z = [] := ⟨_, rfl⟩
  rw [← hH, ← hlocs] at hB
  rw [← hH, ← hlocs]
  refine q_ald_n cx dX8_takeWord_0 rfl (lv_at hl 0 rfl) ?_
  refine q_ald_n cx dX8_takeWord_1 rfl (lv_at hl 1 rfl) ?_
  refine q_cXV (As := [.ref (ad 5)]) (rest := []) cx hX hB (fun _ h => h) (fun _ h _ => h) hN hv kv (by decide) rfl (g_isWord_5 l g ad hN hB.2.1 hfl v hv kv) q_cX8_82 q_dX8_isWord (by decide) rfl rfl hl.1 rfl (Nat.le_of_ble_eq_true rfl) dX8_takeWord_2 (fun E9 ce9 q9 H locs f15 hex hF hB hcell hcv hcl => ?_) (fun v9 H locs f12 h14 hF hB => ?_)
  · exact hex.elim
  · obtain ⟨y13, rfl, ry13, h14⟩ := h14
    refine W.eq (g2 := F0 m 5 ls [.int (q_i y13)]) rfl ?_
    obtain ⟨rfl, ly13, uy13⟩ := h14
    refine q_ifne (tgt := 14) cx ⟨by omega, by omega⟩ dX8_takeWord_5 (by decide) (fun c16 => ?_) (fun c16 => ?_)
    · refine q_ald_n cx dX8_takeWord_14 rfl (lv_at hl 0 rfl) ?_
      refine q_cVv (As := []) (rest := []) cx hB (fun _ h => h) hN hv kv (by decide) rfl (g_X8_advance l g hN hB.2.1 v hv kv) q_cX8_30 q_dX8_advance (by decide) rfl rfl hl.1 rfl (Nat.le_of_ble_eq_true rfl) dX8_takeWord_15 (fun H locs f17 h19 hF hB => ?_)
      refine q_iconst cx dX8_takeWord_18 ?_
      refine W.widen (k := 0) (n := 0) (by decide) (by decide) ?_
      refine vx_ret ?_
      refine q_zret cx hr hlk hB dX8_takeWord_19 (by decide) (by decide) ?_
      exact ⟨(by decide), (by decide)⟩
    · refine q_ald_n cx dX8_takeWord_8 rfl (lv_at hl 0 rfl) ?_
      refine q_iconst cx dX8_takeWord_9 ?_
      refine q_cVi (As := [.int (q_i 1)]) (rest := []) cx hB (fun _ h => h) hN hv kv (by decide) rfl (g_X8_fail l g hN hB.2.1 v hv kv 1 (by decide) (by decide)) q_cX8_79 q_dX8_fail (by decide) rfl rfl hl.1 rfl (Nat.le_of_ble_eq_true rfl) dX8_takeWord_10 (fun y21 H locs f20 ry21 h22 hF hB => ?_)
      obtain ⟨ly21, uy21⟩ := h22
      refine W.widen (k := 0) (n := 0) (by decide) (by decide) ?_
      refine vx_ret ?_
      refine q_zret cx hr hlk hB dX8_takeWord_13 (by omega) (by omega) ?_
      exact ⟨(by omega), (by omega)⟩
set_option maxHeartbeats 4000000 in
set_option maxRecDepth 100000 in
theorem g_takeWord_6 (l : Launch) (g : q_G) (ad : Nat → Nat) {K : Nat → Nat} {L : List Nat} (hN : L.Nodup) {f : Nat → va_E} (hT : q_Ty g K L f) (hfl : l.stackTraces = false) (v : Nat) (hv : v ∈ L) (kv : K v = 8) : q_Xt l g ad K L yX8_takeWord cX8_takeWord 2 (some .boolean) 5 107 0 0 [.ref v, .ref (ad 6)] f [(8, 2, 4), (8, 6, 9)] (q_Pi (fun (z : Int) (f1 : Nat → va_E) => 0 ≤ z ∧ z ≤ 1)) (fun (_ : String) (_ : Nat → va_E) => False) := by
  refine q_xofb (by decide +kernel) hN hT (Nat.le_of_ble_eq_true rfl) ?_
  intro p e s m below meth c ls cx hr hlk htab hX hB hl
  have hl : lv_has ls 2 [(0, .ref v), (1, .ref (ad 6))] := hl
  obtain ⟨H, hH⟩ : ∃ H : Heap, H = s.heap := ⟨_, rfl⟩
  obtain ⟨locs, hlocs⟩ : ∃ z : List Loc, z = [] := ⟨_, rfl⟩
  rw [← hH, ← hlocs] at hB
  rw [← hH, ← hlocs]
  refine q_ald_n cx dX8_takeWord_0 rfl (lv_at hl 0 rfl) ?_
  refine q_ald_n cx dX8_takeWord_1 rfl (lv_at hl 1 rfl) ?_
  refine q_cXV (As := [.ref (ad 6)]) (rest := []) cx hX hB (fun _ h => h) (fun _ h _ => h) hN hv kv (by decide) rfl (g_isWord_6 l g ad hN hB.2.1 hfl v hv kv) q_cX8_82 q_dX8_isWord (by decide) rfl rfl hl.1 rfl (Nat.le_of_ble_eq_true rfl) dX8_takeWord_2 (fun E9 ce9 q9 H locs f15 hex hF hB hcell hcv hcl => ?_) (fun v9 H locs f12 h14 hF hB => ?_)
  · exact hex.elim
  · obtain ⟨y13, rfl, ry13, h14⟩ := h14
    refine W.eq (g2 := F0 m 5 ls [.int (q_i y13)]) rfl ?_
    obtain ⟨rfl, ly13, uy13⟩ := h14
    refine q_ifne (tgt := 14) cx ⟨by omega, by omega⟩ dX8_takeWord_5 (by decide) (fun c16 => ?_) (fun c16 => ?_)
    · refine q_ald_n cx dX8_takeWord_14 rfl (lv_at hl 0 rfl) ?_
      refine q_cVv (As := []) (rest := []) cx hB (fun _ h => h) hN hv kv (by decide) rfl (g_X8_advance l g hN hB.2.1 v hv kv) q_cX8_30 q_dX8_advance (by decide) rfl rfl hl.1 rfl (Nat.le_of_ble_eq_true rfl) dX8_takeWord_15 (fun H locs f17 h19 hF hB => ?_)
      refine q_iconst cx dX8_takeWord_18 ?_
      refine W.widen (k := 0) (n := 0) (by decide) (by decide) ?_
      refine vx_ret ?_
      refine q_zret cx hr hlk hB dX8_takeWord_19 (by decide) (by decide) ?_
      exact ⟨(by decide), (by decide)⟩
    · refine q_ald_n cx dX8_takeWord_8 rfl (lv_at hl 0 rfl) ?_
      refine q_iconst cx dX8_takeWord_9 ?_
      refine q_cVi (As := [.int (q_i 1)]) (rest := []) cx hB (fun _ h => h) hN hv kv (by decide) rfl (g_X8_fail l g hN hB.2.1 v hv kv 1 (by decide) (by decide)) q_cX8_79 q_dX8_fail (by decide) rfl rfl hl.1 rfl (Nat.le_of_ble_eq_true rfl) dX8_takeWord_10 (fun y21 H locs f20 ry21 h22 hF hB => ?_)
      obtain ⟨ly21, uy21⟩ := h22
      refine W.widen (k := 0) (n := 0) (by decide) (by decide) ?_
      refine vx_ret ?_
      refine q_zret cx hr hlk hB dX8_takeWord_13 (by omega) (by omega) ?_
      exact ⟨(by omega), (by omega)⟩
set_option maxHeartbeats 4000000 in
set_option maxRecDepth 100000 in
theorem g_takeWord_7 (l : Launch) (g : q_G) (ad : Nat → Nat) {K : Nat → Nat} {L : List Nat} (hN : L.Nodup) {f : Nat → va_E} (hT : q_Ty g K L f) (hfl : l.stackTraces = false) (v : Nat) (hv : v ∈ L) (kv : K v = 8) : q_Xt l g ad K L yX8_takeWord cX8_takeWord 2 (some .boolean) 5 107 0 0 [.ref v, .ref (ad 7)] f [(8, 2, 4), (8, 6, 9)] (q_Pi (fun (z : Int) (f1 : Nat → va_E) => 0 ≤ z ∧ z ≤ 1)) (fun (_ : String) (_ : Nat → va_E) => False) := by
  refine q_xofb (by decide +kernel) hN hT (Nat.le_of_ble_eq_true rfl) ?_
  intro p e s m below meth c ls cx hr hlk htab hX hB hl
  have hl : lv_has ls 2 [(0, .ref v), (1, .ref (ad 7))] := hl
  obtain ⟨H, hH⟩ : ∃ H : Heap, H = s.heap := ⟨_, rfl⟩
  obtain ⟨locs, hlocs⟩ : ∃ z : List Loc, z = [] := ⟨_, rfl⟩
  rw [← hH, ← hlocs] at hB
  rw [← hH, ← hlocs]
  refine q_ald_n cx dX8_takeWord_0 rfl (lv_at hl 0 rfl) ?_
  refine q_ald_n cx dX8_takeWord_1 rfl (lv_at hl 1 rfl) ?_
  refine q_cXV (As := [.ref (ad 7)]) (rest := []) cx hX hB (fun _ h => h) (fun _ h _ => h) hN hv kv (by decide) rfl (g_isWord_7 l g ad hN hB.2.1 hfl v hv kv) q_cX8_82 q_dX8_isWord (by decide) rfl rfl hl.1 rfl (Nat.le_of_ble_eq_true rfl) dX8_takeWord_2 (fun E9 ce9 q9 H locs f15 hex hF hB hcell hcv hcl => ?_) (fun v9 H locs f12 h14 hF hB => ?_)
  · exact hex.elim
  · obtain ⟨y13, rfl, ry13, h14⟩ := h14
    refine W.eq (g2 := F0 m 5 ls [.int (q_i y13)]) rfl ?_
    obtain ⟨rfl, ly13, uy13⟩ := h14
    refine q_ifne (tgt := 14) cx ⟨by omega, by omega⟩ dX8_takeWord_5 (by decide) (fun c16 => ?_) (fun c16 => ?_)
    · refine q_ald_n cx dX8_takeWord_14 rfl (lv_at hl 0 rfl) ?_
      refine q_cVv (As := []) (rest := []) cx hB (fun _ h => h) hN hv kv (by decide) rfl (g_X8_advance l g hN hB.2.1 v hv kv) q_cX8_30 q_dX8_advance (by decide) rfl rfl hl.1 rfl (Nat.le_of_ble_eq_true rfl) dX8_takeWord_15 (fun H locs f17 h19 hF hB => ?_)
      refine q_iconst cx dX8_takeWord_18 ?_
      refine W.widen (k := 0) (n := 0) (by decide) (by decide) ?_
      refine vx_ret ?_
      refine q_zret cx hr hlk hB dX8_takeWord_19 (by decide) (by decide) ?_
      exact ⟨(by decide), (by decide)⟩
    · refine q_ald_n cx dX8_takeWord_8 rfl (lv_at hl 0 rfl) ?_
      refine q_iconst cx dX8_takeWord_9 ?_
      refine q_cVi (As := [.int (q_i 1)]) (rest := []) cx hB (fun _ h => h) hN hv kv (by decide) rfl (g_X8_fail l g hN hB.2.1 v hv kv 1 (by decide) (by decide)) q_cX8_79 q_dX8_fail (by decide) rfl rfl hl.1 rfl (Nat.le_of_ble_eq_true rfl) dX8_takeWord_10 (fun y21 H locs f20 ry21 h22 hF hB => ?_)
      obtain ⟨ly21, uy21⟩ := h22
      refine W.widen (k := 0) (n := 0) (by decide) (by decide) ?_
      refine vx_ret ?_
      refine q_zret cx hr hlk hB dX8_takeWord_13 (by omega) (by omega) ?_
      exact ⟨(by omega), (by omega)⟩
set_option maxHeartbeats 4000000 in
set_option maxRecDepth 100000 in
theorem g_takeWord_8 (l : Launch) (g : q_G) (ad : Nat → Nat) {K : Nat → Nat} {L : List Nat} (hN : L.Nodup) {f : Nat → va_E} (hT : q_Ty g K L f) (hfl : l.stackTraces = false) (v : Nat) (hv : v ∈ L) (kv : K v = 8) : q_Xt l g ad K L yX8_takeWord cX8_takeWord 2 (some .boolean) 5 107 0 0 [.ref v, .ref (ad 8)] f [(8, 2, 4), (8, 6, 9)] (q_Pi (fun (z : Int) (f1 : Nat → va_E) => 0 ≤ z ∧ z ≤ 1)) (fun (_ : String) (_ : Nat → va_E) => False) := by
  refine q_xofb (by decide +kernel) hN hT (Nat.le_of_ble_eq_true rfl) ?_
  intro p e s m below meth c ls cx hr hlk htab hX hB hl
  have hl : lv_has ls 2 [(0, .ref v), (1, .ref (ad 8))] := hl
  obtain ⟨H, hH⟩ : ∃ H : Heap, H = s.heap := ⟨_, rfl⟩
  obtain ⟨locs, hlocs⟩ : ∃ z : List Loc, z = [] := ⟨_, rfl⟩
  rw [← hH, ← hlocs] at hB
  rw [← hH, ← hlocs]
  refine q_ald_n cx dX8_takeWord_0 rfl (lv_at hl 0 rfl) ?_
  refine q_ald_n cx dX8_takeWord_1 rfl (lv_at hl 1 rfl) ?_
  refine q_cXV (As := [.ref (ad 8)]) (rest := []) cx hX hB (fun _ h => h) (fun _ h _ => h) hN hv kv (by decide) rfl (g_isWord_8 l g ad hN hB.2.1 hfl v hv kv) q_cX8_82 q_dX8_isWord (by decide) rfl rfl hl.1 rfl (Nat.le_of_ble_eq_true rfl) dX8_takeWord_2 (fun E9 ce9 q9 H locs f15 hex hF hB hcell hcv hcl => ?_) (fun v9 H locs f12 h14 hF hB => ?_)
  · exact hex.elim
  · obtain ⟨y13, rfl, ry13, h14⟩ := h14
    refine W.eq (g2 := F0 m 5 ls [.int (q_i y13)]) rfl ?_
    obtain ⟨rfl, ly13, uy13⟩ := h14
    refine q_ifne (tgt := 14) cx ⟨by omega, by omega⟩ dX8_takeWord_5 (by decide) (fun c16 => ?_) (fun c16 => ?_)
    · refine q_ald_n cx dX8_takeWord_14 rfl (lv_at hl 0 rfl) ?_
      refine q_cVv (As := []) (rest := []) cx hB (fun _ h => h) hN hv kv (by decide) rfl (g_X8_advance l g hN hB.2.1 v hv kv) q_cX8_30 q_dX8_advance (by decide) rfl rfl hl.1 rfl (Nat.le_of_ble_eq_true rfl) dX8_takeWord_15 (fun H locs f17 h19 hF hB => ?_)
      refine q_iconst cx dX8_takeWord_18 ?_
      refine W.widen (k := 0) (n := 0) (by decide) (by decide) ?_
      refine vx_ret ?_
      refine q_zret cx hr hlk hB dX8_takeWord_19 (by decide) (by decide) ?_
      exact ⟨(by decide), (by decide)⟩
    · refine q_ald_n cx dX8_takeWord_8 rfl (lv_at hl 0 rfl) ?_
      refine q_iconst cx dX8_takeWord_9 ?_
      refine q_cVi (As := [.int (q_i 1)]) (rest := []) cx hB (fun _ h => h) hN hv kv (by decide) rfl (g_X8_fail l g hN hB.2.1 v hv kv 1 (by decide) (by decide)) q_cX8_79 q_dX8_fail (by decide) rfl rfl hl.1 rfl (Nat.le_of_ble_eq_true rfl) dX8_takeWord_10 (fun y21 H locs f20 ry21 h22 hF hB => ?_)
      obtain ⟨ly21, uy21⟩ := h22
      refine W.widen (k := 0) (n := 0) (by decide) (by decide) ?_
      refine vx_ret ?_
      refine q_zret cx hr hlk hB dX8_takeWord_13 (by omega) (by omega) ?_
      exact ⟨(by omega), (by omega)⟩
set_option maxHeartbeats 4000000 in
set_option maxRecDepth 100000 in
theorem g_takeWord_9 (l : Launch) (g : q_G) (ad : Nat → Nat) {K : Nat → Nat} {L : List Nat} (hN : L.Nodup) {f : Nat → va_E} (hT : q_Ty g K L f) (hfl : l.stackTraces = false) (v : Nat) (hv : v ∈ L) (kv : K v = 8) : q_Xt l g ad K L yX8_takeWord cX8_takeWord 2 (some .boolean) 5 107 0 0 [.ref v, .ref (ad 9)] f [(8, 2, 4), (8, 6, 9)] (q_Pi (fun (z : Int) (f1 : Nat → va_E) => 0 ≤ z ∧ z ≤ 1)) (fun (_ : String) (_ : Nat → va_E) => False) := by
  refine q_xofb (by decide +kernel) hN hT (Nat.le_of_ble_eq_true rfl) ?_
  intro p e s m below meth c ls cx hr hlk htab hX hB hl
  have hl : lv_has ls 2 [(0, .ref v), (1, .ref (ad 9))] := hl
  obtain ⟨H, hH⟩ : ∃ H : Heap, H = s.heap := ⟨_, rfl⟩
  obtain ⟨locs, hlocs⟩ : ∃ z : List Loc, z = [] := ⟨_, rfl⟩
  rw [← hH, ← hlocs] at hB
  rw [← hH, ← hlocs]
  refine q_ald_n cx dX8_takeWord_0 rfl (lv_at hl 0 rfl) ?_
  refine q_ald_n cx dX8_takeWord_1 rfl (lv_at hl 1 rfl) ?_
  refine q_cXV (As := [.ref (ad 9)]) (rest := []) cx hX hB (fun _ h => h) (fun _ h _ => h) hN hv kv (by decide) rfl (g_isWord_9 l g ad hN hB.2.1 hfl v hv kv) q_cX8_82 q_dX8_isWord (by decide) rfl rfl hl.1 rfl (Nat.le_of_ble_eq_true rfl) dX8_takeWord_2 (fun E9 ce9 q9 H locs f15 hex hF hB hcell hcv hcl => ?_) (fun v9 H locs f12 h14 hF hB => ?_)
  · exact hex.elim
  · obtain ⟨y13, rfl, ry13, h14⟩ := h14
    refine W.eq (g2 := F0 m 5 ls [.int (q_i y13)]) rfl ?_
    obtain ⟨rfl, ly13, uy13⟩ := h14
    refine q_ifne (tgt := 14) cx ⟨by omega, by omega⟩ dX8_takeWord_5 (by decide) (fun c16 => ?_) (fun c16 => ?_)
    · refine q_ald_n cx dX8_takeWord_14 rfl (lv_at hl 0 rfl) ?_
      refine q_cVv (As := []) (rest := []) cx hB (fun _ h => h) hN hv kv (by decide) rfl (g_X8_advance l g hN hB.2.1 v hv kv) q_cX8_30 q_dX8_advance (by decide) rfl rfl hl.1 rfl (Nat.le_of_ble_eq_true rfl) dX8_takeWord_15 (fun H locs f17 h19 hF hB => ?_)
      refine q_iconst cx dX8_takeWord_18 ?_
      refine W.widen (k := 0) (n := 0) (by decide) (by decide) ?_
      refine vx_ret ?_
      refine q_zret cx hr hlk hB dX8_takeWord_19 (by decide) (by decide) ?_
      exact ⟨(by decide), (by decide)⟩
    · refine q_ald_n cx dX8_takeWord_8 rfl (lv_at hl 0 rfl) ?_
      refine q_iconst cx dX8_takeWord_9 ?_
      refine q_cVi (As := [.int (q_i 1)]) (rest := []) cx hB (fun _ h => h) hN hv kv (by decide) rfl (g_X8_fail l g hN hB.2.1 v hv kv 1 (by decide) (by decide)) q_cX8_79 q_dX8_fail (by decide) rfl rfl hl.1 rfl (Nat.le_of_ble_eq_true rfl) dX8_takeWord_10 (fun y21 H locs f20 ry21 h22 hF hB => ?_)
      obtain ⟨ly21, uy21⟩ := h22
      refine W.widen (k := 0) (n := 0) (by decide) (by decide) ?_
      refine vx_ret ?_
      refine q_zret cx hr hlk hB dX8_takeWord_13 (by omega) (by omega) ?_
      exact ⟨(by omega), (by omega)⟩
set_option maxHeartbeats 4000000 in
set_option maxRecDepth 100000 in
theorem g_takeWord_10 (l : Launch) (g : q_G) (ad : Nat → Nat) {K : Nat → Nat} {L : List Nat} (hN : L.Nodup) {f : Nat → va_E} (hT : q_Ty g K L f) (hfl : l.stackTraces = false) (v : Nat) (hv : v ∈ L) (kv : K v = 8) : q_Xt l g ad K L yX8_takeWord cX8_takeWord 2 (some .boolean) 5 107 0 0 [.ref v, .ref (ad 10)] f [(8, 2, 4), (8, 6, 9)] (q_Pi (fun (z : Int) (f1 : Nat → va_E) => 0 ≤ z ∧ z ≤ 1)) (fun (_ : String) (_ : Nat → va_E) => False) := by
  refine q_xofb (by decide +kernel) hN hT (Nat.le_of_ble_eq_true rfl) ?_
  intro p e s m below meth c ls cx hr hlk htab hX hB hl
  have hl : lv_has ls 2 [(0, .ref v), (1, .ref (ad 10))] := hl
  obtain ⟨H, hH⟩ : ∃ H : Heap, H = s.heap := ⟨_, rfl⟩
  obtain ⟨locs, hlocs⟩ : ∃ z : List Loc, z = [] := ⟨_, rfl⟩
  rw [← hH, ← hlocs] at hB
  rw [← hH, ← hlocs]
  refine q_ald_n cx dX8_takeWord_0 rfl (lv_at hl 0 rfl) ?_
  refine q_ald_n cx dX8_takeWord_1 rfl (lv_at hl 1 rfl) ?_
  refine q_cXV (As := [.ref (ad 10)]) (rest := []) cx hX hB (fun _ h => h) (fun _ h _ => h) hN hv kv (by decide) rfl (g_isWord_10 l g ad hN hB.2.1 hfl v hv kv) q_cX8_82 q_dX8_isWord (by decide) rfl rfl hl.1 rfl (Nat.le_of_ble_eq_true rfl) dX8_takeWord_2 (fun E9 ce9 q9 H locs f15 hex hF hB hcell hcv hcl => ?_) (fun v9 H locs f12 h14 hF hB => ?_)
  · exact hex.elim
  · obtain ⟨y13, rfl, ry13, h14⟩ := h14
    refine W.eq (g2 := F0 m 5 ls [.int (q_i y13)]) rfl ?_
    obtain ⟨rfl, ly13, uy13⟩ := h14
    refine q_ifne (tgt := 14) cx ⟨by omega, by omega⟩ dX8_takeWord_5 (by decide) (fun c16 => ?_) (fun c16 => ?_)
    · refine q_ald_n cx dX8_takeWord_14 rfl (lv_at hl 0 rfl) ?_
      refine q_cVv (As := []) (rest := []) cx hB (fun _ h => h) hN hv kv (by decide) rfl (g_X8_advance l g hN hB.2.1 v hv kv) q_cX8_30 q_dX8_advance (by decide) rfl rfl hl.1 rfl (Nat.le_of_ble_eq_true rfl) dX8_takeWord_15 (fun H locs f17 h19 hF hB => ?_)
      refine q_iconst cx dX8_takeWord_18 ?_
      refine W.widen (k := 0) (n := 0) (by decide) (by decide) ?_
      refine vx_ret ?_
      refine q_zret cx hr hlk hB dX8_takeWord_19 (by decide) (by decide) ?_
      exact ⟨(by decide), (by decide)⟩
    · refine q_ald_n cx dX8_takeWord_8 rfl (lv_at hl 0 rfl) ?_
      refine q_iconst cx dX8_takeWord_9 ?_
      refine q_cVi (As := [.int (q_i 1)]) (rest := []) cx hB (fun _ h => h) hN hv kv (by decide) rfl (g_X8_fail l g hN hB.2.1 v hv kv 1 (by decide) (by decide)) q_cX8_79 q_dX8_fail (by decide) rfl rfl hl.1 rfl (Nat.le_of_ble_eq_true rfl) dX8_takeWord_10 (fun y21 H locs f20 ry21 h22 hF hB => ?_)
      obtain ⟨ly21, uy21⟩ := h22
      refine W.widen (k := 0) (n := 0) (by decide) (by decide) ?_
      refine vx_ret ?_
      refine q_zret cx hr hlk hB dX8_takeWord_13 (by omega) (by omega) ?_
      exact ⟨(by omega), (by omega)⟩
set_option maxHeartbeats 4000000 in
set_option maxRecDepth 100000 in
theorem g_takeWord_11 (l : Launch) (g : q_G) (ad : Nat → Nat) {K : Nat → Nat} {L : List Nat} (hN : L.Nodup) {f : Nat → va_E} (hT : q_Ty g K L f) (hfl : l.stackTraces = false) (v : Nat) (hv : v ∈ L) (kv : K v = 8) : q_Xt l g ad K L yX8_takeWord cX8_takeWord 2 (some .boolean) 5 107 0 0 [.ref v, .ref (ad 11)] f [(8, 2, 4), (8, 6, 9)] (q_Pi (fun (z : Int) (f1 : Nat → va_E) => 0 ≤ z ∧ z ≤ 1)) (fun (_ : String) (_ : Nat → va_E) => False) := by
  refine q_xofb (by decide +kernel) hN hT (Nat.le_of_ble_eq_true rfl) ?_
  intro p e s m below meth c ls cx hr hlk htab hX hB hl
  have hl : lv_has ls 2 [(0, .ref v), (1, .ref (ad 11))] := hl
  obtain ⟨H, hH⟩ : ∃ H : Heap, H = s.heap := ⟨_, rfl⟩
  obtain ⟨locs, hlocs⟩ : ∃ z : List Loc, z = [] := ⟨_, rfl⟩
  rw [← hH, ← hlocs] at hB
  rw [← hH, ← hlocs]
  refine q_ald_n cx dX8_takeWord_0 rfl (lv_at hl 0 rfl) ?_
  refine q_ald_n cx dX8_takeWord_1 rfl (lv_at hl 1 rfl) ?_
  refine q_cXV (As := [.ref (ad 11)]) (rest := []) cx hX hB (fun _ h => h) (fun _ h _ => h) hN hv kv (by decide) rfl (g_isWord_11 l g ad hN hB.2.1 hfl v hv kv) q_cX8_82 q_dX8_isWord (by decide) rfl rfl hl.1 rfl (Nat.le_of_ble_eq_true rfl) dX8_takeWord_2 (fun E9 ce9 q9 H locs f15 hex hF hB hcell hcv hcl => ?_) (fun v9 H locs f12 h14 hF hB => ?_)
  · exact hex.elim
  · obtain ⟨y13, rfl, ry13, h14⟩ := h14
    refine W.eq (g2 := F0 m 5 ls [.int (q_i y13)]) rfl ?_
    obtain ⟨rfl, ly13, uy13⟩ := h14
    refine q_ifne (tgt := 14) cx ⟨by omega, by omega⟩ dX8_takeWord_5 (by decide) (fun c16 => ?_) (fun c16 => ?_)
    · refine q_ald_n cx dX8_takeWord_14 rfl (lv_at hl 0 rfl) ?_
      refine q_cVv (As := []) (rest := []) cx hB (fun _ h => h) hN hv kv (by decide) rfl (g_X8_advance l g hN hB.2.1 v hv kv) q_cX8_30 q_dX8_advance (by decide) rfl rfl hl.1 rfl (Nat.le_of_ble_eq_true rfl) dX8_takeWord_15 (fun H locs f17 h19 hF hB => ?_)
      refine q_iconst cx dX8_takeWord_18 ?_
      refine W.widen (k := 0) (n := 0) (by decide) (by decide) ?_
      refine vx_ret ?_
      refine q_zret cx hr hlk hB dX8_takeWord_19 (by decide) (by decide) ?_
      exact ⟨(by decide), (by decide)⟩
    · refine q_ald_n cx dX8_takeWord_8 rfl (lv_at hl 0 rfl) ?_
      refine q_iconst cx dX8_takeWord_9 ?_
      refine q_cVi (As := [.int (q_i 1)]) (rest := []) cx hB (fun _ h => h) hN hv kv (by decide) rfl (g_X8_fail l g hN hB.2.1 v hv kv 1 (by decide) (by decide)) q_cX8_79 q_dX8_fail (by decide) rfl rfl hl.1 rfl (Nat.le_of_ble_eq_true rfl) dX8_takeWord_10 (fun y21 H locs f20 ry21 h22 hF hB => ?_)
      obtain ⟨ly21, uy21⟩ := h22
      refine W.widen (k := 0) (n := 0) (by decide) (by decide) ?_
      refine vx_ret ?_
      refine q_zret cx hr hlk hB dX8_takeWord_13 (by omega) (by omega) ?_
      exact ⟨(by omega), (by omega)⟩
set_option maxHeartbeats 4000000 in
set_option maxRecDepth 100000 in
theorem g_takeWord_12 (l : Launch) (g : q_G) (ad : Nat → Nat) {K : Nat → Nat} {L : List Nat} (hN : L.Nodup) {f : Nat → va_E} (hT : q_Ty g K L f) (hfl : l.stackTraces = false) (v : Nat) (hv : v ∈ L) (kv : K v = 8) : q_Xt l g ad K L yX8_takeWord cX8_takeWord 2 (some .boolean) 5 107 0 0 [.ref v, .ref (ad 12)] f [(8, 2, 4), (8, 6, 9)] (q_Pi (fun (z : Int) (f1 : Nat → va_E) => 0 ≤ z ∧ z ≤ 1)) (fun (_ : String) (_ : Nat → va_E) => False) := by
  refine q_xofb (by decide +kernel) hN hT (Nat.le_of_ble_eq_true rfl) ?_
  intro p e s m below meth c ls cx hr hlk htab hX hB hl
  have hl : lv_has ls 2 [(0, .ref v), (1, .ref (ad 12))] := hl
  obtain ⟨H, hH⟩ : ∃ H : Heap, H = s.heap := ⟨_, rfl⟩
  obtain ⟨locs, hlocs⟩ : ∃ z : List Loc, z = [] := ⟨_, rfl⟩
  rw [← hH, ← hlocs] at hB
  rw [← hH, ← hlocs]
  refine q_ald_n cx dX8_takeWord_0 rfl (lv_at hl 0 rfl) ?_
  refine q_ald_n cx dX8_takeWord_1 rfl (lv_at hl 1 rfl) ?_
  refine q_cXV (As := [.ref (ad 12)]) (rest := []) cx hX hB (fun _ h => h) (fun _ h _ => h) hN hv kv (by decide) rfl (g_isWord_12 l g ad hN hB.2.1 hfl v hv kv) q_cX8_82 q_dX8_isWord (by decide) rfl rfl hl.1 rfl (Nat.le_of_ble_eq_true rfl) dX8_takeWord_2 (fun E9 ce9 q9 H locs f15 hex hF hB hcell hcv hcl => ?_) (fun v9 H locs f12 h14 hF hB => ?_)
  · exact hex.elim
  · obtain ⟨y13, rfl, ry13, h14⟩ := h14
    refine W.eq (g2 := F0 m 5 ls [.int (q_i y13)]) rfl ?_
    obtain ⟨rfl, ly13, uy13⟩ := h14
    refine q_ifne (tgt := 14) cx ⟨by omega, by omega⟩ dX8_takeWord_5 (by decide) (fun c16 => ?_) (fun c16 => ?_)
    · refine q_ald_n cx dX8_takeWord_14 rfl (lv_at hl 0 rfl) ?_
      refine q_cVv (As := []) (rest := []) cx hB (fun _ h => h) hN hv kv (by decide) rfl (g_X8_advance l g hN hB.2.1 v hv kv) q_cX8_30 q_dX8_advance (by decide) rfl rfl hl.1 rfl (Nat.le_of_ble_eq_true rfl) dX8_takeWord_15 (fun H locs f17 h19 hF hB => ?_)
      refine q_iconst cx dX8_takeWord_18 ?_
      refine W.widen (k := 0) (n := 0) (by decide) (by decide) ?_
      refine vx_ret ?_
      refine q_zret cx hr hlk hB dX8_takeWord_19 (by decide) (by decide) ?_
      exact ⟨(by decide), (by decide)⟩
    · refine q_ald_n cx dX8_takeWord_8 rfl (lv_at hl 0 rfl) ?_
      refine q_iconst cx dX8_takeWord_9 ?_
      refine q_cVi (As := [.int (q_i 1)]) (rest := []) cx hB (fun _ h => h) hN hv kv (by decide) rfl (g_X8_fail l g hN hB.2.1 v hv kv 1 (by decide) (by decide)) q_cX8_79 q_dX8_fail (by decide) rfl rfl hl.1 rfl (Nat.le_of_ble_eq_true rfl) dX8_takeWord_10 (fun y21 H locs f20 ry21 h22 hF hB => ?_)
      obtain ⟨ly21, uy21⟩ := h22
      refine W.widen (k := 0) (n := 0) (by decide) (by decide) ?_
      refine vx_ret ?_
      refine q_zret cx hr hlk hB dX8_takeWord_13 (by omega) (by omega) ?_
      exact ⟨(by omega), (by omega)⟩
set_option maxHeartbeats 4000000 in
set_option maxRecDepth 100000 in
theorem g_takeWord_13 (l : Launch) (g : q_G) (ad : Nat → Nat) {K : Nat → Nat} {L : List Nat} (hN : L.Nodup) {f : Nat → va_E} (hT : q_Ty g K L f) (hfl : l.stackTraces = false) (v : Nat) (hv : v ∈ L) (kv : K v = 8) : q_Xt l g ad K L yX8_takeWord cX8_takeWord 2 (some .boolean) 5 107 0 0 [.ref v, .ref (ad 13)] f [(8, 2, 4), (8, 6, 9)] (q_Pi (fun (z : Int) (f1 : Nat → va_E) => 0 ≤ z ∧ z ≤ 1)) (fun (_ : String) (_ : Nat → va_E) => False) := by
  refine q_xofb (by decide +kernel) hN hT (Nat.le_of_ble_eq_true rfl) ?_
  intro p e s m below meth c ls cx hr hlk htab hX hB hl
  have hl : lv_has ls 2 [(0, .ref v), (1, .ref (ad 13))] := hl
  obtain ⟨H, hH⟩ : ∃ H : Heap, H = s.heap := ⟨_, rfl⟩
  obtain ⟨locs, hlocs⟩ : ∃ z : List Loc, z = [] := ⟨_, rfl⟩
  rw [← hH, ← hlocs] at hB
  rw [← hH, ← hlocs]
  refine q_ald_n cx dX8_takeWord_0 rfl (lv_at hl 0 rfl) ?_
  refine q_ald_n cx dX8_takeWord_1 rfl (lv_at hl 1 rfl) ?_
  refine q_cXV (As := [.ref (ad 13)]) (rest := []) cx hX hB (fun _ h => h) (fun _ h _ => h) hN hv kv (by decide) rfl (g_isWord_13 l g ad hN hB.2.1 hfl v hv kv) q_cX8_82 q_dX8_isWord (by decide) rfl rfl hl.1 rfl (Nat.le_of_ble_eq_true rfl) dX8_takeWord_2 (fun E9 ce9 q9 H locs f15 hex hF hB hcell hcv hcl => ?_) (fun v9 H locs f12 h14 hF hB => ?_)
  · exact hex.elim
  · obtain ⟨y13, rfl, ry13, h14⟩ := h14
    refine W.eq (g2 := F0 m 5 ls [.int (q_i y13)]) rfl ?_
    obtain ⟨rfl, ly13, uy13⟩ := h14
    refine q_ifne (tgt := 14) cx ⟨by omega, by omega⟩ dX8_takeWord_5 (by decide) (fun c16 => ?_) (fun c16 => ?_)
    · refine q_ald_n cx dX8_takeWord_14 rfl (lv_at hl 0 rfl) ?_
      refine q_cVv (As := []) (rest := []) cx hB (fun _ h => h) hN hv kv (by decide) rfl (g_X8_advance l g hN hB.2.1 v hv kv) q_cX8_30 q_dX8_advance (by decide) rfl rfl hl.1 rfl (Nat.le_of_ble_eq_true rfl) dX8_takeWord_15 (fun H locs f17 h19 hF hB => ?_)
      refine q_iconst cx dX8_takeWord_18 ?_
      refine W.widen (k := 0) (n := 0) (by decide) (by decide) ?_
      refine vx_ret ?_
      refine q_zret cx hr hlk hB dX8_takeWord_19 (by decide) (by decide) ?_
      exact ⟨(by decide), (by decide)⟩
    · refine q_ald_n cx dX8_takeWord_8 rfl (lv_at hl 0 rfl) ?_
      refine q_iconst cx dX8_takeWord_9 ?_
      refine q_cVi (As := [.int (q_i 1)]) (rest := []) cx hB (fun _ h => h) hN hv kv (by decide) rfl (g_X8_fail l g hN hB.2.1 v hv kv 1 (by decide) (by decide)) q_cX8_79 q_dX8_fail (by decide) rfl rfl hl.1 rfl (Nat.le_of_ble_eq_true rfl) dX8_takeWord_10 (fun y21 H locs f20 ry21 h22 hF hB => ?_)
      obtain ⟨ly21, uy21⟩ := h22
      refine W.widen (k := 0) (n := 0) (by decide) (by decide) ?_
      refine vx_ret ?_
      refine q_zret cx hr hlk hB dX8_takeWord_13 (by omega) (by omega) ?_
      exact ⟨(by omega), (by omega)⟩
set_option maxHeartbeats 4000000 in
set_option maxRecDepth 100000 in
theorem g_takeWord_14 (l : Launch) (g : q_G) (ad : Nat → Nat) {K : Nat → Nat} {L : List Nat} (hN : L.Nodup) {f : Nat → va_E} (hT : q_Ty g K L f) (hfl : l.stackTraces = false) (v : Nat) (hv : v ∈ L) (kv : K v = 8) : q_Xt l g ad K L yX8_takeWord cX8_takeWord 2 (some .boolean) 5 107 0 0 [.ref v, .ref (ad 14)] f [(8, 2, 4), (8, 6, 9)] (q_Pi (fun (z : Int) (f1 : Nat → va_E) => 0 ≤ z ∧ z ≤ 1)) (fun (_ : String) (_ : Nat → va_E) => False) := by
  refine q_xofb (by decide +kernel) hN hT (Nat.le_of_ble_eq_true rfl) ?_
  intro p e s m below meth c ls cx hr hlk htab hX hB hl
  have hl : lv_has ls 2 [(0, .ref v), (1, .ref (ad 14))] := hl
  obtain ⟨H, hH⟩ : ∃ H : Heap, H = s.heap := ⟨_, rfl⟩
  obtain ⟨locs, hlocs⟩ : ∃ z : List Loc, z = [] := ⟨_, rfl⟩
  rw [← hH, ← hlocs] at hB
  rw [← hH, ← hlocs]
  refine q_ald_n cx dX8_takeWord_0 rfl (lv_at hl 0 rfl) ?_
  refine q_ald_n cx dX8_takeWord_1 rfl (lv_at hl 1 rfl) ?_
  refine q_cXV (As := [.ref (ad 14)]) (rest := []) cx hX hB (fun _ h => h) (fun _ h _ => h) hN hv kv (by decide) rfl (g_isWord_14 l g ad hN hB.2.1 hfl v hv kv) q_cX8_82 q_dX8_isWord (by decide) rfl rfl hl.1 rfl (Nat.le_of_ble_eq_true rfl) dX8_takeWord_2 (fun E9 ce9 q9 H locs f15 hex hF hB hcell hcv hcl => ?_) (fun v9 H locs f12 h14 hF hB => ?_)
  · exact hex.elim
  · obtain ⟨y13, rfl, ry13, h14⟩ := h14
    refine W.eq (g2 := F0 m 5 ls [.int (q_i y13)]) rfl ?_
    obtain ⟨rfl, ly13, uy13⟩ := h14
    refine q_ifne (tgt := 14) cx ⟨by omega, by omega⟩ dX8_takeWord_5 (by decide) (fun c16 => ?_) (fun c16 => ?_)
    · refine q_ald_n cx dX8_takeWord_14 rfl (lv_at hl 0 rfl) ?_
      refine q_cVv (As := []) (rest := []) cx hB (fun _ h => h) hN hv kv (by decide) rfl (g_X8_advance l g hN hB.2.1 v hv kv) q_cX8_30 q_dX8_advance (by decide) rfl rfl hl.1 rfl (Nat.le_of_ble_eq_true rfl) dX8_takeWord_15 (fun H locs f17 h19 hF hB => ?_)
      refine q_iconst cx dX8_takeWord_18 ?_
      refine W.widen (k := 0) (n := 0) (by decide) (by decide) ?_
      refine vx_ret ?_
      refine q_zret cx hr hlk hB dX8_takeWord_19 (by decide) (by decide) ?_
      exact ⟨(by decide), (by decide)⟩
    · refine q_ald_n cx dX8_takeWord_8 rfl (lv_at hl 0 rfl) ?_
      refine q_iconst cx dX8_takeWord_9 ?_
      refine q_cVi (As := [.int (q_i 1)]) (rest := []) cx hB (fun _ h => h) hN hv kv (by decide) rfl (g_X8_fail l g hN hB.2.1 v hv kv 1 (by decide) (by decide)) q_cX8_79 q_dX8_fail (by decide) rfl rfl hl.1 rfl (Nat.le_of_ble_eq_true rfl) dX8_takeWord_10 (fun y21 H locs f20 ry21 h22 hF hB => ?_)
      obtain ⟨ly21, uy21⟩ := h22
      refine W.widen (k := 0) (n := 0) (by decide) (by decide) ?_
      refine vx_ret ?_
      refine q_zret cx hr hlk hB dX8_takeWord_13 (by omega) (by omega) ?_
      exact ⟨(by omega), (by omega)⟩
set_option maxHeartbeats 4000000 in
set_option maxRecDepth 100000 in
theorem g_X9_readNode (l : Launch) (g : q_G) (ad : Nat → Nat) {K : Nat → Nat} {L : List Nat} (hN : L.Nodup) {f : Nat → va_E} (hT : q_Ty g K L f) (hfl : l.stackTraces = false) (v : Nat) (hv : v ∈ L) (kv : K v = 9) (p0 : Nat) (hp0 : p0 ∈ L) (kp0 : K p0 = 8) (p1 : Nat) (hp1 : p1 ∈ L) (kp1 : K p1 = 13) : q_Xt l g ad K L yX9_readNode cX9_readNode 7 (some .boolean) 6 128 0 0 [.ref v, .ref p0, .ref p1] f [(8, 2, 9), (13, 3, 3), (17, 0, 8)] (q_Pi (fun (z : Int) (f1 : Nat → va_E) => 0 ≤ z ∧ z ≤ 1)) (fun (_ : String) (_ : Nat → va_E) => False) := by
  refine q_xofb (by decide +kernel) hN hT (Nat.le_of_ble_eq_true rfl) ?_
  intro p e s m below meth c ls cx hr hlk htab hX hB hl
  have hl : lv_has ls 7 [(0, .ref v), (1, .ref p0), (2, .ref p1)] := hl
  have J71 : ∀ (f71 : Nat → va_E) (H : Heap) (locs : List Loc) (hB : q_B g K L (fun q => q ∈ L) [(8, 2, 9), (13, 3, 3), (17, 0, 8)] f f71 s H locs) (ls : Array Slot) (hl : lv_has ls 7 []), W p l e { frames := 6, cells := 0, slots := 0, locals := 128 } s m ([.ref v, .ref p0, .ref p1] : List Value).toArray below meth c H locs 0 0 (vx_MQ below (q_Q g K L [(8, 2, 9), (13, 3, 3), (17, 0, 8)] f (q_Pi (fun (z : Int) (f1 : Nat → va_E) => 0 ≤ z ∧ z ≤ 1))) (q_XC g K L [(8, 2, 9), (13, 3, 3), (17, 0, 8)] f (fun (_ : String) (_ : Nat → va_E) => False)) ([.ref v, .ref p0, .ref p1] : List Value).toArray s 0 0 (fun q => q ∈ L)) (F0 m 71 ls []) := by
    intro f71 H locs hB ls hl
    refine q_iconst cx dX9_readNode_71 ?_
    refine W.widen (k := 0) (n := 0) (by decide) (by decide) ?_
    refine vx_ret ?_
    refine q_zret cx hr hlk hB dX9_readNode_72 (by decide) (by decide) ?_
    exact ⟨(by decide), (by decide)⟩
  have J133 : ∀ (f133 : Nat → va_E) (H : Heap) (locs : List Loc) (hB : q_B g K L (fun q => q ∈ L) [(8, 2, 9), (13, 3, 3), (17, 0, 8)] f f133 s H locs) (ls : Array Slot) (hl : lv_has ls 7 []), W p l e { frames := 6, cells := 0, slots := 0, locals := 128 } s m ([.ref v, .ref p0, .ref p1] : List Value).toArray below meth c H locs 0 0 (vx_MQ below (q_Q g K L [(8, 2, 9), (13, 3, 3), (17, 0, 8)] f (q_Pi (fun (z : Int) (f1 : Nat → va_E) => 0 ≤ z ∧ z ≤ 1))) (q_XC g K L [(8, 2, 9), (13, 3, 3), (17, 0, 8)] f (fun (_ : String) (_ : Nat → va_E) => False)) ([.ref v, .ref p0, .ref p1] : List Value).toArray s 0 0 (fun q => q ∈ L)) (F0 m 133 ls []) := by
    intro f133 H locs hB ls hl
    refine q_iconst cx dX9_readNode_133 ?_
    refine W.widen (k := 0) (n := 0) (by decide) (by decide) ?_
    refine vx_ret ?_
    refine q_zret cx hr hlk hB dX9_readNode_134 (by decide) (by decide) ?_
    exact ⟨(by decide), (by decide)⟩
  have J113 : ∀ (f113 : Nat → va_E) (v113_3 : Int64) (v113_5 : Int) (lv113_5 : (-2147483648) ≤ v113_5) (uv113_5 : v113_5 ≤ 2147483647) (v113_6 : Int) (lv113_6 : (-2147483648) ≤ v113_6) (uv113_6 : v113_6 ≤ 2147483647) (H : Heap) (locs : List Loc) (hB : q_B g K L (fun q => q ∈ L) [(8, 2, 9), (13, 3, 3), (17, 0, 8)] f f113 s H locs) (ls : Array Slot) (hl : lv_has ls 7 [(1, .ref p0), (2, .ref p1), (3, .long v113_3), (5, .int (q_i v113_5)), (6, .int (q_i v113_6))]), W p l e { frames := 6, cells := 0, slots := 0, locals := 128 } s m ([.ref v, .ref p0, .ref p1] : List Value).toArray below meth c H locs 0 0 (vx_MQ below (q_Q g K L [(8, 2, 9), (13, 3, 3), (17, 0, 8)] f (q_Pi (fun (z : Int) (f1 : Nat → va_E) => 0 ≤ z ∧ z ≤ 1))) (q_XC g K L [(8, 2, 9), (13, 3, 3), (17, 0, 8)] f (fun (_ : String) (_ : Nat → va_E) => False)) ([.ref v, .ref p0, .ref p1] : List Value).toArray s 0 0 (fun q => q ∈ L)) (F0 m 113 ls []) := by
    intro f113 v113_3 v113_5 lv113_5 uv113_5 v113_6 lv113_6 uv113_6 H locs hB ls hl
    refine q_ald_n cx dX9_readNode_113 rfl (lv_at hl 0 rfl) ?_
    refine va_ldcS (q := ad 7) cx.1 cx.2.1 cx.2.2.2.1 ((hX.2.2.2.2.2.2.2 7 (by decide)).1) dX9_readNode_114 ?_
    refine q_cXV (As := [.ref (ad 7)]) (rest := []) cx hX hB (fun _ h => h) (fun _ h _ => h) hN hp0 kp0 (by decide) rfl (g_takeWord_7 l g ad hN hB.2.1 hfl p0 hp0 kp0) q_cX9_119 q_dX8_takeWord (by decide) rfl rfl hl.1 rfl (Nat.le_of_ble_eq_true rfl) dX9_readNode_116 (fun E9 ce9 q9 H locs f70 hex hF hB hcell hcv hcl => ?_) (fun v9 H locs f67 h69 hF hB => ?_)
    · exact hex.elim
    · obtain ⟨y68, rfl, ry68, h69⟩ := h69
      refine W.eq (g2 := F0 m 119 ls [.int (q_i y68)]) rfl ?_
      obtain ⟨ly68, uy68⟩ := h69
      refine q_ifeq (tgt := 133) cx ⟨by omega, by omega⟩ dX9_readNode_119 (by decide) (fun c71 => ?_) (fun c71 => ?_)
      · exact J133 f67 H locs hB ls (lv_sub hl [] rfl)
      · refine q_ald_n cx dX9_readNode_122 rfl (lv_at hl 0 rfl) ?_
        refine q_iconst cx dX9_readNode_123 ?_
        refine q_sipush cx dX9_readNode_124 rfl ?_
        refine q_cVi (As := [.int (q_i 1), .int (q_i 999)]) (rest := []) cx hB (fun _ h => h) hN hp0 kp0 (by decide) rfl (g_X8_takeNumber l g hN hB.2.1 p0 hp0 kp0 1 (by decide) (by decide) 999 (by decide) (by decide)) q_cX9_81 q_dX8_takeNumber (by decide) rfl rfl hl.1 rfl (Nat.le_of_ble_eq_true rfl) dX9_readNode_127 (fun y73 H locs f72 ry73 h74 hF hB => ?_)
        obtain ⟨ly73, uy73, t75⟩ := h74
        refine q_ifne (tgt := 135) cx ⟨by omega, by omega⟩ dX9_readNode_130 (by decide) (fun c76 => ?_) (fun c76 => ?_)
        · refine q_ald_n cx dX9_readNode_135 rfl (lv_at hl 1 rfl) ?_
          refine q_lld_n cx dX9_readNode_136 rfl (lv_at hl 2 rfl) ?_
          refine lv_iload cx.1 cx.2.1 dX9_readNode_137 (lv_at hl 3 rfl) ?_
          refine lv_iload cx.1 cx.2.1 dX9_readNode_139 (lv_at hl 4 rfl) ?_
          refine q_ald_n cx dX9_readNode_141 rfl (lv_at hl 0 rfl) ?_
          obtain ⟨x77, ex77⟩ : ∃ zz, q_is (q_z f72 p0 5) zz := ⟨_, q_isr _⟩
          refine q_gX9_85 cx hB hp0 kp0 ex77 dX9_readNode_142 (fun lb78 ub78 => ?_)
          refine q_cVv (As := [.long v113_3, .int (q_i v113_5), .int (q_i v113_6), .int (q_i x77)]) (rest := []) cx hB (fun _ h => h) hN hp1 kp1 (by decide) rfl (g_X10_addNode_1 l g hN hB.2.1 p1 hp1 kp1 v113_3 v113_5 (by omega) (by omega) v113_6 (by omega) (by omega) x77 (by omega) (by omega)) q_cX9_126 q_dX10_addNode (by decide) rfl rfl hl.1 rfl (Nat.le_of_ble_eq_true rfl) dX9_readNode_145 (fun H locs f79 h81 hF hB => ?_)
          refine q_iconst cx dX9_readNode_148 ?_
          refine W.widen (k := 0) (n := 0) (by decide) (by decide) ?_
          refine vx_ret ?_
          refine q_zret cx hr hlk hB dX9_readNode_149 (by decide) (by decide) ?_
          exact ⟨(by decide), (by decide)⟩
        · exact J133 f72 H locs hB ls (lv_sub hl [] rfl)
  obtain ⟨H, hH⟩ : ∃ H : Heap, H = s.heap := ⟨_, rfl⟩
  obtain ⟨locs, hlocs⟩ : ∃ z : List Loc, z = [] := ⟨_, rfl⟩
  rw [← hH, ← hlocs] at hB
  rw [← hH, ← hlocs]
  refine q_ald_n cx dX9_readNode_0 rfl (lv_at hl 2 rfl) ?_
  obtain ⟨x82, ex82⟩ : ∃ zz, q_is (q_z f p1 3) zz := ⟨_, q_isr _⟩
  refine q_gX9_103_13 cx hB hp1 kp1 ex82 dX9_readNode_1 (fun lb83 ub83 => ?_)
  refine q_bipush cx dX9_readNode_4 rfl ?_
  refine q_iclt (tgt := 15) cx ⟨by omega, by omega⟩ ⟨by decide, by decide⟩ dX9_readNode_6 (by decide) (fun c84 => ?_) (fun c84 => ?_)
  · refine q_ald_n cx dX9_readNode_15 rfl (lv_at hl 1 rfl) ?_
    refine q_cVv (As := []) (rest := []) cx hB (fun _ h => h) hN hp0 kp0 (by decide) rfl (g_X8_advance l g hN hB.2.1 p0 hp0 kp0) q_cX9_78 q_dX8_advance (by decide) rfl rfl hl.1 rfl (Nat.le_of_ble_eq_true rfl) dX9_readNode_16 (fun H locs f85 h87 hF hB => ?_)
    refine q_ald_n cx dX9_readNode_19 rfl (lv_at hl 1 rfl) ?_
    refine q_cVi (As := []) (rest := []) cx hB (fun _ h => h) hN hp0 kp0 (by decide) rfl (g_X8_expectName l g hN hB.2.1 p0 hp0 kp0) q_cX9_106 q_dX8_expectName (by decide) rfl rfl hl.1 rfl (Nat.le_of_ble_eq_true rfl) dX9_readNode_20 (fun y89 H locs f88 ry89 h90 hF hB => ?_)
    obtain ⟨ly89, uy89⟩ := h90
    refine q_ifne (tgt := 28) cx ⟨by omega, by omega⟩ dX9_readNode_23 (by decide) (fun c91 => ?_) (fun c91 => ?_)
    · refine q_ald_n cx dX9_readNode_28 rfl (lv_at hl 1 rfl) ?_
      obtain ⟨j92, ej92⟩ : ∃ zz, q_j f88 p0 4 = zz := ⟨_, rfl⟩
      refine q_gX9_109 cx hB hp0 kp0 ej92 dX9_readNode_29 ?_
      refine lv_lstore_n (lv' := [(3, .long j92), (0, .ref v), (1, .ref p0), (2, .ref p1)]) cx.1 cx.2.1 dX9_readNode_32 rfl hl (by decide) rfl (fun ls hl => ?_)
      refine q_ald_n cx dX9_readNode_33 rfl (lv_at hl 3 rfl) ?_
      refine q_lld_n cx dX9_readNode_34 rfl (lv_at hl 0 rfl) ?_
      refine q_cVi (As := [.long j92]) (rest := []) cx hB (fun _ h => h) hN hp1 kp1 (by decide) rfl (g_X10_numberOf_1 l g hN hB.2.1 p1 hp1 kp1 j92) q_cX9_113 q_dX10_numberOf (by decide) rfl rfl hl.1 rfl (Nat.le_of_ble_eq_true rfl) dX9_readNode_35 (fun y94 H locs f93 ry94 h95 hF hB => ?_)
      obtain ⟨rfl, ly94, uy94⟩ := h95
      refine q_iconst cx dX9_readNode_38 ?_
      refine q_iceq (tgt := 48) cx ⟨by omega, by omega⟩ ⟨by decide, by decide⟩ dX9_readNode_39 (by decide) (fun c96 => ?_) (fun c96 => ?_)
      · refine q_ald_n cx dX9_readNode_48 rfl (lv_at hl 2 rfl) ?_
        refine q_cVv (As := []) (rest := []) cx hB (fun _ h => h) hN hp0 kp0 (by decide) rfl (g_X8_advance l g hN hB.2.1 p0 hp0 kp0) q_cX9_78 q_dX8_advance (by decide) rfl rfl hl.1 rfl (Nat.le_of_ble_eq_true rfl) dX9_readNode_49 (fun H locs f97 h99 hF hB => ?_)
        refine q_ald_n cx dX9_readNode_52 rfl (lv_at hl 2 rfl) ?_
        refine va_ldcS (q := ad 5) cx.1 cx.2.1 cx.2.2.2.1 ((hX.2.2.2.2.2.2.2 5 (by decide)).1) dX9_readNode_53 ?_
        refine q_cXV (As := [.ref (ad 5)]) (rest := []) cx hX hB (fun _ h => h) (fun _ h _ => h) hN hp0 kp0 (by decide) rfl (g_takeWord_5 l g ad hN hB.2.1 hfl p0 hp0 kp0) q_cX9_119 q_dX8_takeWord (by decide) rfl rfl hl.1 rfl (Nat.le_of_ble_eq_true rfl) dX9_readNode_55 (fun E9 ce9 q9 H locs f103 hex hF hB hcell hcv hcl => ?_) (fun v9 H locs f100 h102 hF hB => ?_)
        · exact hex.elim
        · obtain ⟨y101, rfl, ry101, h102⟩ := h102
          refine W.eq (g2 := F0 m 58 ls [.int (q_i y101)]) rfl ?_
          obtain ⟨ly101, uy101⟩ := h102
          refine q_ifeq (tgt := 71) cx ⟨by omega, by omega⟩ dX9_readNode_58 (by decide) (fun c104 => ?_) (fun c104 => ?_)
          · exact J71 f100 H locs hB ls (lv_sub hl [] rfl)
          · refine q_ald_n cx dX9_readNode_61 rfl (lv_at hl 2 rfl) ?_
            refine q_iconst cx dX9_readNode_62 ?_
            refine q_bipush cx dX9_readNode_63 rfl ?_
            refine q_cVi (As := [.int (q_i 0), .int (q_i 59)]) (rest := []) cx hB (fun _ h => h) hN hp0 kp0 (by decide) rfl (g_X8_takeNumber l g hN hB.2.1 p0 hp0 kp0 0 (by decide) (by decide) 59 (by decide) (by decide)) q_cX9_81 q_dX8_takeNumber (by decide) rfl rfl hl.1 rfl (Nat.le_of_ble_eq_true rfl) dX9_readNode_65 (fun y106 H locs f105 ry106 h107 hF hB => ?_)
            obtain ⟨ly106, uy106, t108⟩ := h107
            refine q_ifne (tgt := 73) cx ⟨by omega, by omega⟩ dX9_readNode_68 (by decide) (fun c109 => ?_) (fun c109 => ?_)
            · refine q_ald_n cx dX9_readNode_73 rfl (lv_at hl 2 rfl) ?_
              obtain ⟨x110, ex110⟩ : ∃ zz, q_is (q_z f105 p0 5) zz := ⟨_, q_isr _⟩
              refine q_gX9_85 cx hB hp0 kp0 ex110 dX9_readNode_74 (fun lb111 ub111 => ?_)
              refine lv_istore (lv' := [(5, .int (q_i x110)), (3, .long j92), (0, .ref v), (1, .ref p0), (2, .ref p1)]) cx.1 cx.2.1 dX9_readNode_77 hl (by decide) rfl (fun ls hl => ?_)
              refine q_iconst cx dX9_readNode_79 ?_
              refine lv_istore (lv' := [(6, .int (q_i 0)), (5, .int (q_i x110)), (3, .long j92), (0, .ref v), (1, .ref p0), (2, .ref p1)]) cx.1 cx.2.1 dX9_readNode_80 hl (by decide) rfl (fun ls hl => ?_)
              refine q_ald_n cx dX9_readNode_82 rfl (lv_at hl 4 rfl) ?_
              refine va_ldcS (q := ad 6) cx.1 cx.2.1 cx.2.2.2.1 ((hX.2.2.2.2.2.2.2 6 (by decide)).1) dX9_readNode_83 ?_
              refine q_cXV (As := [.ref (ad 6)]) (rest := []) cx hX hB (fun _ h => h) (fun _ h _ => h) hN hp0 kp0 (by decide) rfl (g_isWord_6 l g ad hN hB.2.1 hfl p0 hp0 kp0) q_cX9_48 q_dX8_isWord (by decide) rfl rfl hl.1 rfl (Nat.le_of_ble_eq_true rfl) dX9_readNode_85 (fun E9 ce9 q9 H locs f115 hex hF hB hcell hcv hcl => ?_) (fun v9 H locs f112 h114 hF hB => ?_)
              · exact hex.elim
              · obtain ⟨y113, rfl, ry113, h114⟩ := h114
                refine W.eq (g2 := F0 m 88 ls [.int (q_i y113)]) rfl ?_
                obtain ⟨rfl, ly113, uy113⟩ := h114
                refine q_ifeq (tgt := 113) cx ⟨by omega, by omega⟩ dX9_readNode_88 (by decide) (fun c116 => ?_) (fun c116 => ?_)
                · exact J113 f105 j92 x110 (by omega) (by omega) 0 (by decide) (by decide) H locs hB ls (lv_sub hl [4, 5, 2, 1, 0] rfl)
                · refine q_ald_n cx dX9_readNode_91 rfl (lv_at hl 4 rfl) ?_
                  refine q_cVv (As := []) (rest := []) cx hB (fun _ h => h) hN hp0 kp0 (by decide) rfl (g_X8_advance l g hN hB.2.1 p0 hp0 kp0) q_cX9_78 q_dX8_advance (by decide) rfl rfl hl.1 rfl (Nat.le_of_ble_eq_true rfl) dX9_readNode_92 (fun H locs f117 h119 hF hB => ?_)
                  refine q_ald_n cx dX9_readNode_95 rfl (lv_at hl 4 rfl) ?_
                  refine q_iconst cx dX9_readNode_96 ?_
                  refine q_bipush cx dX9_readNode_97 rfl ?_
                  refine q_cVi (As := [.int (q_i 0), .int (q_i 59)]) (rest := []) cx hB (fun _ h => h) hN hp0 kp0 (by decide) rfl (g_X8_takeNumber l g hN hB.2.1 p0 hp0 kp0 0 (by decide) (by decide) 59 (by decide) (by decide)) q_cX9_81 q_dX8_takeNumber (by decide) rfl rfl hl.1 rfl (Nat.le_of_ble_eq_true rfl) dX9_readNode_99 (fun y121 H locs f120 ry121 h122 hF hB => ?_)
                  obtain ⟨ly121, uy121, t123⟩ := h122
                  refine q_ifne (tgt := 107) cx ⟨by omega, by omega⟩ dX9_readNode_102 (by decide) (fun c124 => ?_) (fun c124 => ?_)
                  · refine q_ald_n cx dX9_readNode_107 rfl (lv_at hl 4 rfl) ?_
                    obtain ⟨x125, ex125⟩ : ∃ zz, q_is (q_z f120 p0 5) zz := ⟨_, q_isr _⟩
                    refine q_gX9_85 cx hB hp0 kp0 ex125 dX9_readNode_108 (fun lb126 ub126 => ?_)
                    refine lv_istore (lv' := [(6, .int (q_i x125)), (5, .int (q_i x110)), (3, .long j92), (0, .ref v), (1, .ref p0), (2, .ref p1)]) cx.1 cx.2.1 dX9_readNode_111 hl (by decide) rfl (fun ls hl => ?_)
                    exact J113 f120 j92 x110 (by omega) (by omega) x125 (by omega) (by omega) H locs hB ls (lv_sub hl [4, 5, 2, 1, 0] rfl)
                  · refine q_iconst cx dX9_readNode_105 ?_
                    refine W.widen (k := 0) (n := 0) (by decide) (by decide) ?_
                    refine vx_ret ?_
                    refine q_zret cx hr hlk hB dX9_readNode_106 (by decide) (by decide) ?_
                    exact ⟨(by decide), (by decide)⟩
            · exact J71 f105 H locs hB ls (lv_sub hl [] rfl)
      · refine q_ald_n cx dX9_readNode_42 rfl (lv_at hl 2 rfl) ?_
        refine q_iconst cx dX9_readNode_43 ?_
        refine q_cVi (As := [.int (q_i 3)]) (rest := []) cx hB (fun _ h => h) hN hp0 kp0 (by decide) rfl (g_X8_fail l g hN hB.2.1 p0 hp0 kp0 3 (by decide) (by decide)) q_cX9_75 q_dX8_fail (by decide) rfl rfl hl.1 rfl (Nat.le_of_ble_eq_true rfl) dX9_readNode_44 (fun y128 H locs f127 ry128 h129 hF hB => ?_)
        obtain ⟨ly128, uy128⟩ := h129
        refine W.widen (k := 0) (n := 0) (by decide) (by decide) ?_
        refine vx_ret ?_
        refine q_zret cx hr hlk hB dX9_readNode_47 (by omega) (by omega) ?_
        exact ⟨(by omega), (by omega)⟩
    · refine q_iconst cx dX9_readNode_26 ?_
      refine W.widen (k := 0) (n := 0) (by decide) (by decide) ?_
      refine vx_ret ?_
      refine q_zret cx hr hlk hB dX9_readNode_27 (by decide) (by decide) ?_
      exact ⟨(by decide), (by decide)⟩
  · refine q_ald_n cx dX9_readNode_9 rfl (lv_at hl 1 rfl) ?_
    refine q_iconst cx dX9_readNode_10 ?_
    refine q_cVi (As := [.int (q_i 5)]) (rest := []) cx hB (fun _ h => h) hN hp0 kp0 (by decide) rfl (g_X8_fail l g hN hB.2.1 p0 hp0 kp0 5 (by decide) (by decide)) q_cX9_75 q_dX8_fail (by decide) rfl rfl hl.1 rfl (Nat.le_of_ble_eq_true rfl) dX9_readNode_11 (fun y131 H locs f130 ry131 h132 hF hB => ?_)
    obtain ⟨ly131, uy131⟩ := h132
    refine W.widen (k := 0) (n := 0) (by decide) (by decide) ?_
    refine vx_ret ?_
    refine q_zret cx hr hlk hB dX9_readNode_14 (by omega) (by omega) ?_
    exact ⟨(by omega), (by omega)⟩
set_option maxHeartbeats 4000000 in
set_option maxRecDepth 100000 in
theorem g_X9_readStatement (l : Launch) (g : q_G) (ad : Nat → Nat) {K : Nat → Nat} {L : List Nat} (hN : L.Nodup) {f : Nat → va_E} (hT : q_Ty g K L f) (hfl : l.stackTraces = false) (v : Nat) (hv : v ∈ L) (kv : K v = 9) (p0 : Nat) (hp0 : p0 ∈ L) (kp0 : K p0 = 8) (p1 : Nat) (hp1 : p1 ∈ L) (kp1 : K p1 = 13) : q_Xt l g ad K L yX9_readStatement cX9_readStatement 3 (some .boolean) 7 154 0 0 [.ref v, .ref p0, .ref p1] f [(8, 2, 9), (9, 0, 2), (13, 3, 4), (13, 6, 10), (17, 0, 8), (21, 0, 4)] (q_Pi (fun (z : Int) (f1 : Nat → va_E) => 0 ≤ z ∧ z ≤ 1)) (fun (_ : String) (_ : Nat → va_E) => False) := by
  refine q_xofb (by decide +kernel) hN hT (Nat.le_of_ble_eq_true rfl) ?_
  intro p e s m below meth c ls cx hr hlk htab hX hB hl
  have hl : lv_has ls 3 [(0, .ref v), (1, .ref p0), (2, .ref p1)] := hl
  obtain ⟨H, hH⟩ : ∃ H : Heap, H = s.heap := ⟨_, rfl⟩
  obtain ⟨locs, hlocs⟩ : ∃ z : List Loc, z = [] := ⟨_, rfl⟩
  rw [← hH, ← hlocs] at hB
  rw [← hH, ← hlocs]
  refine q_ald_n cx dX9_readStatement_0 rfl (lv_at hl 1 rfl) ?_
  refine va_ldcS (q := ad 0) cx.1 cx.2.1 cx.2.2.2.1 ((hX.2.2.2.2.2.2.2 0 (by decide)).1) dX9_readStatement_1 ?_
  refine q_cXV (As := [.ref (ad 0)]) (rest := []) cx hX hB (fun _ h => h) (fun _ h _ => h) hN hp0 kp0 (by decide) rfl (g_isWord_0 l g ad hN hB.2.1 hfl p0 hp0 kp0) q_cX9_48 q_dX8_isWord (by decide) rfl rfl hl.1 rfl (Nat.le_of_ble_eq_true rfl) dX9_readStatement_3 (fun E9 ce9 q9 H locs f48 hex hF hB hcell hcv hcl => ?_) (fun v9 H locs f45 h47 hF hB => ?_)
  · exact hex.elim
  · obtain ⟨y46, rfl, ry46, h47⟩ := h47
    refine W.eq (g2 := F0 m 6 ls [.int (q_i y46)]) rfl ?_
    obtain ⟨rfl, ly46, uy46⟩ := h47
    refine q_ifeq (tgt := 16) cx ⟨by omega, by omega⟩ dX9_readStatement_6 (by decide) (fun c49 => ?_) (fun c49 => ?_)
    · refine q_ald_n cx dX9_readStatement_16 rfl (lv_at hl 1 rfl) ?_
      refine va_ldcS (q := ad 1) cx.1 cx.2.1 cx.2.2.2.1 ((hX.2.2.2.2.2.2.2 1 (by decide)).1) dX9_readStatement_17 ?_
      refine q_cXV (As := [.ref (ad 1)]) (rest := []) cx hX hB (fun _ h => h) (fun _ h _ => h) hN hp0 kp0 (by decide) rfl (g_isWord_1 l g ad hN hB.2.1 hfl p0 hp0 kp0) q_cX9_48 q_dX8_isWord (by decide) rfl rfl hl.1 rfl (Nat.le_of_ble_eq_true rfl) dX9_readStatement_19 (fun E9 ce9 q9 H locs f53 hex hF hB hcell hcv hcl => ?_) (fun v9 H locs f50 h52 hF hB => ?_)
      · exact hex.elim
      · obtain ⟨y51, rfl, ry51, h52⟩ := h52
        refine W.eq (g2 := F0 m 22 ls [.int (q_i y51)]) rfl ?_
        obtain ⟨rfl, ly51, uy51⟩ := h52
        refine q_ifeq (tgt := 32) cx ⟨by omega, by omega⟩ dX9_readStatement_22 (by decide) (fun c54 => ?_) (fun c54 => ?_)
        · refine q_ald_n cx dX9_readStatement_32 rfl (lv_at hl 1 rfl) ?_
          refine va_ldcS (q := ad 2) cx.1 cx.2.1 cx.2.2.2.1 ((hX.2.2.2.2.2.2.2 2 (by decide)).1) dX9_readStatement_33 ?_
          refine q_cXV (As := [.ref (ad 2)]) (rest := []) cx hX hB (fun _ h => h) (fun _ h _ => h) hN hp0 kp0 (by decide) rfl (g_isWord_2 l g ad hN hB.2.1 hfl p0 hp0 kp0) q_cX9_48 q_dX8_isWord (by decide) rfl rfl hl.1 rfl (Nat.le_of_ble_eq_true rfl) dX9_readStatement_35 (fun E9 ce9 q9 H locs f58 hex hF hB hcell hcv hcl => ?_) (fun v9 H locs f55 h57 hF hB => ?_)
          · exact hex.elim
          · obtain ⟨y56, rfl, ry56, h57⟩ := h57
            refine W.eq (g2 := F0 m 38 ls [.int (q_i y56)]) rfl ?_
            obtain ⟨rfl, ly56, uy56⟩ := h57
            refine q_ifeq (tgt := 48) cx ⟨by omega, by omega⟩ dX9_readStatement_38 (by decide) (fun c59 => ?_) (fun c59 => ?_)
            · refine q_ald_n cx dX9_readStatement_48 rfl (lv_at hl 1 rfl) ?_
              refine va_ldcS (q := ad 3) cx.1 cx.2.1 cx.2.2.2.1 ((hX.2.2.2.2.2.2.2 3 (by decide)).1) dX9_readStatement_49 ?_
              refine q_cXV (As := [.ref (ad 3)]) (rest := []) cx hX hB (fun _ h => h) (fun _ h _ => h) hN hp0 kp0 (by decide) rfl (g_isWord_3 l g ad hN hB.2.1 hfl p0 hp0 kp0) q_cX9_48 q_dX8_isWord (by decide) rfl rfl hl.1 rfl (Nat.le_of_ble_eq_true rfl) dX9_readStatement_51 (fun E9 ce9 q9 H locs f63 hex hF hB hcell hcv hcl => ?_) (fun v9 H locs f60 h62 hF hB => ?_)
              · exact hex.elim
              · obtain ⟨y61, rfl, ry61, h62⟩ := h62
                refine W.eq (g2 := F0 m 54 ls [.int (q_i y61)]) rfl ?_
                obtain ⟨rfl, ly61, uy61⟩ := h62
                refine q_ifeq (tgt := 64) cx ⟨by omega, by omega⟩ dX9_readStatement_54 (by decide) (fun c64 => ?_) (fun c64 => ?_)
                · refine q_ald_n cx dX9_readStatement_64 rfl (lv_at hl 1 rfl) ?_
                  refine va_ldcS (q := ad 4) cx.1 cx.2.1 cx.2.2.2.1 ((hX.2.2.2.2.2.2.2 4 (by decide)).1) dX9_readStatement_65 ?_
                  refine q_cXV (As := [.ref (ad 4)]) (rest := []) cx hX hB (fun _ h => h) (fun _ h _ => h) hN hp0 kp0 (by decide) rfl (g_isWord_4 l g ad hN hB.2.1 hfl p0 hp0 kp0) q_cX9_48 q_dX8_isWord (by decide) rfl rfl hl.1 rfl (Nat.le_of_ble_eq_true rfl) dX9_readStatement_67 (fun E9 ce9 q9 H locs f68 hex hF hB hcell hcv hcl => ?_) (fun v9 H locs f65 h67 hF hB => ?_)
                  · exact hex.elim
                  · obtain ⟨y66, rfl, ry66, h67⟩ := h67
                    refine W.eq (g2 := F0 m 70 ls [.int (q_i y66)]) rfl ?_
                    obtain ⟨rfl, ly66, uy66⟩ := h67
                    refine q_ifeq (tgt := 80) cx ⟨by omega, by omega⟩ dX9_readStatement_70 (by decide) (fun c69 => ?_) (fun c69 => ?_)
                    · refine q_ald_n cx dX9_readStatement_80 rfl (lv_at hl 1 rfl) ?_
                      refine q_iconst cx dX9_readStatement_81 ?_
                      refine q_cVi (As := [.int (q_i 1)]) (rest := []) cx hB (fun _ h => h) hN hp0 kp0 (by decide) rfl (g_X8_fail l g hN hB.2.1 p0 hp0 kp0 1 (by decide) (by decide)) q_cX9_75 q_dX8_fail (by decide) rfl rfl hl.1 rfl (Nat.le_of_ble_eq_true rfl) dX9_readStatement_82 (fun y71 H locs f70 ry71 h72 hF hB => ?_)
                      obtain ⟨ly71, uy71⟩ := h72
                      refine W.widen (k := 0) (n := 0) (by decide) (by decide) ?_
                      refine vx_ret ?_
                      refine q_zret cx hr hlk hB dX9_readStatement_85 (by omega) (by omega) ?_
                      exact ⟨(by omega), (by omega)⟩
                    · refine q_ald_n cx dX9_readStatement_73 rfl (lv_at hl 0 rfl) ?_
                      refine q_ald_n cx dX9_readStatement_74 rfl (lv_at hl 1 rfl) ?_
                      refine q_ald_n cx dX9_readStatement_75 rfl (lv_at hl 2 rfl) ?_
                      refine q_cVi (As := [.ref p0, .ref p1]) (rest := []) cx hB (fun _ h => h) hN hv kv (by decide) rfl (g_X9_readLink l g hN hB.2.1 v hv kv p0 hp0 kp0 p1 hp1 kp1) q_cX9_72 q_dX9_readLink (by decide) rfl rfl hl.1 rfl (Nat.le_of_ble_eq_true rfl) dX9_readStatement_76 (fun y74 H locs f73 ry74 h75 hF hB => ?_)
                      obtain ⟨ly74, uy74⟩ := h75
                      refine W.widen (k := 0) (n := 0) (by decide) (by decide) ?_
                      refine vx_ret ?_
                      refine q_zret cx hr hlk hB dX9_readStatement_79 (by omega) (by omega) ?_
                      exact ⟨(by omega), (by omega)⟩
                · refine q_ald_n cx dX9_readStatement_57 rfl (lv_at hl 0 rfl) ?_
                  refine q_ald_n cx dX9_readStatement_58 rfl (lv_at hl 1 rfl) ?_
                  refine q_ald_n cx dX9_readStatement_59 rfl (lv_at hl 2 rfl) ?_
                  refine q_cXV (As := [.ref p0, .ref p1]) (rest := []) cx hX hB (fun _ h => h) (fun _ h _ => h) hN hv kv (by decide) rfl (g_X9_readNode l g ad hN hB.2.1 hfl v hv kv p0 hp0 kp0 p1 hp1 kp1) q_cX9_67 q_dX9_readNode (by decide) rfl rfl hl.1 rfl (Nat.le_of_ble_eq_true rfl) dX9_readStatement_60 (fun E9 ce9 q9 H locs f79 hex hF hB hcell hcv hcl => ?_) (fun v9 H locs f76 h78 hF hB => ?_)
                  · exact hex.elim
                  · obtain ⟨y77, rfl, ry77, h78⟩ := h78
                    refine W.eq (g2 := F0 m 63 ls [.int (q_i y77)]) rfl ?_
                    obtain ⟨ly77, uy77⟩ := h78
                    refine W.widen (k := 0) (n := 0) (by decide) (by decide) ?_
                    refine vx_ret ?_
                    refine q_zret cx hr hlk hB dX9_readStatement_63 (by omega) (by omega) ?_
                    exact ⟨(by omega), (by omega)⟩
            · refine q_ald_n cx dX9_readStatement_41 rfl (lv_at hl 0 rfl) ?_
              refine q_ald_n cx dX9_readStatement_42 rfl (lv_at hl 1 rfl) ?_
              refine q_ald_n cx dX9_readStatement_43 rfl (lv_at hl 2 rfl) ?_
              refine q_cVi (As := [.ref p0, .ref p1]) (rest := []) cx hB (fun _ h => h) hN hv kv (by decide) rfl (g_X9_readMiss l g hN hB.2.1 v hv kv p0 hp0 kp0 p1 hp1 kp1) q_cX9_62 q_dX9_readMiss (by decide) rfl rfl hl.1 rfl (Nat.le_of_ble_eq_true rfl) dX9_readStatement_44 (fun y81 H locs f80 ry81 h82 hF hB => ?_)
              obtain ⟨ly81, uy81⟩ := h82
              refine W.widen (k := 0) (n := 0) (by decide) (by decide) ?_
              refine vx_ret ?_
              refine q_zret cx hr hlk hB dX9_readStatement_47 (by omega) (by omega) ?_
              exact ⟨(by omega), (by omega)⟩
        · refine q_ald_n cx dX9_readStatement_25 rfl (lv_at hl 0 rfl) ?_
          refine q_ald_n cx dX9_readStatement_26 rfl (lv_at hl 1 rfl) ?_
          refine q_ald_n cx dX9_readStatement_27 rfl (lv_at hl 2 rfl) ?_
          refine q_cVi (As := [.ref p0, .ref p1]) (rest := []) cx hB (fun _ h => h) hN hv kv (by decide) rfl (g_X9_readCosts l g hN hB.2.1 v hv kv p0 hp0 kp0 p1 hp1 kp1) q_cX9_57 q_dX9_readCosts (by decide) rfl rfl hl.1 rfl (Nat.le_of_ble_eq_true rfl) dX9_readStatement_28 (fun y84 H locs f83 ry84 h85 hF hB => ?_)
          obtain ⟨ly84, uy84⟩ := h85
          refine W.widen (k := 0) (n := 0) (by decide) (by decide) ?_
          refine vx_ret ?_
          refine q_zret cx hr hlk hB dX9_readStatement_31 (by omega) (by omega) ?_
          exact ⟨(by omega), (by omega)⟩
    · refine q_ald_n cx dX9_readStatement_9 rfl (lv_at hl 0 rfl) ?_
      refine q_ald_n cx dX9_readStatement_10 rfl (lv_at hl 1 rfl) ?_
      refine q_ald_n cx dX9_readStatement_11 rfl (lv_at hl 2 rfl) ?_
      refine q_cVi (As := [.ref p0, .ref p1]) (rest := []) cx hB (fun _ h => h) hN hv kv (by decide) rfl (g_X9_readYear l g hN hB.2.1 v hv kv p0 hp0 kp0 p1 hp1 kp1) q_cX9_52 q_dX9_readYear (by decide) rfl rfl hl.1 rfl (Nat.le_of_ble_eq_true rfl) dX9_readStatement_12 (fun y87 H locs f86 ry87 h88 hF hB => ?_)
      obtain ⟨ly87, uy87⟩ := h88
      refine W.widen (k := 0) (n := 0) (by decide) (by decide) ?_
      refine vx_ret ?_
      refine q_zret cx hr hlk hB dX9_readStatement_15 (by omega) (by omega) ?_
      exact ⟨(by omega), (by omega)⟩
