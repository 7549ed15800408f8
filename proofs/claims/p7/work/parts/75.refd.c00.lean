set_option maxHeartbeats 4000000 in
set_option maxRecDepth 100000 in
theorem f_mcopiesNames_156_158 (l : Launch) (g : q_G) {K : Nat → Nat} {L : List Nat} (hN : L.Nodup) {f : Nat → va_E} (hT : q_Ty g K L f) (pp : Nat) (hpp : pp ∈ L) (kpp : K pp = 156) (qq : Nat) (hqq : qq ∈ L) (kqq : K qq = 158) : q_Ct l g K L yX12_copiesNames cX12_copiesNames 3 none 0 0 [.ref pp, .ref qq] f [(158, 0, 9)] (q_Pv (fun (f1 : Nat → va_E) => (∀ i : Nat, i < 10 → q_j f1 qq i = q_j f pp i))) := by
  refine q_ofb (by decide +kernel) hN hT (Nat.le_of_ble_eq_true rfl) ?_
  intro p e s m below meth c ls cx hr hlk hB hl
  have hl : lv_has ls 3 [(0, .ref pp), (1, .ref qq)] := hl
  have J2 : ∀ (n : Nat) (f2 : Nat → va_E) (v2_2 : Int) (lv2_2 : 0 ≤ v2_2) (uv2_2 : v2_2 ≤ 10) (hcn : ∀ i : Nat, (i : Int) < v2_2 → q_j f2 qq i = q_j f pp i) (hmu : (Int.toNat (2147483647 - v2_2)) < n) (H : Heap) (locs : List Loc) (hB : q_B g K L (fun q => q ∈ L) [(158, 0, 9)] f f2 s H locs) (ls : Array Slot) (hl : lv_has ls 3 [(0, .ref pp), (1, .ref qq), (2, .int (q_i v2_2))]), W p l e { frames := 0, cells := 0, slots := 0, locals := 0 } s m ([.ref pp, .ref qq] : List Value).toArray below meth c H locs 0 0 (MQ below (q_Q g K L [(158, 0, 9)] f (q_Pv (fun (f1 : Nat → va_E) => (∀ i : Nat, i < 10 → q_j f1 qq i = q_j f pp i)))) ([.ref pp, .ref qq] : List Value).toArray s 0 0 (fun q => q ∈ L)) (F0 m 2 ls []) := by
    intro n
    induction n with
    | zero =>
      intro f2 v2_2 lv2_2 uv2_2 hcn hmu
      exact absurd hmu (Nat.not_lt_zero _)
    | succ n ih2 =>
      intro f2 v2_2 lv2_2 uv2_2 hcn hmu H locs hB ls hl
      refine q_ild_n cx dX12_copiesNames_2 rfl (lv_at hl 2 rfl) ?_
      refine q_bipush cx dX12_copiesNames_3 rfl ?_
      refine q_icge (tgt := 20) cx ⟨by omega, by omega⟩ ⟨by decide, by decide⟩ dX12_copiesNames_5 (by decide) (fun c41 => ?_) (fun c41 => ?_)
      · refine q_vret cx hr hlk hB dX12_copiesNames_20 ?_
        exact (fun i9 h9 => hcn i9 (by omega))
      · refine q_ald_n cx dX12_copiesNames_8 rfl (lv_at hl 1 rfl) ?_
        refine q_ild_n cx dX12_copiesNames_9 rfl (lv_at hl 2 rfl) ?_
        refine q_ald_n cx dX12_copiesNames_10 rfl (lv_at hl 0 rfl) ?_
        refine q_ild_n cx dX12_copiesNames_11 rfl (lv_at hl 2 rfl) ?_
        obtain ⟨j42, ej42⟩ : ∃ zz, q_j f2 pp (Int.toNat v2_2) = zz := ⟨_, rfl⟩
        refine q_lald (n := 10) cx hB hpp kpp (by decide) rfl rfl (by omega) (by omega) (by decide) rfl ej42 dX12_copiesNames_12 ?_
        have hf9 := hB.2.2.j (i := Int.toNat v2_2) hpp (by rw [kpp]; rfl)
        refine q_last (n := 10) cx hB hqq kqq (by decide) rfl rfl (by omega) (by omega) (by decide) rfl (q_inWi (lo := 0) (hi := 9) (by decide) (by omega) (by omega)) dX12_copiesNames_13 (fun H locs f43 ef43 z44 hB => ?_)
        refine q_iinc (lv' := [(2, .int (q_i (v2_2 + 1))), (0, .ref pp), (1, .ref qq)]) cx dX12_copiesNames_14 hl (k := 2) rfl (by decide) rfl (fun ls hl => ?_)
        refine lv_goto (tgt := 2) cx.1 cx.2.1 dX12_copiesNames_17 (by decide) ?_
        exact ih2 f43 (v2_2 + 1) (by omega) (by omega) (tk_cn_step hcn ef43 z44 ej42 hf9 (by omega)) (by omega) H locs hB ls (lv_sub hl [1, 2, 0] rfl)
  obtain ⟨H, hH⟩ : ∃ H : Heap, H = s.heap := ⟨_, rfl⟩
  obtain ⟨locs, hlocs⟩ : ∃ z : List Loc, z = [] := ⟨_, rfl⟩
  rw [← hH, ← hlocs] at hB
  rw [← hH, ← hlocs]
  refine q_iconst cx dX12_copiesNames_0 ?_
  refine lv_istore_n (lv' := [(2, .int (q_i 0)), (0, .ref pp), (1, .ref qq)]) cx.1 cx.2.1 dX12_copiesNames_1 rfl hl (by decide) rfl (fun ls hl => ?_)
  exact J2 ((Int.toNat (2147483647 - 0)) + 1) f 0 (by decide) (by decide) (fun i9 h9 => absurd h9 (by omega)) (Nat.lt_succ_self _) H locs hB ls (lv_sub hl [1, 2, 0] rfl)
set_option maxHeartbeats 4000000 in
set_option maxRecDepth 100000 in
theorem f_mcopiesNames_156_157 (l : Launch) (g : q_G) {K : Nat → Nat} {L : List Nat} (hN : L.Nodup) {f : Nat → va_E} (hT : q_Ty g K L f) (pp : Nat) (hpp : pp ∈ L) (kpp : K pp = 156) (qq : Nat) (hqq : qq ∈ L) (kqq : K qq = 157) : q_Ct l g K L yX12_copiesNames cX12_copiesNames 3 none 0 0 [.ref pp, .ref qq] f [(157, 0, 9)] (q_Pv (fun (f1 : Nat → va_E) => (∀ i : Nat, i < 10 → q_j f1 qq i = q_j f pp i))) := by
  refine q_ofb (by decide +kernel) hN hT (Nat.le_of_ble_eq_true rfl) ?_
  intro p e s m below meth c ls cx hr hlk hB hl
  have hl : lv_has ls 3 [(0, .ref pp), (1, .ref qq)] := hl
  have J2 : ∀ (n : Nat) (f2 : Nat → va_E) (v2_2 : Int) (lv2_2 : 0 ≤ v2_2) (uv2_2 : v2_2 ≤ 10) (hcn : ∀ i : Nat, (i : Int) < v2_2 → q_j f2 qq i = q_j f pp i) (hmu : (Int.toNat (2147483647 - v2_2)) < n) (H : Heap) (locs : List Loc) (hB : q_B g K L (fun q => q ∈ L) [(157, 0, 9)] f f2 s H locs) (ls : Array Slot) (hl : lv_has ls 3 [(0, .ref pp), (1, .ref qq), (2, .int (q_i v2_2))]), W p l e { frames := 0, cells := 0, slots := 0, locals := 0 } s m ([.ref pp, .ref qq] : List Value).toArray below meth c H locs 0 0 (MQ below (q_Q g K L [(157, 0, 9)] f (q_Pv (fun (f1 : Nat → va_E) => (∀ i : Nat, i < 10 → q_j f1 qq i = q_j f pp i)))) ([.ref pp, .ref qq] : List Value).toArray s 0 0 (fun q => q ∈ L)) (F0 m 2 ls []) := by
    intro n
    induction n with
    | zero =>
      intro f2 v2_2 lv2_2 uv2_2 hcn hmu
      exact absurd hmu (Nat.not_lt_zero _)
    | succ n ih2 =>
      intro f2 v2_2 lv2_2 uv2_2 hcn hmu H locs hB ls hl
      refine q_ild_n cx dX12_copiesNames_2 rfl (lv_at hl 2 rfl) ?_
      refine q_bipush cx dX12_copiesNames_3 rfl ?_
      refine q_icge (tgt := 20) cx ⟨by omega, by omega⟩ ⟨by decide, by decide⟩ dX12_copiesNames_5 (by decide) (fun c41 => ?_) (fun c41 => ?_)
      · refine q_vret cx hr hlk hB dX12_copiesNames_20 ?_
        exact (fun i9 h9 => hcn i9 (by omega))
      · refine q_ald_n cx dX12_copiesNames_8 rfl (lv_at hl 1 rfl) ?_
        refine q_ild_n cx dX12_copiesNames_9 rfl (lv_at hl 2 rfl) ?_
        refine q_ald_n cx dX12_copiesNames_10 rfl (lv_at hl 0 rfl) ?_
        refine q_ild_n cx dX12_copiesNames_11 rfl (lv_at hl 2 rfl) ?_
        obtain ⟨j42, ej42⟩ : ∃ zz, q_j f2 pp (Int.toNat v2_2) = zz := ⟨_, rfl⟩
        refine q_lald (n := 10) cx hB hpp kpp (by decide) rfl rfl (by omega) (by omega) (by decide) rfl ej42 dX12_copiesNames_12 ?_
        have hf9 := hB.2.2.j (i := Int.toNat v2_2) hpp (by rw [kpp]; rfl)
        refine q_last (n := 10) cx hB hqq kqq (by decide) rfl rfl (by omega) (by omega) (by decide) rfl (q_inWi (lo := 0) (hi := 9) (by decide) (by omega) (by omega)) dX12_copiesNames_13 (fun H locs f43 ef43 z44 hB => ?_)
        refine q_iinc (lv' := [(2, .int (q_i (v2_2 + 1))), (0, .ref pp), (1, .ref qq)]) cx dX12_copiesNames_14 hl (k := 2) rfl (by decide) rfl (fun ls hl => ?_)
        refine lv_goto (tgt := 2) cx.1 cx.2.1 dX12_copiesNames_17 (by decide) ?_
        exact ih2 f43 (v2_2 + 1) (by omega) (by omega) (tk_cn_step hcn ef43 z44 ej42 hf9 (by omega)) (by omega) H locs hB ls (lv_sub hl [1, 2, 0] rfl)
  obtain ⟨H, hH⟩ : ∃ H : Heap, H = s.heap := ⟨_, rfl⟩
  obtain ⟨locs, hlocs⟩ : ∃ z : List Loc, z = [] := ⟨_, rfl⟩
  rw [← hH, ← hlocs] at hB
  rw [← hH, ← hlocs]
  refine q_iconst cx dX12_copiesNames_0 ?_
  refine lv_istore_n (lv' := [(2, .int (q_i 0)), (0, .ref pp), (1, .ref qq)]) cx.1 cx.2.1 dX12_copiesNames_1 rfl hl (by decide) rfl (fun ls hl => ?_)
  exact J2 ((Int.toNat (2147483647 - 0)) + 1) f 0 (by decide) (by decide) (fun i9 h9 => absurd h9 (by omega)) (Nat.lt_succ_self _) H locs hB ls (lv_sub hl [1, 2, 0] rfl)
set_option maxHeartbeats 4000000 in
set_option maxRecDepth 100000 in
theorem f_mcopiesNames_158_156 (l : Launch) (g : q_G) {K : Nat → Nat} {L : List Nat} (hN : L.Nodup) {f : Nat → va_E} (hT : q_Ty g K L f) (pp : Nat) (hpp : pp ∈ L) (kpp : K pp = 158) (qq : Nat) (hqq : qq ∈ L) (kqq : K qq = 156) : q_Ct l g K L yX12_copiesNames cX12_copiesNames 3 none 0 0 [.ref pp, .ref qq] f [(156, 0, 9)] (q_Pv (fun (f1 : Nat → va_E) => (∀ i : Nat, i < 10 → q_j f1 qq i = q_j f pp i))) := by
  refine q_ofb (by decide +kernel) hN hT (Nat.le_of_ble_eq_true rfl) ?_
  intro p e s m below meth c ls cx hr hlk hB hl
  have hl : lv_has ls 3 [(0, .ref pp), (1, .ref qq)] := hl
  have J2 : ∀ (n : Nat) (f2 : Nat → va_E) (v2_2 : Int) (lv2_2 : 0 ≤ v2_2) (uv2_2 : v2_2 ≤ 10) (hcn : ∀ i : Nat, (i : Int) < v2_2 → q_j f2 qq i = q_j f pp i) (hmu : (Int.toNat (2147483647 - v2_2)) < n) (H : Heap) (locs : List Loc) (hB : q_B g K L (fun q => q ∈ L) [(156, 0, 9)] f f2 s H locs) (ls : Array Slot) (hl : lv_has ls 3 [(0, .ref pp), (1, .ref qq), (2, .int (q_i v2_2))]), W p l e { frames := 0, cells := 0, slots := 0, locals := 0 } s m ([.ref pp, .ref qq] : List Value).toArray below meth c H locs 0 0 (MQ below (q_Q g K L [(156, 0, 9)] f (q_Pv (fun (f1 : Nat → va_E) => (∀ i : Nat, i < 10 → q_j f1 qq i = q_j f pp i)))) ([.ref pp, .ref qq] : List Value).toArray s 0 0 (fun q => q ∈ L)) (F0 m 2 ls []) := by
    intro n
    induction n with
    | zero =>
      intro f2 v2_2 lv2_2 uv2_2 hcn hmu
      exact absurd hmu (Nat.not_lt_zero _)
    | succ n ih2 =>
      intro f2 v2_2 lv2_2 uv2_2 hcn hmu H locs hB ls hl
      refine q_ild_n cx dX12_copiesNames_2 rfl (lv_at hl 2 rfl) ?_
      refine q_bipush cx dX12_copiesNames_3 rfl ?_
      refine q_icge (tgt := 20) cx ⟨by omega, by omega⟩ ⟨by decide, by decide⟩ dX12_copiesNames_5 (by decide) (fun c41 => ?_) (fun c41 => ?_)
      · refine q_vret cx hr hlk hB dX12_copiesNames_20 ?_
        exact (fun i9 h9 => hcn i9 (by omega))
      · refine q_ald_n cx dX12_copiesNames_8 rfl (lv_at hl 1 rfl) ?_
        refine q_ild_n cx dX12_copiesNames_9 rfl (lv_at hl 2 rfl) ?_
        refine q_ald_n cx dX12_copiesNames_10 rfl (lv_at hl 0 rfl) ?_
        refine q_ild_n cx dX12_copiesNames_11 rfl (lv_at hl 2 rfl) ?_
        obtain ⟨j42, ej42⟩ : ∃ zz, q_j f2 pp (Int.toNat v2_2) = zz := ⟨_, rfl⟩
        refine q_lald (n := 10) cx hB hpp kpp (by decide) rfl rfl (by omega) (by omega) (by decide) rfl ej42 dX12_copiesNames_12 ?_
        have hf9 := hB.2.2.j (i := Int.toNat v2_2) hpp (by rw [kpp]; rfl)
        refine q_last (n := 10) cx hB hqq kqq (by decide) rfl rfl (by omega) (by omega) (by decide) rfl (q_inWi (lo := 0) (hi := 9) (by decide) (by omega) (by omega)) dX12_copiesNames_13 (fun H locs f43 ef43 z44 hB => ?_)
        refine q_iinc (lv' := [(2, .int (q_i (v2_2 + 1))), (0, .ref pp), (1, .ref qq)]) cx dX12_copiesNames_14 hl (k := 2) rfl (by decide) rfl (fun ls hl => ?_)
        refine lv_goto (tgt := 2) cx.1 cx.2.1 dX12_copiesNames_17 (by decide) ?_
        exact ih2 f43 (v2_2 + 1) (by omega) (by omega) (tk_cn_step hcn ef43 z44 ej42 hf9 (by omega)) (by omega) H locs hB ls (lv_sub hl [1, 2, 0] rfl)
  obtain ⟨H, hH⟩ : ∃ H : Heap, H = s.heap := ⟨_, rfl⟩
  obtain ⟨locs, hlocs⟩ : ∃ z : List Loc, z = [] := ⟨_, rfl⟩
  rw [← hH, ← hlocs] at hB
  rw [← hH, ← hlocs]
  refine q_iconst cx dX12_copiesNames_0 ?_
  refine lv_istore_n (lv' := [(2, .int (q_i 0)), (0, .ref pp), (1, .ref qq)]) cx.1 cx.2.1 dX12_copiesNames_1 rfl hl (by decide) rfl (fun ls hl => ?_)
  exact J2 ((Int.toNat (2147483647 - 0)) + 1) f 0 (by decide) (by decide) (fun i9 h9 => absurd h9 (by omega)) (Nat.lt_succ_self _) H locs hB ls (lv_sub hl [1, 2, 0] rfl)
set_option maxHeartbeats 4000000 in
set_option maxRecDepth 100000 in
theorem f_mcopiesNames_157_156 (l : Launch) (g : q_G) {K : Nat → Nat} {L : List Nat} (hN : L.Nodup) {f : Nat → va_E} (hT : q_Ty g K L f) (pp : Nat) (hpp : pp ∈ L) (kpp : K pp = 157) (qq : Nat) (hqq : qq ∈ L) (kqq : K qq = 156) : q_Ct l g K L yX12_copiesNames cX12_copiesNames 3 none 0 0 [.ref pp, .ref qq] f [(156, 0, 9)] (q_Pv (fun (f1 : Nat → va_E) => (∀ i : Nat, i < 10 → q_j f1 qq i = q_j f pp i))) := by
  refine q_ofb (by decide +kernel) hN hT (Nat.le_of_ble_eq_true rfl) ?_
  intro p e s m below meth c ls cx hr hlk hB hl
  have hl : lv_has ls 3 [(0, .ref pp), (1, .ref qq)] := hl
  have J2 : ∀ (n : Nat) (f2 : Nat → va_E) (v2_2 : Int) (lv2_2 : 0 ≤ v2_2) (uv2_2 : v2_2 ≤ 10) (hcn : ∀ i : Nat, (i : Int) < v2_2 → q_j f2 qq i = q_j f pp i) (hmu : (Int.toNat (2147483647 - v2_2)) < n) (H : Heap) (locs : List Loc) (hB : q_B g K L (fun q => q ∈ L) [(156, 0, 9)] f f2 s H locs) (ls : Array Slot) (hl : lv_has ls 3 [(0, .ref pp), (1, .ref qq), (2, .int (q_i v2_2))]), W p l e { frames := 0, cells := 0, slots := 0, locals := 0 } s m ([.ref pp, .ref qq] : List Value).toArray below meth c H locs 0 0 (MQ below (q_Q g K L [(156, 0, 9)] f (q_Pv (fun (f1 : Nat → va_E) => (∀ i : Nat, i < 10 → q_j f1 qq i = q_j f pp i)))) ([.ref pp, .ref qq] : List Value).toArray s 0 0 (fun q => q ∈ L)) (F0 m 2 ls []) := by
    intro n
    induction n with
    | zero =>
      intro f2 v2_2 lv2_2 uv2_2 hcn hmu
      exact absurd hmu (Nat.not_lt_zero _)
    | succ n ih2 =>
      intro f2 v2_2 lv2_2 uv2_2 hcn hmu H locs hB ls hl
      refine q_ild_n cx dX12_copiesNames_2 rfl (lv_at hl 2 rfl) ?_
      refine q_bipush cx dX12_copiesNames_3 rfl ?_
      refine q_icge (tgt := 20) cx ⟨by omega, by omega⟩ ⟨by decide, by decide⟩ dX12_copiesNames_5 (by decide) (fun c41 => ?_) (fun c41 => ?_)
      · refine q_vret cx hr hlk hB dX12_copiesNames_20 ?_
        exact (fun i9 h9 => hcn i9 (by omega))
      · refine q_ald_n cx dX12_copiesNames_8 rfl (lv_at hl 1 rfl) ?_
        refine q_ild_n cx dX12_copiesNames_9 rfl (lv_at hl 2 rfl) ?_
        refine q_ald_n cx dX12_copiesNames_10 rfl (lv_at hl 0 rfl) ?_
        refine q_ild_n cx dX12_copiesNames_11 rfl (lv_at hl 2 rfl) ?_
        obtain ⟨j42, ej42⟩ : ∃ zz, q_j f2 pp (Int.toNat v2_2) = zz := ⟨_, rfl⟩
        refine q_lald (n := 10) cx hB hpp kpp (by decide) rfl rfl (by omega) (by omega) (by decide) rfl ej42 dX12_copiesNames_12 ?_
        have hf9 := hB.2.2.j (i := Int.toNat v2_2) hpp (by rw [kpp]; rfl)
        refine q_last (n := 10) cx hB hqq kqq (by decide) rfl rfl (by omega) (by omega) (by decide) rfl (q_inWi (lo := 0) (hi := 9) (by decide) (by omega) (by omega)) dX12_copiesNames_13 (fun H locs f43 ef43 z44 hB => ?_)
        refine q_iinc (lv' := [(2, .int (q_i (v2_2 + 1))), (0, .ref pp), (1, .ref qq)]) cx dX12_copiesNames_14 hl (k := 2) rfl (by decide) rfl (fun ls hl => ?_)
        refine lv_goto (tgt := 2) cx.1 cx.2.1 dX12_copiesNames_17 (by decide) ?_
        exact ih2 f43 (v2_2 + 1) (by omega) (by omega) (tk_cn_step hcn ef43 z44 ej42 hf9 (by omega)) (by omega) H locs hB ls (lv_sub hl [1, 2, 0] rfl)
  obtain ⟨H, hH⟩ : ∃ H : Heap, H = s.heap := ⟨_, rfl⟩
  obtain ⟨locs, hlocs⟩ : ∃ z : List Loc, z = [] := ⟨_, rfl⟩
  rw [← hH, ← hlocs] at hB
  rw [← hH, ← hlocs]
  refine q_iconst cx dX12_copiesNames_0 ?_
  refine lv_istore_n (lv' := [(2, .int (q_i 0)), (0, .ref pp), (1, .ref qq)]) cx.1 cx.2.1 dX12_copiesNames_1 rfl hl (by decide) rfl (fun ls hl => ?_)
  exact J2 ((Int.toNat (2147483647 - 0)) + 1) f 0 (by decide) (by decide) (fun i9 h9 => absurd h9 (by omega)) (Nat.lt_succ_self _) H locs hB ls (lv_sub hl [1, 2, 0] rfl)
set_option maxHeartbeats 4000000 in
set_option maxRecDepth 100000 in
theorem f_msave (l : Launch) (g : q_G) {K : Nat → Nat} {L : List Nat} (hN : L.Nodup) {f : Nat → va_E} (hT : q_Ty g K L f) (nl9 : List (List Int)) (ls9 : List (List Int)) (mo : Nat) (hmo : mo ∈ L) (kmo : K mo = 12) (sr : Nat) (hsr : sr ∈ L) (ksr : K sr = 151) (sd : Nat) (hsd : sd ∈ L) (ksd : K sd = 152) (nm : Nat) (hnm : nm ∈ L) (knm : K nm = 156) (snm : Nat) (hsnm : snm ∈ L) (ksnm : K snm = 157) (xt : Int) (lxt : 0 ≤ xt) (uxt : xt ≤ 9999) (xm : Int) (lxm : 0 ≤ xm) (uxm : xm ≤ 60) (xc : Int) (lxc : 0 ≤ xc) (uxc : xc ≤ 10) (hf0 : q_is (q_z f sr 3) xt) (hf1 : q_is (q_z f sr 4) xm) (hf2 : q_is (q_z f sr 0) xc) (hr0 : q_ir (q_r f mo 13) sr) (hr1 : q_ir (q_r f mo 14) sd) (hr2 : q_ir (q_r f mo 18) nm) (hr3 : q_ir (q_r f mo 19) snm) (hp0 : (nl9.length : Int) = xc) (hgr : q_gr f sr) (hrn : tk_nq f nm nl9) : q_Ct l g K L yX12_save cX12_save 1 (some .int) 1 24 [.ref mo] f [(12, 0, 0), (12, 22, 22), (152, 0, 657), (157, 0, 9)] (q_Pi (fun (z : Int) (f1 : Nat → va_E) => q_is (q_z f1 mo 22) 1 ∧ (q_sv f1 mo sd) ∧ (tk_rs f1 mo sd snm nl9))) := by
  refine q_ofb (by decide +kernel) hN hT (Nat.le_of_ble_eq_true rfl) ?_
  intro p e s m below meth c ls cx hr hlk hB hl
  have hl : lv_has ls 1 [(0, .ref mo)] := hl
  obtain ⟨H, hH⟩ : ∃ H : Heap, H = s.heap := ⟨_, rfl⟩
  obtain ⟨locs, hlocs⟩ : ∃ z : List Loc, z = [] := ⟨_, rfl⟩
  rw [← hH, ← hlocs] at hB
  rw [← hH, ← hlocs]
  refine q_ald_n cx dX12_save_0 rfl (lv_at hl 0 rfl) ?_
  refine q_iconst cx dX12_save_1 ?_
  refine q_pX12_75 cx hB hmo kmo ⟨by decide, by decide⟩ (by decide) (by decide) rfl dX12_save_2 (fun H locs f66 ef66 z67 hB => ?_)
  have z68 : q_is (q_z f66 sr 3) xt := by rw [ef66, q_setz (Or.inr (by decide))]; exact hf0
  have z69 : q_is (q_z f66 sr 4) xm := by rw [ef66, q_setz (Or.inr (by decide))]; exact hf1
  have z70 : q_is (q_z f66 sr 0) xc := by rw [ef66, q_setz (Or.inl (fun q => by rw [q, kmo] at ksr; exact absurd ksr (by decide)))]; exact hf2
  have z71 : q_ir (q_r f66 mo 13) sr := by rw [ef66, q_setr (Or.inr (by decide))]; exact hr0
  have z72 : q_ir (q_r f66 mo 14) sd := by rw [ef66, q_setr (Or.inr (by decide))]; exact hr1
  have z73 : q_ir (q_r f66 mo 18) nm := by rw [ef66, q_setr (Or.inr (by decide))]; exact hr2
  have z74 : q_ir (q_r f66 mo 19) snm := by rw [ef66, q_setr (Or.inr (by decide))]; exact hr3
  have g75 : q_gr f66 sr := q_gr_ne hgr ef66 (fun q => q_kne (k := 151) (k2 := 12) (by decide) ksr kmo q)
  have g76 : tk_nq f66 nm nl9 := tk_nq_tr hrn (fun i9 => by rw [ef66, q_setj (Or.inl (fun q => by rw [q, kmo] at knm; exact absurd knm (by decide)))])
  refine q_ald_n cx dX12_save_5 rfl (lv_at hl 0 rfl) ?_
  refine q_gX12_20 cx hB hmo kmo z71 dX12_save_6 (fun hb77 kb77 => ?_)
  refine q_iconst cx dX12_save_9 ?_
  refine q_ald_n cx dX12_save_10 rfl (lv_at hl 0 rfl) ?_
  refine q_gX12_23 cx hB hmo kmo z72 dX12_save_11 (fun hb78 kb78 => ?_)
  refine q_iconst cx dX12_save_14 ?_
  refine q_cSv (As := [.ref sr, .int (q_i 0), .ref sd, .int (q_i 0)]) (rest := []) cx hB (fun _ h => h) hN (r_copiesRow_sr_sd l g hN hB.2.1 sr hsr ksr 0 (by decide) (by decide) sd hsd ksd 0 (by decide) (by decide) xt (by omega) (by omega) xm (by omega) (by omega) xc (by omega) (by omega) z68 z69 z70 g75) q_cX12_154 q_dX12_copiesRow (by decide) rfl rfl hl.1 rfl (Nat.le_of_ble_eq_true rfl) dX12_save_15 (fun H locs f79 h81 hF hB => ?_)
  have t82 := h81
  have z83 : q_is (q_z f79 sr 3) xt := Eq.trans (hF.z hsr (by rw [ksr]; rfl)) z68
  have z84 : q_is (q_z f79 sr 4) xm := Eq.trans (hF.z hsr (by rw [ksr]; rfl)) z69
  have z85 : q_is (q_z f79 sr 0) xc := Eq.trans (hF.z hsr (by rw [ksr]; rfl)) z70
  have z86 : q_is (q_z f79 mo 0) 0 := Eq.trans (hF.z hmo (by rw [kmo]; rfl)) z67
  have z87 : q_ir (q_r f79 mo 13) sr := Eq.trans (hF.r hmo (by rw [kmo]; rfl)) z71
  have z88 : q_ir (q_r f79 mo 14) sd := Eq.trans (hF.r hmo (by rw [kmo]; rfl)) z72
  have z89 : q_ir (q_r f79 mo 18) nm := Eq.trans (hF.r hmo (by rw [kmo]; rfl)) z73
  have z90 : q_ir (q_r f79 mo 19) snm := Eq.trans (hF.r hmo (by rw [kmo]; rfl)) z74
  have g91 : q_gr f79 sr := q_gr_fr g75 (fun i9 _ => hF.z hsr (by rw [ksr]; rfl))
  have g92 : tk_nq f79 nm nl9 := tk_nq_tr g76 (fun i9 => hF.j hnm (by rw [knm]; rfl))
  have hy9 : q_z f79 sd 2 = q_z f66 sr 2 := t82 2 (by decide) (by decide)
  obtain ⟨x93, ex93⟩ : ∃ zz, q_is (q_z f79 sd 2) zz := ⟨_, q_isr _⟩
  obtain ⟨lx93, ux93⟩ : 4 ≤ x93 ∧ x93 ≤ 60 := q_isb ex93 (by rw [hy9]; exact g75 2 (by decide))
  have hy8 : q_is (q_z f79 sd 0) xc := Eq.trans (t82 0 (by decide) (by decide)) z70
  refine q_ald_n cx dX12_save_18 rfl (lv_at hl 0 rfl) ?_
  refine q_gX12_35 cx hB hmo kmo z89 dX12_save_19 (fun hb94 kb94 => ?_)
  refine q_ald_n cx dX12_save_22 rfl (lv_at hl 0 rfl) ?_
  refine q_gX12_39 cx hB hmo kmo z90 dX12_save_23 (fun hb95 kb95 => ?_)
  refine q_cSv (As := [.ref nm, .ref snm]) (rest := []) cx hB (fun _ h => h) hN (f_mcopiesNames_156_157 l g hN hB.2.1 nm hnm knm snm hsnm ksnm) q_cX12_164 q_dX12_copiesNames (by decide) rfl rfl hl.1 rfl (Nat.le_of_ble_eq_true rfl) dX12_save_26 (fun H locs f96 h98 hF hB => ?_)
  have t99 := h98
  have z100 : q_is (q_z f96 sr 3) xt := Eq.trans (hF.z hsr (by rw [ksr]; rfl)) z83
  have z101 : q_is (q_z f96 sr 4) xm := Eq.trans (hF.z hsr (by rw [ksr]; rfl)) z84
  have z102 : q_is (q_z f96 sr 0) xc := Eq.trans (hF.z hsr (by rw [ksr]; rfl)) z85
  have z103 : q_is (q_z f96 mo 0) 0 := Eq.trans (hF.z hmo (by rw [kmo]; rfl)) z86
  have z104 : q_is (q_z f96 sd 2) x93 := Eq.trans (hF.z hsd (by rw [ksd]; rfl)) ex93
  have z105 : q_is (q_z f96 sd 0) xc := Eq.trans (hF.z hsd (by rw [ksd]; rfl)) hy8
  have z106 : q_ir (q_r f96 mo 13) sr := Eq.trans (hF.r hmo (by rw [kmo]; rfl)) z87
  have z107 : q_ir (q_r f96 mo 14) sd := Eq.trans (hF.r hmo (by rw [kmo]; rfl)) z88
  have z108 : q_ir (q_r f96 mo 18) nm := Eq.trans (hF.r hmo (by rw [kmo]; rfl)) z89
  have z109 : q_ir (q_r f96 mo 19) snm := Eq.trans (hF.r hmo (by rw [kmo]; rfl)) z90
  have g110 : q_gr f96 sr := q_gr_fr g91 (fun i9 _ => hF.z hsr (by rw [ksr]; rfl))
  have g111 : tk_nq f96 nm nl9 := tk_nq_tr g92 (fun i9 => hF.j hnm (by rw [knm]; rfl))
  have g112 : tk_nq f96 snm nl9 := tk_nq_cp g92 t99
  refine q_ald_n cx dX12_save_29 rfl (lv_at hl 0 rfl) ?_
  refine q_iconst cx dX12_save_30 ?_
  refine q_pX12_168 cx hB hmo kmo ⟨by decide, by decide⟩ (by decide) (by decide) rfl dX12_save_31 (fun H locs f113 ef113 z114 hB => ?_)
  have z115 : q_is (q_z f113 sr 3) xt := by rw [ef113, q_setz (Or.inr (by decide))]; exact z100
  have z116 : q_is (q_z f113 sr 4) xm := by rw [ef113, q_setz (Or.inr (by decide))]; exact z101
  have z117 : q_is (q_z f113 sr 0) xc := by rw [ef113, q_setz (Or.inr (by decide))]; exact z102
  have z118 : q_is (q_z f113 mo 0) 0 := by rw [ef113, q_setz (Or.inr (by decide))]; exact z103
  have z119 : q_is (q_z f113 sd 2) x93 := by rw [ef113, q_setz (Or.inr (by decide))]; exact z104
  have z120 : q_is (q_z f113 sd 0) xc := by rw [ef113, q_setz (Or.inr (by decide))]; exact z105
  have z121 : q_ir (q_r f113 mo 13) sr := by rw [ef113, q_setr (Or.inr (by decide))]; exact z106
  have z122 : q_ir (q_r f113 mo 14) sd := by rw [ef113, q_setr (Or.inr (by decide))]; exact z107
  have z123 : q_ir (q_r f113 mo 18) nm := by rw [ef113, q_setr (Or.inr (by decide))]; exact z108
  have z124 : q_ir (q_r f113 mo 19) snm := by rw [ef113, q_setr (Or.inr (by decide))]; exact z109
  have g125 : q_gr f113 sr := q_gr_ne g110 ef113 (fun q => q_kne (k := 151) (k2 := 12) (by decide) ksr kmo q)
  have g126 : tk_nq f113 nm nl9 := tk_nq_tr g111 (fun i9 => by rw [ef113, q_setj (Or.inl (fun q => by rw [q, kmo] at knm; exact absurd knm (by decide)))])
  have g127 : tk_nq f113 snm nl9 := tk_nq_tr g112 (fun i9 => by rw [ef113, q_setj (Or.inl (fun q => by rw [q, kmo] at ksnm; exact absurd ksnm (by decide)))])
  have hsv9 : q_sv f113 mo sd := fun _ => q_isl z119 (by omega)
  have hrs9 : tk_rs f113 mo sd snm nl9 := fun _ => ⟨Eq.trans z120 hp0.symm, g127⟩
  refine q_ald_n cx dX12_save_34 rfl (lv_at hl 0 rfl) ?_
  refine q_gX12_20 cx hB hmo kmo z121 dX12_save_35 (fun hb128 kb128 => ?_)
  refine q_iconst cx dX12_save_38 ?_
  refine q_iald (lo := (-2147483648)) (hi := 2147483647) (n := 658) cx hB hsr ksr (by decide) rfl rfl (by decide) (by decide) (by decide) rfl z115 dX12_save_39 (fun lb130 ub130 => ?_)
  refine q_iret cx hr hlk hB dX12_save_40 ⟨by omega, by omega⟩ ?_
  exact ⟨z114, hsv9, hrs9⟩
set_option maxHeartbeats 4000000 in
set_option maxRecDepth 100000 in
theorem f_mrestore (l : Launch) (g : q_G) {K : Nat → Nat} {L : List Nat} (hN : L.Nodup) {f : Nat → va_E} (hT : q_Ty g K L f) (ls9 : List (List Int)) (mo : Nat) (hmo : mo ∈ L) (kmo : K mo = 12) (sr : Nat) (hsr : sr ∈ L) (ksr : K sr = 151) (sd : Nat) (hsd : sd ∈ L) (ksd : K sd = 152) (nm : Nat) (hnm : nm ∈ L) (knm : K nm = 156) (snm : Nat) (hsnm : snm ∈ L) (ksnm : K snm = 157) (pa : Nat) (hpa : pa ∈ L) (kpa : K pa = 155) (xt : Int) (lxt : 0 ≤ xt) (uxt : xt ≤ 9999) (xm : Int) (lxm : 0 ≤ xm) (uxm : xm ≤ 60) (xs : Int) (lxs : 0 ≤ xs) (uxs : xs ≤ 10) (hf0 : q_is (q_z f sr 3) xt) (hf1 : q_is (q_z f sr 4) xm) (hf2 : q_is (q_z f mo 22) 1) (hf3 : q_is (q_z f sd 0) xs) (hr0 : q_ir (q_r f mo 13) sr) (hr1 : q_ir (q_r f mo 14) sd) (hr2 : q_ir (q_r f mo 18) nm) (hr3 : q_ir (q_r f mo 19) snm) (hr4 : q_ir (q_r f mo 17) pa) (hgr : q_gr f sr) (hpk : q_pk f mo pa) (hsv : q_sv f mo sd) (hrs : tk_rs f mo sd snm ls9) : q_Ct l g K L yX12_restore cX12_restore 1 (some .int) 2 41 [.ref mo] f [(12, 0, 0), (12, 21, 21), (151, 0, 657), (156, 0, 9)] (q_Pi (fun (z : Int) (f1 : Nat → va_E) => 0 ≤ q_z f1 sr 3 ∧ q_z f1 sr 3 ≤ 9999 ∧ 0 ≤ q_z f1 sr 4 ∧ q_z f1 sr 4 ≤ 60 ∧ q_is (q_z f1 sr 0) xs ∧ q_is (q_z f1 mo 0) 0 ∧ q_is (q_z f1 mo 21) 0 ∧ (tk_nq f1 nm ls9) ∧ ((ls9.length : Int) = xs) ∧ q_gr f1 sr ∧ (q_pk f1 mo pa))) := by
  refine q_ofb (by decide +kernel) hN hT (Nat.le_of_ble_eq_true rfl) ?_
  intro p e s m below meth c ls cx hr hlk hB hl
  have hl : lv_has ls 1 [(0, .ref mo)] := hl
  obtain ⟨H, hH⟩ : ∃ H : Heap, H = s.heap := ⟨_, rfl⟩
  obtain ⟨locs, hlocs⟩ : ∃ z : List Loc, z = [] := ⟨_, rfl⟩
  rw [← hH, ← hlocs] at hB
  rw [← hH, ← hlocs]
  refine q_ald_n cx dX12_restore_0 rfl (lv_at hl 0 rfl) ?_
  refine q_ald_n cx dX12_restore_1 rfl (lv_at hl 0 rfl) ?_
  refine q_gX12_168 cx hB hmo kmo hf2 dX12_restore_2 (fun lb93 ub93 => ?_)
  refine q_cVi (As := [.int (q_i 1)]) (rest := []) cx hB (fun _ h => h) hN hmo kmo (by decide) rfl (r_goes1 l g hN hB.2.1 mo hmo kmo 1 (by decide) (by decide)) q_cX12_85 q_dX12_goes (by decide) rfl rfl hl.1 rfl (Nat.le_of_ble_eq_true rfl) dX12_restore_5 (fun y95 H locs f94 ry95 h96 hF hB => ?_)
  obtain ⟨qy95, z97⟩ := h96
  have z98 : q_is (q_z f94 sr 3) xt := Eq.trans (hF.z hsr (by rw [ksr]; rfl)) hf0
  have z99 : q_is (q_z f94 sr 4) xm := Eq.trans (hF.z hsr (by rw [ksr]; rfl)) hf1
  have z100 : q_is (q_z f94 mo 22) 1 := Eq.trans (hF.z hmo (by rw [kmo]; rfl)) hf2
  have z101 : q_is (q_z f94 sd 0) xs := Eq.trans (hF.z hsd (by rw [ksd]; rfl)) hf3
  have z102 : q_ir (q_r f94 mo 13) sr := Eq.trans (hF.r hmo (by rw [kmo]; rfl)) hr0
  have z103 : q_ir (q_r f94 mo 14) sd := Eq.trans (hF.r hmo (by rw [kmo]; rfl)) hr1
  have z104 : q_ir (q_r f94 mo 18) nm := Eq.trans (hF.r hmo (by rw [kmo]; rfl)) hr2
  have z105 : q_ir (q_r f94 mo 19) snm := Eq.trans (hF.r hmo (by rw [kmo]; rfl)) hr3
  have z106 : q_ir (q_r f94 mo 17) pa := Eq.trans (hF.r hmo (by rw [kmo]; rfl)) hr4
  have g107 : q_gr f94 sr := q_gr_fr hgr (fun i9 _ => hF.z hsr (by rw [ksr]; rfl))
  have g108 : q_pk f94 mo pa := q_pk_tr hpk (hF.z hmo (by rw [kmo]; rfl)) (fun i9 => hF.z hpa (by rw [kpa]; rfl))
  have g109 : q_sv f94 mo sd := q_sv_tr hsv (hF.z hmo (by rw [kmo]; rfl)) (fun i9 => hF.z hsd (by rw [ksd]; rfl))
  have g110 : tk_rs f94 mo sd snm ls9 := tk_rs_tr hrs (hF.z hmo (by rw [kmo]; rfl)) (fun i9 h9 k9 => hF.z hsd (by rw [ksd]; exact q_inWr rfl h9 k9)) (fun i9 => hF.j hsnm (by rw [ksnm]; rfl))
  subst qy95
  refine q_ifne (tgt := 13) cx ⟨by decide, by decide⟩ dX12_restore_8 (by decide) (fun c111 => ?_) (fun c111 => ?_)
  · obtain ⟨x112, ex112⟩ : ∃ zz, q_is (q_z f94 sd 2) zz := ⟨_, q_isr _⟩
    obtain ⟨lx112, ux112⟩ : 4 ≤ x112 ∧ x112 ≤ 60 := q_isb ex112 ⟨g109 z100, (q_ai (lo := 0) (hi := 60) hB.2.1 hsd ksd (by decide) rfl (by decide) rfl).2⟩
    have g113 := g110 (Eq.trans z100 (by omega))
    have hls9 : (ls9.length : Int) = xs := g113.1.symm.trans z101
    refine q_ald_n cx dX12_restore_13 rfl (lv_at hl 0 rfl) ?_
    refine q_gX12_23 cx hB hmo kmo z103 dX12_restore_14 (fun hb114 kb114 => ?_)
    refine q_iconst cx dX12_restore_17 ?_
    refine q_ald_n cx dX12_restore_18 rfl (lv_at hl 0 rfl) ?_
    refine q_gX12_20 cx hB hmo kmo z102 dX12_restore_19 (fun hb115 kb115 => ?_)
    refine q_iconst cx dX12_restore_22 ?_
    refine q_cSv (As := [.ref sd, .int (q_i 0), .ref sr, .int (q_i 0)]) (rest := []) cx hB (fun _ h => h) hN (r_copiesRow_sd_sr l g hN hB.2.1 sd hsd ksd 0 (by decide) (by decide) sr hsr ksr 0 (by decide) (by decide) x112 (by omega) (by omega) xs (by omega) (by omega) ex112 z101) q_cX12_154 q_dX12_copiesRow (by decide) rfl rfl hl.1 rfl (Nat.le_of_ble_eq_true rfl) dX12_restore_23 (fun H locs f116 h118 hF hB => ?_)
    obtain ⟨lz119, uz119, lz120, uz120, z121, t122, g123⟩ := h118
    have z124 : q_is (q_z f116 mo 22) 1 := Eq.trans (hF.z hmo (by rw [kmo]; rfl)) z100
    have z125 : q_is (q_z f116 sd 0) xs := Eq.trans (hF.z hsd (by rw [ksd]; rfl)) z101
    have z126 : q_is (q_z f116 mo 0) 0 := Eq.trans (hF.z hmo (by rw [kmo]; rfl)) z97
    have z127 : q_is (q_z f116 sd 2) x112 := Eq.trans (hF.z hsd (by rw [ksd]; rfl)) ex112
    have z128 : q_ir (q_r f116 mo 13) sr := Eq.trans (hF.r hmo (by rw [kmo]; rfl)) z102
    have z129 : q_ir (q_r f116 mo 14) sd := Eq.trans (hF.r hmo (by rw [kmo]; rfl)) z103
    have z130 : q_ir (q_r f116 mo 18) nm := Eq.trans (hF.r hmo (by rw [kmo]; rfl)) z104
    have z131 : q_ir (q_r f116 mo 19) snm := Eq.trans (hF.r hmo (by rw [kmo]; rfl)) z105
    have z132 : q_ir (q_r f116 mo 17) pa := Eq.trans (hF.r hmo (by rw [kmo]; rfl)) z106
    have g133 : q_pk f116 mo pa := q_pk_tr g108 (hF.z hmo (by rw [kmo]; rfl)) (fun i9 => hF.z hpa (by rw [kpa]; rfl))
    have g134 : q_sv f116 mo sd := q_sv_tr g109 (hF.z hmo (by rw [kmo]; rfl)) (fun i9 => hF.z hsd (by rw [ksd]; rfl))
    have g135 : tk_rs f116 mo sd snm ls9 := tk_rs_tr g110 (hF.z hmo (by rw [kmo]; rfl)) (fun i9 h9 k9 => hF.z hsd (by rw [ksd]; exact q_inWr rfl h9 k9)) (fun i9 => hF.j hsnm (by rw [ksnm]; rfl))
    have g136 : tk_nq f116 snm ls9 := tk_nq_tr g113.2 (fun i9 => hF.j hsnm (by rw [ksnm]; rfl))
    obtain ⟨x137, ex137⟩ : ∃ zz, q_is (q_z f116 sr 3) zz := ⟨_, q_isr _⟩
    obtain ⟨lx137, ux137⟩ := q_isb ex137 ⟨lz119, uz119⟩
    obtain ⟨x138, ex138⟩ : ∃ zz, q_is (q_z f116 sr 4) zz := ⟨_, q_isr _⟩
    obtain ⟨lx138, ux138⟩ := q_isb ex138 ⟨lz120, uz120⟩
    refine q_ald_n cx dX12_restore_26 rfl (lv_at hl 0 rfl) ?_
    refine q_gX12_39 cx hB hmo kmo z131 dX12_restore_27 (fun hb139 kb139 => ?_)
    refine q_ald_n cx dX12_restore_30 rfl (lv_at hl 0 rfl) ?_
    refine q_gX12_35 cx hB hmo kmo z130 dX12_restore_31 (fun hb140 kb140 => ?_)
    refine q_cSv (As := [.ref snm, .ref nm]) (rest := []) cx hB (fun _ h => h) hN (f_mcopiesNames_157_156 l g hN hB.2.1 snm hsnm ksnm nm hnm knm) q_cX12_164 q_dX12_copiesNames (by decide) rfl rfl hl.1 rfl (Nat.le_of_ble_eq_true rfl) dX12_restore_34 (fun H locs f141 h143 hF hB => ?_)
    have t144 := h143
    have z145 : q_is (q_z f141 mo 22) 1 := Eq.trans (hF.z hmo (by rw [kmo]; rfl)) z124
    have z146 : q_is (q_z f141 sd 0) xs := Eq.trans (hF.z hsd (by rw [ksd]; rfl)) z125
    have z147 : q_is (q_z f141 mo 0) 0 := Eq.trans (hF.z hmo (by rw [kmo]; rfl)) z126
    have z148 : q_is (q_z f141 sd 2) x112 := Eq.trans (hF.z hsd (by rw [ksd]; rfl)) z127
    have z149 : q_is (q_z f141 sr 3) x137 := Eq.trans (hF.z hsr (by rw [ksr]; rfl)) ex137
    have z150 : q_is (q_z f141 sr 4) x138 := Eq.trans (hF.z hsr (by rw [ksr]; rfl)) ex138
    have z151 : q_is (q_z f141 sr 0) xs := Eq.trans (hF.z hsr (by rw [ksr]; rfl)) z121
    have z152 : q_ir (q_r f141 mo 13) sr := Eq.trans (hF.r hmo (by rw [kmo]; rfl)) z128
    have z153 : q_ir (q_r f141 mo 14) sd := Eq.trans (hF.r hmo (by rw [kmo]; rfl)) z129
    have z154 : q_ir (q_r f141 mo 18) nm := Eq.trans (hF.r hmo (by rw [kmo]; rfl)) z130
    have z155 : q_ir (q_r f141 mo 19) snm := Eq.trans (hF.r hmo (by rw [kmo]; rfl)) z131
    have z156 : q_ir (q_r f141 mo 17) pa := Eq.trans (hF.r hmo (by rw [kmo]; rfl)) z132
    have g157 : q_gr f141 sr := q_gr_fr g123 (fun i9 _ => hF.z hsr (by rw [ksr]; rfl))
    have g158 : q_pk f141 mo pa := q_pk_tr g133 (hF.z hmo (by rw [kmo]; rfl)) (fun i9 => hF.z hpa (by rw [kpa]; rfl))
    have g159 : q_sv f141 mo sd := q_sv_tr g134 (hF.z hmo (by rw [kmo]; rfl)) (fun i9 => hF.z hsd (by rw [ksd]; rfl))
    have g160 : tk_rs f141 mo sd snm ls9 := tk_rs_tr g135 (hF.z hmo (by rw [kmo]; rfl)) (fun i9 h9 k9 => hF.z hsd (by rw [ksd]; exact q_inWr rfl h9 k9)) (fun i9 => hF.j hsnm (by rw [ksnm]; rfl))
    have g161 : tk_nq f141 snm ls9 := tk_nq_tr g136 (fun i9 => hF.j hsnm (by rw [ksnm]; rfl))
    have g162 : tk_nq f141 nm ls9 := tk_nq_cp g136 t144
    refine q_ald_n cx dX12_restore_37 rfl (lv_at hl 0 rfl) ?_
    refine q_iconst cx dX12_restore_38 ?_
    refine q_pX12_158 cx hB hmo kmo ⟨by decide, by decide⟩ (by decide) (by decide) rfl dX12_restore_39 (fun H locs f163 ef163 z164 hB => ?_)
    have z165 : q_is (q_z f163 mo 22) 1 := by rw [ef163, q_setz (Or.inr (by decide))]; exact z145
    have z166 : q_is (q_z f163 sd 0) xs := by rw [ef163, q_setz (Or.inr (by decide))]; exact z146
    have z167 : q_is (q_z f163 mo 0) 0 := by rw [ef163, q_setz (Or.inr (by decide))]; exact z147
    have z168 : q_is (q_z f163 sd 2) x112 := by rw [ef163, q_setz (Or.inr (by decide))]; exact z148
    have z169 : q_is (q_z f163 sr 3) x137 := by rw [ef163, q_setz (Or.inr (by decide))]; exact z149
    have z170 : q_is (q_z f163 sr 4) x138 := by rw [ef163, q_setz (Or.inr (by decide))]; exact z150
    have z171 : q_is (q_z f163 sr 0) xs := by rw [ef163, q_setz (Or.inr (by decide))]; exact z151
    have z172 : q_ir (q_r f163 mo 13) sr := by rw [ef163, q_setr (Or.inr (by decide))]; exact z152
    have z173 : q_ir (q_r f163 mo 14) sd := by rw [ef163, q_setr (Or.inr (by decide))]; exact z153
    have z174 : q_ir (q_r f163 mo 18) nm := by rw [ef163, q_setr (Or.inr (by decide))]; exact z154
    have z175 : q_ir (q_r f163 mo 19) snm := by rw [ef163, q_setr (Or.inr (by decide))]; exact z155
    have z176 : q_ir (q_r f163 mo 17) pa := by rw [ef163, q_setr (Or.inr (by decide))]; exact z156
    have g177 : q_gr f163 sr := q_gr_ne g157 ef163 (fun q => q_kne (k := 151) (k2 := 12) (by decide) ksr kmo q)
    have g178 : q_sv f163 mo sd := q_sv_tr g159 (by rw [ef163, q_setz (Or.inr (by decide))]) (fun i9 => by rw [ef163, q_setz (Or.inl (fun q => by rw [q, kmo] at ksd; exact absurd ksd (by decide)))])
    have g179 : tk_rs f163 mo sd snm ls9 := tk_rs_tr g160 (by rw [ef163, q_setz (Or.inr (by decide))]) (fun i9 h9 k9 => by rw [ef163, q_setz (Or.inl (fun q => by rw [q, kmo] at ksd; exact absurd ksd (by decide)))]) (fun i9 => by rw [ef163, q_setj (Or.inl (fun q => by rw [q, kmo] at ksnm; exact absurd ksnm (by decide)))])
    have g180 : tk_nq f163 snm ls9 := tk_nq_tr g161 (fun i9 => by rw [ef163, q_setj (Or.inl (fun q => by rw [q, kmo] at ksnm; exact absurd ksnm (by decide)))])
    have g181 : tk_nq f163 nm ls9 := tk_nq_tr g162 (fun i9 => by rw [ef163, q_setj (Or.inl (fun q => by rw [q, kmo] at knm; exact absurd knm (by decide)))])
    have hpk0 : q_pk f163 mo pa := k_pk0 z164
    refine q_ald_n cx dX12_restore_42 rfl (lv_at hl 0 rfl) ?_
    refine q_gX12_20 cx hB hmo kmo z172 dX12_restore_43 (fun hb182 kb182 => ?_)
    refine q_iconst cx dX12_restore_46 ?_
    refine q_iald (lo := (-2147483648)) (hi := 2147483647) (n := 658) cx hB hsr ksr (by decide) rfl rfl (by decide) (by decide) (by decide) rfl z169 dX12_restore_47 (fun lb184 ub184 => ?_)
    refine q_iret cx hr hlk hB dX12_restore_48 ⟨by omega, by omega⟩ ?_
    exact ⟨(q_isl z169 (by omega)), (q_isu z169 (by omega)), (q_isl z170 (by omega)), (q_isu z170 (by omega)), z171, z167, z164, g181, hls9, g177, hpk0⟩
  · exact absurd c111 (by omega)
set_option maxHeartbeats 4000000 in
set_option maxRecDepth 100000 in
theorem f_mlettersOf (l : Launch) (g : q_G) {K : Nat → Nat} {L : List Nat} (hN : L.Nodup) {f : Nat → va_E} (hT : q_Ty g K L f) (wl : List Int) (a0 : Int64) (hp0 : a0 = tk_mw wl) (hp1 : tk_isw wl) : q_Ct l g K L yX12_lettersOf cX12_lettersOf 5 (some .int) 0 0 [.long a0] f [] (q_Pi (fun (z : Int) (f1 : Nat → va_E) => f = f1 ∧ 0 ≤ z ∧ z ≤ 8 ∧ (z = (wl.length : Int)))) := by
  refine q_ofb (by decide +kernel) hN hT (Nat.le_of_ble_eq_true rfl) ?_
  intro p e s m below meth c ls cx hr hlk hB hl
  have hl : lv_has ls 5 [(0, .long a0)] := hl
  have J4 : ∀ (n : Nat) (v4_2 : Int) (lv4_2 : 0 ≤ v4_2) (uv4_2 : v4_2 ≤ 8) (v4_3 : Int64) (hlo : tk_lo wl v4_3 v4_2) (hmu : (Int.toNat (9 - v4_2)) < n) (H : Heap) (locs : List Loc) (hB : q_B g K L (fun q => q ∈ L) [] f f s H locs) (ls : Array Slot) (hl : lv_has ls 5 [(2, .int (q_i v4_2)), (3, .long v4_3)]), W p l e { frames := 0, cells := 0, slots := 0, locals := 0 } s m ([.long a0] : List Value).toArray below meth c H locs 0 0 (MQ below (q_Q g K L [] f (q_Pi (fun (z : Int) (f1 : Nat → va_E) => f = f1 ∧ 0 ≤ z ∧ z ≤ 8 ∧ (z = (wl.length : Int))))) ([.long a0] : List Value).toArray s 0 0 (fun q => q ∈ L)) (F0 m 4 ls []) := by
    intro n
    induction n with
    | zero =>
      intro v4_2 lv4_2 uv4_2 v4_3 hlo hmu
      exact absurd hmu (Nat.not_lt_zero _)
    | succ n ih4 =>
      intro v4_2 lv4_2 uv4_2 v4_3 hlo hmu H locs hB ls hl
      refine q_lld_n cx dX12_lettersOf_4 rfl (lv_at hl 1 rfl) ?_
      refine q_lconst (z := 0) cx (by decide) dX12_lettersOf_5 ?_
      refine q_lcmp cx dX12_lettersOf_6 (fun y4 ly4 uy4 ey4 gy4 hy4 => ?_)
      rw [q_lInt ⟨by decide, by decide⟩] at ey4 hy4
      refine q_ifle (tgt := 20) cx ⟨by omega, by omega⟩ dX12_lettersOf_7 (by decide) (fun c5 => ?_) (fun c5 => ?_)
      · refine q_ild_n cx dX12_lettersOf_20 rfl (lv_at hl 0 rfl) ?_
        refine q_iret cx hr hlk hB dX12_lettersOf_21 ⟨by omega, by omega⟩ ?_
        exact ⟨rfl, (by omega), (by omega), (tk_lo_end hp1 hlo hy4 (by omega))⟩
      · have hmo9 := tk_lo_more hp1 hlo hy4 (by omega) (by omega)
        have hw8 : v4_2 ≤ 7 := by have h7 := hp1.1; omega
        refine q_iinc (lv' := [(2, .int (q_i (v4_2 + 1))), (3, .long v4_3)]) cx dX12_lettersOf_10 hl (k := 0) rfl (by decide) rfl (fun ls hl => ?_)
        refine q_lld_n cx dX12_lettersOf_13 rfl (lv_at hl 1 rfl) ?_
        refine q_iconst cx dX12_lettersOf_14 ?_
        refine lv_lshr cx.1 cx.2.1 dX12_lettersOf_15 rfl ?_
        refine lv_topl (fun j6 ej6 => ?_)
        refine lv_lstore_n (lv' := [(3, .long j6), (2, .int (q_i (v4_2 + 1)))]) cx.1 cx.2.1 dX12_lettersOf_16 rfl hl (by decide) rfl (fun ls hl => ?_)
        refine lv_goto (tgt := 4) cx.1 cx.2.1 dX12_lettersOf_17 (by decide) ?_
        exact ih4 (v4_2 + 1) (by omega) (by omega) j6 (tk_lo_step hp1 hlo hmo9 ej6) (by omega) H locs hB ls (lv_sub hl [1, 0] rfl)
  obtain ⟨H, hH⟩ : ∃ H : Heap, H = s.heap := ⟨_, rfl⟩
  obtain ⟨locs, hlocs⟩ : ∃ z : List Loc, z = [] := ⟨_, rfl⟩
  rw [← hH, ← hlocs] at hB
  rw [← hH, ← hlocs]
  refine q_iconst cx dX12_lettersOf_0 ?_
  refine lv_istore_n (lv' := [(2, .int (q_i 0)), (0, .long a0)]) cx.1 cx.2.1 dX12_lettersOf_1 rfl hl (by decide) rfl (fun ls hl => ?_)
  refine q_lld_n cx dX12_lettersOf_2 rfl (lv_at hl 1 rfl) ?_
  refine lv_lstore_n (lv' := [(3, .long a0), (2, .int (q_i 0)), (0, .long a0)]) cx.1 cx.2.1 dX12_lettersOf_3 rfl hl (by decide) rfl (fun ls hl => ?_)
  exact J4 ((Int.toNat (9 - 0)) + 1) 0 (by decide) (by decide) a0 (tk_lo_0 hp0) (Nat.lt_succ_self _) H locs hB ls (lv_sub hl [1, 0] rfl)
set_option maxHeartbeats 4000000 in
set_option maxRecDepth 100000 in
theorem f_mletterOf (l : Launch) (g : q_G) {K : Nat → Nat} {L : List Nat} (hN : L.Nodup) {f : Nat → va_E} (hT : q_Ty g K L f) (wl : List Int) (a0 : Int64) (b0 : Int) (lb0 : (-2147483648) ≤ b0) (ub0 : b0 ≤ 2147483647) (hp0 : a0 = tk_mw wl) (hp1 : tk_isw wl) : q_Ct l g K L yX12_letterOf cX12_letterOf 4 (some .int) 1 25 [.long a0, .int (q_i b0)] f [] (q_Pi (fun (z : Int) (f1 : Nat → va_E) => f = f1 ∧ (z = tk_le wl b0))) := by
  refine q_ofb (by decide +kernel) hN hT (Nat.le_of_ble_eq_true rfl) ?_
  intro p e s m below meth c ls cx hr hlk hB hl
  have hl : lv_has ls 4 [(0, .long a0), (2, .int (q_i b0))] := hl
  obtain ⟨H, hH⟩ : ∃ H : Heap, H = s.heap := ⟨_, rfl⟩
  obtain ⟨locs, hlocs⟩ : ∃ z : List Loc, z = [] := ⟨_, rfl⟩
  rw [← hH, ← hlocs] at hB
  rw [← hH, ← hlocs]
  refine q_lld_n cx dX12_letterOf_0 rfl (lv_at hl 0 rfl) ?_
  refine q_cSi (As := [.long a0]) (rest := []) cx hB (fun _ h => h) hN (f_mlettersOf l g hN hB.2.1 wl a0 hp0 hp1) q_cX12_378 q_dX12_lettersOf (by decide) rfl rfl hl.1 rfl (Nat.le_of_ble_eq_true rfl) dX12_letterOf_1 (fun y19 H locs f18 ry19 h20 hF hB => ?_)
  obtain ⟨rfl, ly19, uy19, t21⟩ := h20
  refine lv_istore_n (lv' := [(3, .int (q_i y19)), (0, .long a0), (2, .int (q_i b0))]) cx.1 cx.2.1 dX12_letterOf_4 rfl hl (by decide) rfl (fun ls hl => ?_)
  refine q_ild_n cx dX12_letterOf_5 rfl (lv_at hl 2 rfl) ?_
  refine q_i2l cx ⟨by omega, by omega⟩ dX12_letterOf_6 ?_
  refine q_lconst (z := 0) cx (by decide) dX12_letterOf_7 ?_
  refine q_ild_n cx dX12_letterOf_8 rfl (lv_at hl 0 rfl) ?_
  refine q_iconst cx dX12_letterOf_9 ?_
  refine q_isub cx dX12_letterOf_10 ?_
  refine q_i2l cx ⟨by omega, by omega⟩ dX12_letterOf_11 ?_
  refine q_cSi (As := [.long (q_l b0), .long (q_l 0), .long (q_l (y19 - 1))]) (rest := []) cx hB (fun _ h => h) hN (r_isIn l g hN hB.2.1 b0 (by omega) (by omega) 0 (by decide) (by decide) (y19 - 1) (by omega) (by omega)) q_cX12_93 q_dX12_isIn (by decide) rfl rfl hl.1 rfl (Nat.le_of_ble_eq_true rfl) dX12_letterOf_12 (fun y23 H locs f22 ry23 h24 hF hB => ?_)
  rcases h24 with h25 | h26
  · obtain ⟨rfl, qy23, t27, t28⟩ := h25
    subst qy23
    refine q_ifeq (tgt := 38) cx ⟨by decide, by decide⟩ dX12_letterOf_15 (by decide) (fun c29 => ?_) (fun c29 => ?_)
    · exact absurd c29 (by omega)
    · refine q_lld_n cx dX12_letterOf_18 rfl (lv_at hl 1 rfl) ?_
      refine q_iconst cx dX12_letterOf_19 ?_
      refine q_ild_n cx dX12_letterOf_20 rfl (lv_at hl 0 rfl) ?_
      refine q_iconst cx dX12_letterOf_21 ?_
      refine q_isub cx dX12_letterOf_22 ?_
      refine q_ild_n cx dX12_letterOf_23 rfl (lv_at hl 2 rfl) ?_
      refine q_isub cx dX12_letterOf_24 ?_
      refine q_imul cx dX12_letterOf_25 ?_
      refine lv_lshr cx.1 cx.2.1 dX12_letterOf_26 rfl ?_
      refine lv_topl (fun j30 ej30 => ?_)
      refine lv_ldc2 (v := q_l 31) cx.1 cx.2.1 cx.2.2.2.1 (cx.2.2.2.2 _ q_h1952) dX12_letterOf_27 ?_
      refine lv_land cx.1 cx.2.1 dX12_letterOf_30 ?_
      refine lv_topl (fun j31 ej31 => ?_)
      refine q_l2i cx dX12_letterOf_31 (fun y32 ry32 ey32 => ?_)
      have hy9 : y32 + 96 = tk_le wl b0 := tk_mlet hp1 hp0 t21 (by omega) (by omega) ej30 ej31 ey32 ⟨by omega, by omega⟩
      have hbd9 := tk_le_bd hp1 b0
      have hyl9 : -96 ≤ y32 ∧ y32 ≤ 26 := by omega
      refine q_bipush cx dX12_letterOf_32 rfl ?_
      refine q_iadd cx dX12_letterOf_34 ?_
      refine lv_goto (tgt := 39) cx.1 cx.2.1 dX12_letterOf_35 (by decide) ?_
      refine q_iret cx hr hlk hB dX12_letterOf_39 ⟨by omega, by omega⟩ ?_
      exact ⟨rfl, hy9⟩
  · obtain ⟨rfl, qy23, t33⟩ := h26
    subst qy23
    refine q_ifeq (tgt := 38) cx ⟨by decide, by decide⟩ dX12_letterOf_15 (by decide) (fun c34 => ?_) (fun c34 => ?_)
    · refine q_iconst cx dX12_letterOf_38 ?_
      refine q_iret cx hr hlk hB dX12_letterOf_39 ⟨by decide, by decide⟩ ?_
      exact ⟨rfl, (tk_le_out (k_nin_n t33) t21)⟩
    · exact absurd c34 (by omega)
set_option maxHeartbeats 4000000 in
set_option maxRecDepth 100000 in
theorem f_misNode (l : Launch) (g : q_G) {K : Nat → Nat} {L : List Nat} (hN : L.Nodup) {f : Nat → va_E} (hT : q_Ty g K L f) (mo : Nat) (hmo : mo ∈ L) (kmo : K mo = 12) (a0 : Int) (la0 : (-2147483648) ≤ a0) (ua0 : a0 ≤ 2147483647) (sr : Nat) (hsr : sr ∈ L) (ksr : K sr = 151) (xc : Int) (lxc : 0 ≤ xc) (uxc : xc ≤ 10) (hf0 : q_is (q_z f sr 0) xc) (hr0 : q_ir (q_r f mo 13) sr) (hgr : q_gr f sr) : q_Ct l g K L yX12_isNode cX12_isNode 2 (some .boolean) 1 25 [.ref mo, .int (q_i a0)] f [] (q_Pi (fun (z : Int) (f1 : Nat → va_E) => (f = f1 ∧ z = 1 ∧ (0 ≤ a0) ∧ (a0 < xc)) ∨ (f = f1 ∧ z = 0 ∧ (¬ (0 ≤ a0 ∧ a0 < xc))))) := by
  refine q_ofb (by decide +kernel) hN hT (Nat.le_of_ble_eq_true rfl) ?_
  intro p e s m below meth c ls cx hr hlk hB hl
  have hl : lv_has ls 2 [(0, .ref mo), (1, .int (q_i a0))] := hl
  obtain ⟨H, hH⟩ : ∃ H : Heap, H = s.heap := ⟨_, rfl⟩
  obtain ⟨locs, hlocs⟩ : ∃ z : List Loc, z = [] := ⟨_, rfl⟩
  rw [← hH, ← hlocs] at hB
  rw [← hH, ← hlocs]
  refine q_ild_n cx dX12_isNode_0 rfl (lv_at hl 1 rfl) ?_
  refine q_i2l cx ⟨by omega, by omega⟩ dX12_isNode_1 ?_
  refine q_lconst (z := 0) cx (by decide) dX12_isNode_2 ?_
  refine q_ald_n cx dX12_isNode_3 rfl (lv_at hl 0 rfl) ?_
  refine q_gX12_20 cx hB hmo kmo hr0 dX12_isNode_4 (fun hb12 kb12 => ?_)
  refine q_iconst cx dX12_isNode_7 ?_
  refine q_iald (lo := 0) (hi := 10) (n := 658) cx hB hsr ksr (by decide) rfl rfl (by decide) (by decide) (by decide) rfl hf0 dX12_isNode_8 (fun lb14 ub14 => ?_)
  refine q_iconst cx dX12_isNode_9 ?_
  refine q_isub cx dX12_isNode_10 ?_
  refine q_i2l cx ⟨by omega, by omega⟩ dX12_isNode_11 ?_
  refine q_cSi (As := [.long (q_l a0), .long (q_l 0), .long (q_l (xc - 1))]) (rest := []) cx hB (fun _ h => h) hN (r_isIn l g hN hB.2.1 a0 (by omega) (by omega) 0 (by decide) (by decide) (xc - 1) (by omega) (by omega)) q_cX12_93 q_dX12_isIn (by decide) rfl rfl hl.1 rfl (Nat.le_of_ble_eq_true rfl) dX12_isNode_12 (fun y16 H locs f15 ry16 h17 hF hB => ?_)
  rcases h17 with h18 | h19
  · obtain ⟨rfl, qy16, t20, t21⟩ := h18
    subst qy16
    refine q_zret cx hr hlk hB dX12_isNode_15 (by decide) (by decide) ?_
    exact (Or.inl ⟨rfl, rfl, (by omega), (by omega)⟩)
  · obtain ⟨rfl, qy16, t22⟩ := h19
    subst qy16
    refine q_zret cx hr hlk hB dX12_isNode_15 (by decide) (by decide) ?_
    exact (Or.inr ⟨rfl, rfl, (by have h7 : _ ∨ _ := t22; omega)⟩)
set_option maxHeartbeats 4000000 in
set_option maxRecDepth 100000 in
theorem f_mletter (l : Launch) (g : q_G) {K : Nat → Nat} {L : List Nat} (hN : L.Nodup) {f : Nat → va_E} (hT : q_Ty g K L f) (nl9 : List (List Int)) (mo : Nat) (hmo : mo ∈ L) (kmo : K mo = 12) (a0 : Int) (la0 : (-2147483648) ≤ a0) (ua0 : a0 ≤ 2147483647) (b0 : Int) (lb0 : (-2147483648) ≤ b0) (ub0 : b0 ≤ 2147483647) (sr : Nat) (hsr : sr ∈ L) (ksr : K sr = 151) (nm : Nat) (hnm : nm ∈ L) (knm : K nm = 156) (xc : Int) (lxc : 0 ≤ xc) (uxc : xc ≤ 10) (hf0 : q_is (q_z f sr 0) xc) (hr0 : q_ir (q_r f mo 13) sr) (hr1 : q_ir (q_r f mo 18) nm) (hp0 : (nl9.length : Int) = xc) (hgr : q_gr f sr) (hrn : tk_nq f nm nl9) : q_Ct l g K L yX12_letter cX12_letter 3 (some .int) 2 48 [.ref mo, .int (q_i a0), .int (q_i b0)] f [(12, 0, 0)] (q_Pi (fun (z : Int) (f1 : Nat → va_E) => (q_is (q_z f1 mo 0) 0 ∧ (0 ≤ a0 ∧ a0 < xc) ∧ (z = tk_le (nl9.getD (Int.toNat a0) []) b0)) ∨ (z = 0 ∧ q_is (q_z f1 mo 0) 1 ∧ (¬ (0 ≤ a0 ∧ a0 < xc))))) := by
  refine q_ofb (by decide +kernel) hN hT (Nat.le_of_ble_eq_true rfl) ?_
  intro p e s m below meth c ls cx hr hlk hB hl
  have hl : lv_has ls 3 [(0, .ref mo), (1, .int (q_i a0)), (2, .int (q_i b0))] := hl
  obtain ⟨H, hH⟩ : ∃ H : Heap, H = s.heap := ⟨_, rfl⟩
  obtain ⟨locs, hlocs⟩ : ∃ z : List Loc, z = [] := ⟨_, rfl⟩
  rw [← hH, ← hlocs] at hB
  rw [← hH, ← hlocs]
  refine q_ald_n cx dX12_letter_0 rfl (lv_at hl 0 rfl) ?_
  refine q_ald_n cx dX12_letter_1 rfl (lv_at hl 0 rfl) ?_
  refine q_ild_n cx dX12_letter_2 rfl (lv_at hl 1 rfl) ?_
  refine q_cVi (As := [.int (q_i a0)]) (rest := [.ref mo]) cx hB (fun _ h => h) hN hmo kmo (by decide) rfl (f_misNode l g hN hB.2.1 mo hmo kmo a0 (by omega) (by omega) sr hsr ksr xc (by omega) (by omega) hf0 hr0 hgr) q_cX12_355 q_dX12_isNode (by decide) rfl rfl hl.1 rfl (Nat.le_of_ble_eq_true rfl) dX12_letter_3 (fun y36 H locs f35 ry36 h37 hF hB => ?_)
  rcases h37 with h38 | h39
  · obtain ⟨rfl, qy36, t40, t41⟩ := h38
    subst qy36
    refine q_cVi (As := [.int (q_i 1)]) (rest := []) cx hB (fun _ h => h) hN hmo kmo (by decide) rfl (r_goes1 l g hN hB.2.1 mo hmo kmo 1 (by decide) (by decide)) q_cX12_85 q_dX12_goes (by decide) rfl rfl hl.1 rfl (Nat.le_of_ble_eq_true rfl) dX12_letter_6 (fun y43 H locs f42 ry43 h44 hF hB => ?_)
    obtain ⟨qy43, z45⟩ := h44
    have z46 : q_is (q_z f42 sr 0) xc := Eq.trans (hF.z hsr (by rw [ksr]; rfl)) hf0
    have z47 : q_ir (q_r f42 mo 13) sr := Eq.trans (hF.r hmo (by rw [kmo]; rfl)) hr0
    have z48 : q_ir (q_r f42 mo 18) nm := Eq.trans (hF.r hmo (by rw [kmo]; rfl)) hr1
    have g49 : q_gr f42 sr := q_gr_fr hgr (fun i9 _ => hF.z hsr (by rw [ksr]; rfl))
    have g50 : tk_nq f42 nm nl9 := tk_nq_tr hrn (fun i9 => hF.j hnm (by rw [knm]; rfl))
    subst qy43
    refine q_ifeq (tgt := 25) cx ⟨by decide, by decide⟩ dX12_letter_9 (by decide) (fun c51 => ?_) (fun c51 => ?_)
    · exact absurd c51 (by omega)
    · refine q_ald_n cx dX12_letter_12 rfl (lv_at hl 0 rfl) ?_
      refine q_gX12_35 cx hB hmo kmo z48 dX12_letter_13 (fun hb52 kb52 => ?_)
      refine q_ild_n cx dX12_letter_16 rfl (lv_at hl 1 rfl) ?_
      obtain ⟨j53, ej53⟩ : ∃ zz, q_j f42 nm (Int.toNat a0) = zz := ⟨_, rfl⟩
      refine q_lald (n := 10) cx hB hnm knm (by decide) rfl rfl (by omega) (by omega) (by decide) rfl ej53 dX12_letter_17 ?_
      have hnm9 := g50.2.1 (Int.toNat a0) (by omega)
      have hiw9 : tk_isw (nl9.getD (Int.toNat a0) []) := hnm9.2
      obtain rfl : j53 = tk_mw (nl9.getD (Int.toNat a0) []) := ej53.symm.trans hnm9.1
      refine q_ild_n cx dX12_letter_18 rfl (lv_at hl 2 rfl) ?_
      refine q_cSi (As := [.long (tk_mw (nl9.getD (Int.toNat a0) [])), .int (q_i b0)]) (rest := []) cx hB (fun _ h => h) hN (f_mletterOf l g hN hB.2.1 (nl9.getD (Int.toNat a0) []) (tk_mw (nl9.getD (Int.toNat a0) [])) b0 (by omega) (by omega) rfl hiw9) q_cX12_384 q_dX12_letterOf (by decide) rfl rfl hl.1 rfl (Nat.le_of_ble_eq_true rfl) dX12_letter_19 (fun y55 H locs f54 ry55 h56 hF hB => ?_)
      obtain ⟨rfl, t57⟩ := h56
      refine lv_goto (tgt := 26) cx.1 cx.2.1 dX12_letter_22 (by decide) ?_
      refine q_iret cx hr hlk hB dX12_letter_26 ⟨by omega, by omega⟩ ?_
      exact (Or.inl ⟨z45, (by omega), t57⟩)
  · obtain ⟨rfl, qy36, t58⟩ := h39
    subst qy36
    refine q_cVi (As := [.int (q_i 0)]) (rest := []) cx hB (fun _ h => h) hN hmo kmo (by decide) rfl (r_goes0 l g hN hB.2.1 mo hmo kmo 0 (by decide) (by decide)) q_cX12_85 q_dX12_goes (by decide) rfl rfl hl.1 rfl (Nat.le_of_ble_eq_true rfl) dX12_letter_6 (fun y60 H locs f59 ry60 h61 hF hB => ?_)
    obtain ⟨qy60, z62⟩ := h61
    have z63 : q_is (q_z f59 sr 0) xc := Eq.trans (hF.z hsr (by rw [ksr]; rfl)) hf0
    have z64 : q_ir (q_r f59 mo 13) sr := Eq.trans (hF.r hmo (by rw [kmo]; rfl)) hr0
    have z65 : q_ir (q_r f59 mo 18) nm := Eq.trans (hF.r hmo (by rw [kmo]; rfl)) hr1
    have g66 : q_gr f59 sr := q_gr_fr hgr (fun i9 _ => hF.z hsr (by rw [ksr]; rfl))
    have g67 : tk_nq f59 nm nl9 := tk_nq_tr hrn (fun i9 => hF.j hnm (by rw [knm]; rfl))
    subst qy60
    refine q_ifeq (tgt := 25) cx ⟨by decide, by decide⟩ dX12_letter_9 (by decide) (fun c68 => ?_) (fun c68 => ?_)
    · refine q_iconst cx dX12_letter_25 ?_
      refine q_iret cx hr hlk hB dX12_letter_26 ⟨by decide, by decide⟩ ?_
      exact (Or.inr ⟨rfl, z62, t58⟩)
    · exact absurd c68 (by omega)
set_option maxHeartbeats 4000000 in
set_option maxRecDepth 100000 in
theorem f_mclears (l : Launch) (g : q_G) {K : Nat → Nat} {L : List Nat} (hN : L.Nodup) {f : Nat → va_E} (hT : q_Ty g K L f) (mo : Nat) (hmo : mo ∈ L) (kmo : K mo = 12) (sr : Nat) (hsr : sr ∈ L) (ksr : K sr = 151) (nm : Nat) (hnm : nm ∈ L) (knm : K nm = 156) (hr0 : q_ir (q_r f mo 13) sr) (hr1 : q_ir (q_r f mo 18) nm) : q_Ct l g K L yX12_clears cX12_clears 2 none 0 0 [.ref mo] f [(151, 0, 657), (156, 0, 9)] (q_Pv (fun (f1 : Nat → va_E) => 0 ≤ q_z f1 sr 3 ∧ q_z f1 sr 3 ≤ 9999 ∧ 0 ≤ q_z f1 sr 4 ∧ q_z f1 sr 4 ≤ 60 ∧ q_is (q_z f1 sr 0) 0 ∧ q_is (q_z f1 sr 1) 0 ∧ q_gr f1 sr)) := by
  refine q_ofb (by decide +kernel) hN hT (Nat.le_of_ble_eq_true rfl) ?_
  intro p e s m below meth c ls cx hr hlk hB hl
  have hl : lv_has ls 2 [(0, .ref mo)] := hl
  have J24 : ∀ (n : Nat) (f24 : Nat → va_E) (v24_1 : Int) (lv24_1 : 0 ≤ v24_1) (uv24_1 : v24_1 ≤ 10) (hq_mo_13 : q_ir (q_r f24 mo 13) sr) (hq_mo_18 : q_ir (q_r f24 mo 18) nm) (hcl2 : ∀ j : Nat, (j : Int) < 658 → q_z f24 sr j = 0) (hmu : (Int.toNat (2147483647 - v24_1)) < n) (H : Heap) (locs : List Loc) (hB : q_B g K L (fun q => q ∈ L) [(151, 0, 657), (156, 0, 9)] f f24 s H locs) (ls : Array Slot) (hl : lv_has ls 2 [(0, .ref mo), (1, .int (q_i v24_1))]), W p l e { frames := 0, cells := 0, slots := 0, locals := 0 } s m ([.ref mo] : List Value).toArray below meth c H locs 0 0 (MQ below (q_Q g K L [(151, 0, 657), (156, 0, 9)] f (q_Pv (fun (f1 : Nat → va_E) => 0 ≤ q_z f1 sr 3 ∧ q_z f1 sr 3 ≤ 9999 ∧ 0 ≤ q_z f1 sr 4 ∧ q_z f1 sr 4 ≤ 60 ∧ q_is (q_z f1 sr 0) 0 ∧ q_is (q_z f1 sr 1) 0 ∧ q_gr f1 sr))) ([.ref mo] : List Value).toArray s 0 0 (fun q => q ∈ L)) (F0 m 24 ls []) := by
    intro n
    induction n with
    | zero =>
      intro f24 v24_1 lv24_1 uv24_1 hq_mo_13 hq_mo_18 hcl2 hmu
      exact absurd hmu (Nat.not_lt_zero _)
    | succ n ih24 =>
      intro f24 v24_1 lv24_1 uv24_1 hq_mo_13 hq_mo_18 hcl2 hmu H locs hB ls hl
      refine q_ild_n cx dX12_clears_24 rfl (lv_at hl 1 rfl) ?_
      refine q_bipush cx dX12_clears_25 rfl ?_
      refine q_icge (tgt := 43) cx ⟨by omega, by omega⟩ ⟨by decide, by decide⟩ dX12_clears_27 (by decide) (fun c298 => ?_) (fun c298 => ?_)
      · have z299 : q_is (q_z f24 sr 0) 0 := hcl2 0 (by omega)
        have z300 : q_is (q_z f24 sr 1) 0 := hcl2 1 (by omega)
        have z301 : q_is (q_z f24 sr 3) 0 := hcl2 3 (by omega)
        have z302 : q_is (q_z f24 sr 4) 0 := hcl2 4 (by omega)
        refine q_ald_n cx dX12_clears_43 rfl (lv_at hl 0 rfl) ?_
        refine q_gX12_20 cx hB hmo kmo hq_mo_13 dX12_clears_44 (fun hb303 kb303 => ?_)
        refine q_iconst cx dX12_clears_47 ?_
        refine q_bipush cx dX12_clears_48 rfl ?_
        refine q_sast cx hB hsr ksr (by decide) (by decide) ⟨by decide, by decide⟩ rfl dX12_clears_50 (fun H locs f304 ef304 z305 hB => ?_)
        have z306 : q_is (q_z f304 sr 0) 0 := by rw [ef304, q_setz (Or.inr (by decide))]; exact z299
        have z307 : q_is (q_z f304 sr 1) 0 := by rw [ef304, q_setz (Or.inr (by decide))]; exact z300
        have z308 : q_is (q_z f304 sr 3) 0 := by rw [ef304, q_setz (Or.inr (by decide))]; exact z301
        have z309 : q_is (q_z f304 sr 4) 0 := by rw [ef304, q_setz (Or.inr (by decide))]; exact z302
        have z310 : q_ir (q_r f304 mo 13) sr := by rw [ef304, q_setr (Or.inr (by decide))]; exact hq_mo_13
        have z311 : q_ir (q_r f304 mo 18) nm := by rw [ef304, q_setr (Or.inr (by decide))]; exact hq_mo_18
        have gr51 : q_gr f304 sr := k_grcl (fun j hj => by
            by_cases h9 : j = 2
            · exact Or.inr h9
            · exact Or.inl (by rw [ef304, q_setz (Or.inr (show j ≠ Int.toNat 2 from h9))]; exact hcl2 j hj)) z305
        refine q_ald_n cx dX12_clears_51 rfl (lv_at hl 0 rfl) ?_
        refine q_gX12_20 cx hB hmo kmo z310 dX12_clears_52 (fun hb312 kb312 => ?_)
        refine q_iconst cx dX12_clears_55 ?_
        refine q_iconst cx dX12_clears_56 ?_
        refine q_sast cx hB hsr ksr (by decide) (by decide) ⟨by decide, by decide⟩ rfl dX12_clears_57 (fun H locs f313 ef313 z314 hB => ?_)
        have z315 : q_is (q_z f313 sr 0) 0 := by rw [ef313, q_setz (Or.inr (by decide))]; exact z306
        have z316 : q_is (q_z f313 sr 1) 0 := by rw [ef313, q_setz (Or.inr (by decide))]; exact z307
        have z317 : q_is (q_z f313 sr 3) 0 := by rw [ef313, q_setz (Or.inr (by decide))]; exact z308
        have z318 : q_is (q_z f313 sr 4) 0 := by rw [ef313, q_setz (Or.inr (by decide))]; exact z309
        have z319 : q_is (q_z f313 sr 2) 12 := by rw [ef313, q_setz (Or.inr (by decide))]; exact z305
        have z320 : q_ir (q_r f313 mo 13) sr := by rw [ef313, q_setr (Or.inr (by decide))]; exact z310
        have z321 : q_ir (q_r f313 mo 18) nm := by rw [ef313, q_setr (Or.inr (by decide))]; exact z311
        have g322 : q_gr f313 sr := q_gr_put gr51 ef313 z314 rfl (by decide) (by decide)
        refine q_ald_n cx dX12_clears_58 rfl (lv_at hl 0 rfl) ?_
        refine q_gX12_20 cx hB hmo kmo z320 dX12_clears_59 (fun hb323 kb323 => ?_)
        refine q_bipush cx dX12_clears_62 rfl ?_
        refine q_iconst cx dX12_clears_64 ?_
        refine q_sast cx hB hsr ksr (by decide) (by decide) ⟨by decide, by decide⟩ rfl dX12_clears_65 (fun H locs f324 ef324 z325 hB => ?_)
        have z326 : q_is (q_z f324 sr 0) 0 := by rw [ef324, q_setz (Or.inr (by decide))]; exact z315
        have z327 : q_is (q_z f324 sr 1) 0 := by rw [ef324, q_setz (Or.inr (by decide))]; exact z316
        have z328 : q_is (q_z f324 sr 3) 0 := by rw [ef324, q_setz (Or.inr (by decide))]; exact z317
        have z329 : q_is (q_z f324 sr 4) 0 := by rw [ef324, q_setz (Or.inr (by decide))]; exact z318
        have z330 : q_is (q_z f324 sr 2) 12 := by rw [ef324, q_setz (Or.inr (by decide))]; exact z319
        have z331 : q_is (q_z f324 sr 5) 1 := by rw [ef324, q_setz (Or.inr (by decide))]; exact z314
        have z332 : q_ir (q_r f324 mo 13) sr := by rw [ef324, q_setr (Or.inr (by decide))]; exact z320
        have z333 : q_ir (q_r f324 mo 18) nm := by rw [ef324, q_setr (Or.inr (by decide))]; exact z321
        have g334 : q_gr f324 sr := q_gr_put g322 ef324 z325 rfl (by decide) (by decide)
        refine q_ald_n cx dX12_clears_66 rfl (lv_at hl 0 rfl) ?_
        refine q_gX12_20 cx hB hmo kmo z332 dX12_clears_67 (fun hb335 kb335 => ?_)
        refine q_bipush cx dX12_clears_70 rfl ?_
        refine q_iconst cx dX12_clears_72 ?_
        refine q_sast cx hB hsr ksr (by decide) (by decide) ⟨by decide, by decide⟩ rfl dX12_clears_73 (fun H locs f336 ef336 z337 hB => ?_)
        have z338 : q_is (q_z f336 sr 0) 0 := by rw [ef336, q_setz (Or.inr (by decide))]; exact z326
        have z339 : q_is (q_z f336 sr 1) 0 := by rw [ef336, q_setz (Or.inr (by decide))]; exact z327
        have z340 : q_is (q_z f336 sr 3) 0 := by rw [ef336, q_setz (Or.inr (by decide))]; exact z328
        have z341 : q_is (q_z f336 sr 4) 0 := by rw [ef336, q_setz (Or.inr (by decide))]; exact z329
        have z342 : q_is (q_z f336 sr 2) 12 := by rw [ef336, q_setz (Or.inr (by decide))]; exact z330
        have z343 : q_is (q_z f336 sr 5) 1 := by rw [ef336, q_setz (Or.inr (by decide))]; exact z331
        have z344 : q_is (q_z f336 sr 6) 2 := by rw [ef336, q_setz (Or.inr (by decide))]; exact z325
        have z345 : q_ir (q_r f336 mo 13) sr := by rw [ef336, q_setr (Or.inr (by decide))]; exact z332
        have z346 : q_ir (q_r f336 mo 18) nm := by rw [ef336, q_setr (Or.inr (by decide))]; exact z333
        have g347 : q_gr f336 sr := q_gr_put g334 ef336 z337 rfl (by decide) (by decide)
        refine q_ald_n cx dX12_clears_74 rfl (lv_at hl 0 rfl) ?_
        refine q_gX12_20 cx hB hmo kmo z345 dX12_clears_75 (fun hb348 kb348 => ?_)
        refine q_bipush cx dX12_clears_78 rfl ?_
        refine q_iconst cx dX12_clears_80 ?_
        refine q_sast cx hB hsr ksr (by decide) (by decide) ⟨by decide, by decide⟩ rfl dX12_clears_81 (fun H locs f349 ef349 z350 hB => ?_)
        have z351 : q_is (q_z f349 sr 0) 0 := by rw [ef349, q_setz (Or.inr (by decide))]; exact z338
        have z352 : q_is (q_z f349 sr 1) 0 := by rw [ef349, q_setz (Or.inr (by decide))]; exact z339
        have z353 : q_is (q_z f349 sr 3) 0 := by rw [ef349, q_setz (Or.inr (by decide))]; exact z340
        have z354 : q_is (q_z f349 sr 4) 0 := by rw [ef349, q_setz (Or.inr (by decide))]; exact z341
        have z355 : q_is (q_z f349 sr 2) 12 := by rw [ef349, q_setz (Or.inr (by decide))]; exact z342
        have z356 : q_is (q_z f349 sr 5) 1 := by rw [ef349, q_setz (Or.inr (by decide))]; exact z343
        have z357 : q_is (q_z f349 sr 6) 2 := by rw [ef349, q_setz (Or.inr (by decide))]; exact z344
        have z358 : q_is (q_z f349 sr 7) 5 := by rw [ef349, q_setz (Or.inr (by decide))]; exact z337
        have z359 : q_ir (q_r f349 mo 13) sr := by rw [ef349, q_setr (Or.inr (by decide))]; exact z345
        have z360 : q_ir (q_r f349 mo 18) nm := by rw [ef349, q_setr (Or.inr (by decide))]; exact z346
        have g361 : q_gr f349 sr := q_gr_put g347 ef349 z350 rfl (by decide) (by decide)
        refine q_vret cx hr hlk hB dX12_clears_82 ?_
        exact ⟨(q_isl z353 (by omega)), (q_isu z353 (by omega)), (q_isl z354 (by omega)), (q_isu z354 (by omega)), z351, z352, g361⟩
      · refine q_ald_n cx dX12_clears_30 rfl (lv_at hl 0 rfl) ?_
        refine q_gX12_35 cx hB hmo kmo hq_mo_18 dX12_clears_31 (fun hb362 kb362 => ?_)
        refine q_ild_n cx dX12_clears_34 rfl (lv_at hl 1 rfl) ?_
        refine q_lconst (z := 0) cx (by decide) dX12_clears_35 ?_
        refine q_last (n := 10) cx hB hnm knm (by decide) rfl rfl (by omega) (by omega) (by decide) rfl (q_inWi (lo := 0) (hi := 9) (by decide) (by omega) (by omega)) dX12_clears_36 (fun H locs f363 ef363 z364 hB => ?_)
        have z365 : q_ir (q_r f363 mo 13) sr := by rw [ef363, q_setr (Or.inl (fun q => by rw [q, knm] at kmo; exact absurd kmo (by decide)))]; exact hq_mo_13
        have z366 : q_ir (q_r f363 mo 18) nm := by rw [ef363, q_setr (Or.inl (fun q => by rw [q, knm] at kmo; exact absurd kmo (by decide)))]; exact hq_mo_18
        refine q_iinc (lv' := [(1, .int (q_i (v24_1 + 1))), (0, .ref mo)]) cx dX12_clears_37 hl (k := 1) rfl (by decide) rfl (fun ls hl => ?_)
        refine lv_goto (tgt := 24) cx.1 cx.2.1 dX12_clears_40 (by decide) ?_
        exact ih24 f363 (v24_1 + 1) (by omega) (by omega) z365 z366 (fun j hj => by rw [ef363, q_setz (Or.inl (fun q => q_kne (k := 151) (k2 := 156) (by decide) ksr knm q))]; exact hcl2 j hj) (by omega) H locs hB ls (lv_sub hl [1, 0] rfl)
  have J2 : ∀ (n : Nat) (f2 : Nat → va_E) (v2_1 : Int) (lv2_1 : 0 ≤ v2_1) (uv2_1 : v2_1 ≤ 658) (hq_mo_13 : q_ir (q_r f2 mo 13) sr) (hq_mo_18 : q_ir (q_r f2 mo 18) nm) (hcl : ∀ j : Nat, (j : Int) < v2_1 → q_z f2 sr j = 0) (hmu : (Int.toNat (2147483647 - v2_1)) < n) (H : Heap) (locs : List Loc) (hB : q_B g K L (fun q => q ∈ L) [(151, 0, 657), (156, 0, 9)] f f2 s H locs) (ls : Array Slot) (hl : lv_has ls 2 [(0, .ref mo), (1, .int (q_i v2_1))]), W p l e { frames := 0, cells := 0, slots := 0, locals := 0 } s m ([.ref mo] : List Value).toArray below meth c H locs 0 0 (MQ below (q_Q g K L [(151, 0, 657), (156, 0, 9)] f (q_Pv (fun (f1 : Nat → va_E) => 0 ≤ q_z f1 sr 3 ∧ q_z f1 sr 3 ≤ 9999 ∧ 0 ≤ q_z f1 sr 4 ∧ q_z f1 sr 4 ≤ 60 ∧ q_is (q_z f1 sr 0) 0 ∧ q_is (q_z f1 sr 1) 0 ∧ q_gr f1 sr))) ([.ref mo] : List Value).toArray s 0 0 (fun q => q ∈ L)) (F0 m 2 ls []) := by
    intro n
    induction n with
    | zero =>
      intro f2 v2_1 lv2_1 uv2_1 hq_mo_13 hq_mo_18 hcl hmu
      exact absurd hmu (Nat.not_lt_zero _)
    | succ n ih2 =>
      intro f2 v2_1 lv2_1 uv2_1 hq_mo_13 hq_mo_18 hcl hmu H locs hB ls hl
      refine q_ild_n cx dX12_clears_2 rfl (lv_at hl 1 rfl) ?_
      refine q_sipush cx dX12_clears_3 rfl ?_
      refine q_icge (tgt := 22) cx ⟨by omega, by omega⟩ ⟨by decide, by decide⟩ dX12_clears_6 (by decide) (fun c367 => ?_) (fun c367 => ?_)
      · refine q_iconst cx dX12_clears_22 ?_
        refine lv_istore_n (lv' := [(1, .int (q_i 0)), (0, .ref mo)]) cx.1 cx.2.1 dX12_clears_23 rfl hl (by decide) rfl (fun ls hl => ?_)
        exact J24 ((Int.toNat (2147483647 - 0)) + 1) f2 0 (by decide) (by decide) hq_mo_13 hq_mo_18 (fun j hj => hcl j (by omega)) (Nat.lt_succ_self _) H locs hB ls (lv_sub hl [1, 0] rfl)
      · refine q_ald_n cx dX12_clears_9 rfl (lv_at hl 0 rfl) ?_
        refine q_gX12_20 cx hB hmo kmo hq_mo_13 dX12_clears_10 (fun hb368 kb368 => ?_)
        refine q_ild_n cx dX12_clears_13 rfl (lv_at hl 1 rfl) ?_
        refine q_iconst cx dX12_clears_14 ?_
        refine q_sastr cx hB hsr ksr (by omega) (by omega) ⟨by decide, by decide⟩ q_ew0 (q_inWi (lo := 0) (hi := 657) (by decide) (by omega) (by omega)) dX12_clears_15 (fun H locs f369 ef369 z370 hB => ?_)
        have z371 : q_ir (q_r f369 mo 13) sr := by rw [ef369, q_setr (Or.inl (fun q => by rw [q, ksr] at kmo; exact absurd kmo (by decide)))]; exact hq_mo_13
        have z372 : q_ir (q_r f369 mo 18) nm := by rw [ef369, q_setr (Or.inl (fun q => by rw [q, ksr] at kmo; exact absurd kmo (by decide)))]; exact hq_mo_18
        refine q_iinc (lv' := [(1, .int (q_i (v2_1 + 1))), (0, .ref mo)]) cx dX12_clears_16 hl (k := 1) rfl (by decide) rfl (fun ls hl => ?_)
        refine lv_goto (tgt := 2) cx.1 cx.2.1 dX12_clears_19 (by decide) ?_
        exact ih2 f369 (v2_1 + 1) (by omega) (by omega) z371 z372 (q_clb hcl ef369 z370 (by omega)) (by omega) H locs hB ls (lv_sub hl [1, 0] rfl)
  obtain ⟨H, hH⟩ : ∃ H : Heap, H = s.heap := ⟨_, rfl⟩
  obtain ⟨locs, hlocs⟩ : ∃ z : List Loc, z = [] := ⟨_, rfl⟩
  rw [← hH, ← hlocs] at hB
  rw [← hH, ← hlocs]
  refine q_iconst cx dX12_clears_0 ?_
  refine lv_istore_n (lv' := [(1, .int (q_i 0)), (0, .ref mo)]) cx.1 cx.2.1 dX12_clears_1 rfl hl (by decide) rfl (fun ls hl => ?_)
  exact J2 ((Int.toNat (2147483647 - 0)) + 1) f 0 (by decide) (by decide) hr0 hr1 (fun j hj => absurd hj (by omega)) (Nat.lt_succ_self _) H locs hB ls (lv_sub hl [1, 0] rfl)
