set_option maxHeartbeats 4000000 in
set_option maxRecDepth 100000 in
theorem r_copiesRow_sr_as (l : Launch) (g : q_G) {K : Nat → Nat} {L : List Nat} (hN : L.Nodup) {f : Nat → va_E} (hT : q_Ty g K L f) (sr : Nat) (hsr : sr ∈ L) (ksr : K sr = 151) (a0 : Int) (la0 : 0 ≤ a0) (ua0 : a0 ≤ 0) (as : Nat) (has : as ∈ L) (kas : K as = 153) (b0 : Int) (lb0 : 0 ≤ b0) (ub0 : b0 ≤ 0) (xt : Int) (lxt : 0 ≤ xt) (uxt : xt ≤ 9999) (xm : Int) (lxm : 0 ≤ xm) (uxm : xm ≤ 60) (xc : Int) (lxc : 0 ≤ xc) (uxc : xc ≤ 10) (hf0 : q_is (q_z f sr 3) xt) (hf1 : q_is (q_z f sr 4) xm) (hf2 : q_is (q_z f sr 0) xc) (hgr : q_gr f sr) : q_Ct l g K L yX12_copiesRow cX12_copiesRow 5 none 0 0 [.ref sr, .int (q_i a0), .ref as, .int (q_i b0)] f [(153, 0, 657)] (q_Pv (fun (f1 : Nat → va_E) => (∀ i : Int, 0 ≤ i → i < 658 → q_z f1 as (Int.toNat (0 + i)) = q_z f sr (Int.toNat (0 + i))))) := by
  obtain rfl : a0 = 0 := by omega
  obtain rfl : b0 = 0 := by omega
  refine q_ofb (by decide +kernel) hN hT (Nat.le_of_ble_eq_true rfl) ?_
  intro p e s m below meth c ls cx hr hlk hB hl
  have hl : lv_has ls 5 [(0, .ref sr), (1, .int (q_i 0)), (2, .ref as), (3, .int (q_i 0))] := hl
  have J3 : ∀ (n : Nat) (f3 : Nat → va_E) (v3_4 : Int) (lv3_4 : 0 ≤ v3_4) (uv3_4 : v3_4 ≤ 658) (hj_sr_3 : q_is (q_z f3 sr 3) xt) (hj_sr_4 : q_is (q_z f3 sr 4) xm) (hj_sr_0 : q_is (q_z f3 sr 0) xc) (hgr3 : q_gr f3 sr) (hcp : ∀ i : Int, 0 ≤ i → i < v3_4 → q_z f3 as (Int.toNat (0 + i)) = q_z f sr (Int.toNat (0 + i))) (hmu : (Int.toNat (2147483647 - v3_4)) < n) (H : Heap) (locs : List Loc) (hB : q_B g K L (fun q => q ∈ L) [(153, 0, 657)] f f3 s H locs) (ls : Array Slot) (hl : lv_has ls 5 [(0, .ref sr), (1, .int (q_i 0)), (2, .ref as), (3, .int (q_i 0)), (4, .int (q_i v3_4))]), W p l e { frames := 0, cells := 0, slots := 0, locals := 0 } s m ([.ref sr, .int (q_i 0), .ref as, .int (q_i 0)] : List Value).toArray below meth c H locs 0 0 (MQ below (q_Q g K L [(153, 0, 657)] f (q_Pv (fun (f1 : Nat → va_E) => (∀ i : Int, 0 ≤ i → i < 658 → q_z f1 as (Int.toNat (0 + i)) = q_z f sr (Int.toNat (0 + i)))))) ([.ref sr, .int (q_i 0), .ref as, .int (q_i 0)] : List Value).toArray s 0 0 (fun q => q ∈ L)) (F0 m 3 ls []) := by
    intro n
    induction n with
    | zero =>
      intro f3 v3_4 lv3_4 uv3_4 hj_sr_3 hj_sr_4 hj_sr_0 hgr3 hcp hmu
      exact absurd hmu (Nat.not_lt_zero _)
    | succ n ih3 =>
      intro f3 v3_4 lv3_4 uv3_4 hj_sr_3 hj_sr_4 hj_sr_0 hgr3 hcp hmu H locs hB ls hl
      refine lv_iload cx.1 cx.2.1 dX12_copiesRow_3 (lv_at hl 4 rfl) ?_
      refine q_sipush cx dX12_copiesRow_5 rfl ?_
      refine q_icge (tgt := 29) cx ⟨by omega, by omega⟩ ⟨by decide, by decide⟩ dX12_copiesRow_8 (by decide) (fun c262 => ?_) (fun c262 => ?_)
      · refine q_vret cx hr hlk hB dX12_copiesRow_29 ?_
        exact (fun i h0 h1 => hcp i h0 (by omega))
      · refine q_ald_n cx dX12_copiesRow_11 rfl (lv_at hl 2 rfl) ?_
        refine q_ild_n cx dX12_copiesRow_12 rfl (lv_at hl 3 rfl) ?_
        refine lv_iload cx.1 cx.2.1 dX12_copiesRow_13 (lv_at hl 4 rfl) ?_
        refine q_iadd cx dX12_copiesRow_15 ?_
        refine q_ald_n cx dX12_copiesRow_16 rfl (lv_at hl 0 rfl) ?_
        refine q_ild_n cx dX12_copiesRow_17 rfl (lv_at hl 1 rfl) ?_
        refine lv_iload cx.1 cx.2.1 dX12_copiesRow_18 (lv_at hl 4 rfl) ?_
        refine q_iadd cx dX12_copiesRow_20 ?_
        obtain ⟨x263, ex263⟩ : ∃ zz, q_is (q_z f3 sr (Int.toNat (0 + v3_4))) zz := ⟨_, q_isr _⟩
        refine q_sald cx hB hsr ksr (by omega) (by omega) ex263 dX12_copiesRow_21 (fun rx263 => ?_)
        have hf9 := hB.2.2.z (i := Int.toNat (0 + v3_4)) hsr (by rw [ksr]; rfl)
        refine q_rast (n := 658) cx hB has kas q_K3 rfl (by omega) (by omega) (by decide) ⟨by omega, by omega⟩ (by rw [q_rowE (n := 658) (p := Int.toNat (0 + v3_4)) q_K3 rfl (by omega) (by omega), ← (show _ = _ from ex263)]; exact (q_rest hgr3 (q_isu hj_sr_3 (by omega)) (q_isu hj_sr_4 (by omega)) (by omega)).1) (by rw [q_rowE (n := 658) (p := Int.toNat (0 + v3_4)) q_K3 rfl (by omega) (by omega), ← (show _ = _ from ex263)]; exact (q_rest hgr3 (q_isu hj_sr_3 (by omega)) (q_isu hj_sr_4 (by omega)) (by omega)).2) (q_inWi (lo := 0) (hi := 657) (by decide) (by omega) (by omega)) dX12_copiesRow_22 (fun H locs f265 ef265 z266 hB => ?_)
        have z267 : q_is (q_z f265 sr 3) xt := by rw [ef265, q_setz (Or.inl (fun q => by rw [q, kas] at ksr; exact absurd ksr (by decide)))]; exact hj_sr_3
        have z268 : q_is (q_z f265 sr 4) xm := by rw [ef265, q_setz (Or.inl (fun q => by rw [q, kas] at ksr; exact absurd ksr (by decide)))]; exact hj_sr_4
        have z269 : q_is (q_z f265 sr 0) xc := by rw [ef265, q_setz (Or.inl (fun q => by rw [q, kas] at ksr; exact absurd ksr (by decide)))]; exact hj_sr_0
        have g270 : q_gr f265 sr := q_gr_ne hgr3 ef265 (fun q => q_kne (k := 151) (k2 := 153) (by decide) ksr kas q)
        refine q_iinc (lv' := [(4, .int (q_i (v3_4 + 1))), (0, .ref sr), (1, .int (q_i 0)), (2, .ref as), (3, .int (q_i 0))]) cx dX12_copiesRow_23 hl (k := 4) rfl (by decide) rfl (fun ls hl => ?_)
        refine lv_goto (tgt := 3) cx.1 cx.2.1 dX12_copiesRow_26 (by decide) ?_
        exact ih3 f265 (v3_4 + 1) (by omega) (by omega) z267 z268 z269 g270 (k_cp hcp ef265 z266 ex263 hf9 (by omega) (by omega)) (by omega) H locs hB ls (lv_sub hl [1, 2, 3, 4, 0] rfl)
  obtain ⟨H, hH⟩ : ∃ H : Heap, H = s.heap := ⟨_, rfl⟩
  obtain ⟨locs, hlocs⟩ : ∃ z : List Loc, z = [] := ⟨_, rfl⟩
  rw [← hH, ← hlocs] at hB
  rw [← hH, ← hlocs]
  refine q_iconst cx dX12_copiesRow_0 ?_
  refine lv_istore (lv' := [(4, .int (q_i 0)), (0, .ref sr), (1, .int (q_i 0)), (2, .ref as), (3, .int (q_i 0))]) cx.1 cx.2.1 dX12_copiesRow_1 hl (by decide) rfl (fun ls hl => ?_)
  exact J3 ((Int.toNat (2147483647 - 0)) + 1) f 0 (by decide) (by decide) hf0 hf1 hf2 hgr (fun i h0 h1 => absurd h1 (by omega)) (Nat.lt_succ_self _) H locs hB ls (lv_sub hl [1, 2, 3, 4, 0] rfl)
set_option maxHeartbeats 4000000 in
set_option maxRecDepth 100000 in
theorem r_copiesRow_sr_aw (l : Launch) (g : q_G) {K : Nat → Nat} {L : List Nat} (hN : L.Nodup) {f : Nat → va_E} (hT : q_Ty g K L f) (sr : Nat) (hsr : sr ∈ L) (ksr : K sr = 151) (a0 : Int) (la0 : 0 ≤ a0) (ua0 : a0 ≤ 0) (aw : Nat) (haw : aw ∈ L) (kaw : K aw = 154) (b0 : Int) (lb0 : 0 ≤ b0) (ub0 : b0 ≤ 0) (xt : Int) (lxt : 0 ≤ xt) (uxt : xt ≤ 9999) (xm : Int) (lxm : 0 ≤ xm) (uxm : xm ≤ 60) (xc : Int) (lxc : 0 ≤ xc) (uxc : xc ≤ 10) (hf0 : q_is (q_z f sr 3) xt) (hf1 : q_is (q_z f sr 4) xm) (hf2 : q_is (q_z f sr 0) xc) (hgr : q_gr f sr) : q_Ct l g K L yX12_copiesRow cX12_copiesRow 5 none 0 0 [.ref sr, .int (q_i a0), .ref aw, .int (q_i b0)] f [(154, 0, 657)] (q_Pv (fun (f1 : Nat → va_E) => (∀ i : Int, 0 ≤ i → i < 658 → q_z f1 aw (Int.toNat (0 + i)) = q_z f sr (Int.toNat (0 + i))))) := by
  obtain rfl : a0 = 0 := by omega
  obtain rfl : b0 = 0 := by omega
  refine q_ofb (by decide +kernel) hN hT (Nat.le_of_ble_eq_true rfl) ?_
  intro p e s m below meth c ls cx hr hlk hB hl
  have hl : lv_has ls 5 [(0, .ref sr), (1, .int (q_i 0)), (2, .ref aw), (3, .int (q_i 0))] := hl
  have J3 : ∀ (n : Nat) (f3 : Nat → va_E) (v3_4 : Int) (lv3_4 : 0 ≤ v3_4) (uv3_4 : v3_4 ≤ 658) (hj_sr_3 : q_is (q_z f3 sr 3) xt) (hj_sr_4 : q_is (q_z f3 sr 4) xm) (hj_sr_0 : q_is (q_z f3 sr 0) xc) (hgr3 : q_gr f3 sr) (hcp : ∀ i : Int, 0 ≤ i → i < v3_4 → q_z f3 aw (Int.toNat (0 + i)) = q_z f sr (Int.toNat (0 + i))) (hmu : (Int.toNat (2147483647 - v3_4)) < n) (H : Heap) (locs : List Loc) (hB : q_B g K L (fun q => q ∈ L) [(154, 0, 657)] f f3 s H locs) (ls : Array Slot) (hl : lv_has ls 5 [(0, .ref sr), (1, .int (q_i 0)), (2, .ref aw), (3, .int (q_i 0)), (4, .int (q_i v3_4))]), W p l e { frames := 0, cells := 0, slots := 0, locals := 0 } s m ([.ref sr, .int (q_i 0), .ref aw, .int (q_i 0)] : List Value).toArray below meth c H locs 0 0 (MQ below (q_Q g K L [(154, 0, 657)] f (q_Pv (fun (f1 : Nat → va_E) => (∀ i : Int, 0 ≤ i → i < 658 → q_z f1 aw (Int.toNat (0 + i)) = q_z f sr (Int.toNat (0 + i)))))) ([.ref sr, .int (q_i 0), .ref aw, .int (q_i 0)] : List Value).toArray s 0 0 (fun q => q ∈ L)) (F0 m 3 ls []) := by
    intro n
    induction n with
    | zero =>
      intro f3 v3_4 lv3_4 uv3_4 hj_sr_3 hj_sr_4 hj_sr_0 hgr3 hcp hmu
      exact absurd hmu (Nat.not_lt_zero _)
    | succ n ih3 =>
      intro f3 v3_4 lv3_4 uv3_4 hj_sr_3 hj_sr_4 hj_sr_0 hgr3 hcp hmu H locs hB ls hl
      refine lv_iload cx.1 cx.2.1 dX12_copiesRow_3 (lv_at hl 4 rfl) ?_
      refine q_sipush cx dX12_copiesRow_5 rfl ?_
      refine q_icge (tgt := 29) cx ⟨by omega, by omega⟩ ⟨by decide, by decide⟩ dX12_copiesRow_8 (by decide) (fun c262 => ?_) (fun c262 => ?_)
      · refine q_vret cx hr hlk hB dX12_copiesRow_29 ?_
        exact (fun i h0 h1 => hcp i h0 (by omega))
      · refine q_ald_n cx dX12_copiesRow_11 rfl (lv_at hl 2 rfl) ?_
        refine q_ild_n cx dX12_copiesRow_12 rfl (lv_at hl 3 rfl) ?_
        refine lv_iload cx.1 cx.2.1 dX12_copiesRow_13 (lv_at hl 4 rfl) ?_
        refine q_iadd cx dX12_copiesRow_15 ?_
        refine q_ald_n cx dX12_copiesRow_16 rfl (lv_at hl 0 rfl) ?_
        refine q_ild_n cx dX12_copiesRow_17 rfl (lv_at hl 1 rfl) ?_
        refine lv_iload cx.1 cx.2.1 dX12_copiesRow_18 (lv_at hl 4 rfl) ?_
        refine q_iadd cx dX12_copiesRow_20 ?_
        obtain ⟨x263, ex263⟩ : ∃ zz, q_is (q_z f3 sr (Int.toNat (0 + v3_4))) zz := ⟨_, q_isr _⟩
        refine q_sald cx hB hsr ksr (by omega) (by omega) ex263 dX12_copiesRow_21 (fun rx263 => ?_)
        have hf9 := hB.2.2.z (i := Int.toNat (0 + v3_4)) hsr (by rw [ksr]; rfl)
        refine q_rast (n := 658) cx hB haw kaw q_K4 rfl (by omega) (by omega) (by decide) ⟨by omega, by omega⟩ (by rw [q_rowE (n := 658) (p := Int.toNat (0 + v3_4)) q_K4 rfl (by omega) (by omega), ← (show _ = _ from ex263)]; exact (q_rest hgr3 (q_isu hj_sr_3 (by omega)) (q_isu hj_sr_4 (by omega)) (by omega)).1) (by rw [q_rowE (n := 658) (p := Int.toNat (0 + v3_4)) q_K4 rfl (by omega) (by omega), ← (show _ = _ from ex263)]; exact (q_rest hgr3 (q_isu hj_sr_3 (by omega)) (q_isu hj_sr_4 (by omega)) (by omega)).2) (q_inWi (lo := 0) (hi := 657) (by decide) (by omega) (by omega)) dX12_copiesRow_22 (fun H locs f265 ef265 z266 hB => ?_)
        have z267 : q_is (q_z f265 sr 3) xt := by rw [ef265, q_setz (Or.inl (fun q => by rw [q, kaw] at ksr; exact absurd ksr (by decide)))]; exact hj_sr_3
        have z268 : q_is (q_z f265 sr 4) xm := by rw [ef265, q_setz (Or.inl (fun q => by rw [q, kaw] at ksr; exact absurd ksr (by decide)))]; exact hj_sr_4
        have z269 : q_is (q_z f265 sr 0) xc := by rw [ef265, q_setz (Or.inl (fun q => by rw [q, kaw] at ksr; exact absurd ksr (by decide)))]; exact hj_sr_0
        have g270 : q_gr f265 sr := q_gr_ne hgr3 ef265 (fun q => q_kne (k := 151) (k2 := 154) (by decide) ksr kaw q)
        refine q_iinc (lv' := [(4, .int (q_i (v3_4 + 1))), (0, .ref sr), (1, .int (q_i 0)), (2, .ref aw), (3, .int (q_i 0))]) cx dX12_copiesRow_23 hl (k := 4) rfl (by decide) rfl (fun ls hl => ?_)
        refine lv_goto (tgt := 3) cx.1 cx.2.1 dX12_copiesRow_26 (by decide) ?_
        exact ih3 f265 (v3_4 + 1) (by omega) (by omega) z267 z268 z269 g270 (k_cp hcp ef265 z266 ex263 hf9 (by omega) (by omega)) (by omega) H locs hB ls (lv_sub hl [1, 2, 3, 4, 0] rfl)
  obtain ⟨H, hH⟩ : ∃ H : Heap, H = s.heap := ⟨_, rfl⟩
  obtain ⟨locs, hlocs⟩ : ∃ z : List Loc, z = [] := ⟨_, rfl⟩
  rw [← hH, ← hlocs] at hB
  rw [← hH, ← hlocs]
  refine q_iconst cx dX12_copiesRow_0 ?_
  refine lv_istore (lv' := [(4, .int (q_i 0)), (0, .ref sr), (1, .int (q_i 0)), (2, .ref aw), (3, .int (q_i 0))]) cx.1 cx.2.1 dX12_copiesRow_1 hl (by decide) rfl (fun ls hl => ?_)
  exact J3 ((Int.toNat (2147483647 - 0)) + 1) f 0 (by decide) (by decide) hf0 hf1 hf2 hgr (fun i h0 h1 => absurd h1 (by omega)) (Nat.lt_succ_self _) H locs hB ls (lv_sub hl [1, 2, 3, 4, 0] rfl)
set_option maxHeartbeats 4000000 in
set_option maxRecDepth 100000 in
theorem r_copiesRow_sr_sd (l : Launch) (g : q_G) {K : Nat → Nat} {L : List Nat} (hN : L.Nodup) {f : Nat → va_E} (hT : q_Ty g K L f) (sr : Nat) (hsr : sr ∈ L) (ksr : K sr = 151) (a0 : Int) (la0 : 0 ≤ a0) (ua0 : a0 ≤ 0) (sd : Nat) (hsd : sd ∈ L) (ksd : K sd = 152) (b0 : Int) (lb0 : 0 ≤ b0) (ub0 : b0 ≤ 0) (xt : Int) (lxt : 0 ≤ xt) (uxt : xt ≤ 9999) (xm : Int) (lxm : 0 ≤ xm) (uxm : xm ≤ 60) (xc : Int) (lxc : 0 ≤ xc) (uxc : xc ≤ 10) (hf0 : q_is (q_z f sr 3) xt) (hf1 : q_is (q_z f sr 4) xm) (hf2 : q_is (q_z f sr 0) xc) (hgr : q_gr f sr) : q_Ct l g K L yX12_copiesRow cX12_copiesRow 5 none 0 0 [.ref sr, .int (q_i a0), .ref sd, .int (q_i b0)] f [(152, 0, 657)] (q_Pv (fun (f1 : Nat → va_E) => (∀ i : Int, 0 ≤ i → i < 658 → q_z f1 sd (Int.toNat (0 + i)) = q_z f sr (Int.toNat (0 + i))))) := by
  obtain rfl : a0 = 0 := by omega
  obtain rfl : b0 = 0 := by omega
  refine q_ofb (by decide +kernel) hN hT (Nat.le_of_ble_eq_true rfl) ?_
  intro p e s m below meth c ls cx hr hlk hB hl
  have hl : lv_has ls 5 [(0, .ref sr), (1, .int (q_i 0)), (2, .ref sd), (3, .int (q_i 0))] := hl
  have J3 : ∀ (n : Nat) (f3 : Nat → va_E) (v3_4 : Int) (lv3_4 : 0 ≤ v3_4) (uv3_4 : v3_4 ≤ 658) (hj_sr_3 : q_is (q_z f3 sr 3) xt) (hj_sr_4 : q_is (q_z f3 sr 4) xm) (hj_sr_0 : q_is (q_z f3 sr 0) xc) (hgr3 : q_gr f3 sr) (hcp : ∀ i : Int, 0 ≤ i → i < v3_4 → q_z f3 sd (Int.toNat (0 + i)) = q_z f sr (Int.toNat (0 + i))) (hmu : (Int.toNat (2147483647 - v3_4)) < n) (H : Heap) (locs : List Loc) (hB : q_B g K L (fun q => q ∈ L) [(152, 0, 657)] f f3 s H locs) (ls : Array Slot) (hl : lv_has ls 5 [(0, .ref sr), (1, .int (q_i 0)), (2, .ref sd), (3, .int (q_i 0)), (4, .int (q_i v3_4))]), W p l e { frames := 0, cells := 0, slots := 0, locals := 0 } s m ([.ref sr, .int (q_i 0), .ref sd, .int (q_i 0)] : List Value).toArray below meth c H locs 0 0 (MQ below (q_Q g K L [(152, 0, 657)] f (q_Pv (fun (f1 : Nat → va_E) => (∀ i : Int, 0 ≤ i → i < 658 → q_z f1 sd (Int.toNat (0 + i)) = q_z f sr (Int.toNat (0 + i)))))) ([.ref sr, .int (q_i 0), .ref sd, .int (q_i 0)] : List Value).toArray s 0 0 (fun q => q ∈ L)) (F0 m 3 ls []) := by
    intro n
    induction n with
    | zero =>
      intro f3 v3_4 lv3_4 uv3_4 hj_sr_3 hj_sr_4 hj_sr_0 hgr3 hcp hmu
      exact absurd hmu (Nat.not_lt_zero _)
    | succ n ih3 =>
      intro f3 v3_4 lv3_4 uv3_4 hj_sr_3 hj_sr_4 hj_sr_0 hgr3 hcp hmu H locs hB ls hl
      refine lv_iload cx.1 cx.2.1 dX12_copiesRow_3 (lv_at hl 4 rfl) ?_
      refine q_sipush cx dX12_copiesRow_5 rfl ?_
      refine q_icge (tgt := 29) cx ⟨by omega, by omega⟩ ⟨by decide, by decide⟩ dX12_copiesRow_8 (by decide) (fun c262 => ?_) (fun c262 => ?_)
      · refine q_vret cx hr hlk hB dX12_copiesRow_29 ?_
        exact (fun i h0 h1 => hcp i h0 (by omega))
      · refine q_ald_n cx dX12_copiesRow_11 rfl (lv_at hl 2 rfl) ?_
        refine q_ild_n cx dX12_copiesRow_12 rfl (lv_at hl 3 rfl) ?_
        refine lv_iload cx.1 cx.2.1 dX12_copiesRow_13 (lv_at hl 4 rfl) ?_
        refine q_iadd cx dX12_copiesRow_15 ?_
        refine q_ald_n cx dX12_copiesRow_16 rfl (lv_at hl 0 rfl) ?_
        refine q_ild_n cx dX12_copiesRow_17 rfl (lv_at hl 1 rfl) ?_
        refine lv_iload cx.1 cx.2.1 dX12_copiesRow_18 (lv_at hl 4 rfl) ?_
        refine q_iadd cx dX12_copiesRow_20 ?_
        obtain ⟨x263, ex263⟩ : ∃ zz, q_is (q_z f3 sr (Int.toNat (0 + v3_4))) zz := ⟨_, q_isr _⟩
        refine q_sald cx hB hsr ksr (by omega) (by omega) ex263 dX12_copiesRow_21 (fun rx263 => ?_)
        have hf9 := hB.2.2.z (i := Int.toNat (0 + v3_4)) hsr (by rw [ksr]; rfl)
        refine q_rast (n := 658) cx hB hsd ksd q_K2 rfl (by omega) (by omega) (by decide) ⟨by omega, by omega⟩ (by rw [q_rowE (n := 658) (p := Int.toNat (0 + v3_4)) q_K2 rfl (by omega) (by omega), ← (show _ = _ from ex263)]; exact (q_rest hgr3 (q_isu hj_sr_3 (by omega)) (q_isu hj_sr_4 (by omega)) (by omega)).1) (by rw [q_rowE (n := 658) (p := Int.toNat (0 + v3_4)) q_K2 rfl (by omega) (by omega), ← (show _ = _ from ex263)]; exact (q_rest hgr3 (q_isu hj_sr_3 (by omega)) (q_isu hj_sr_4 (by omega)) (by omega)).2) (q_inWi (lo := 0) (hi := 657) (by decide) (by omega) (by omega)) dX12_copiesRow_22 (fun H locs f265 ef265 z266 hB => ?_)
        have z267 : q_is (q_z f265 sr 3) xt := by rw [ef265, q_setz (Or.inl (fun q => by rw [q, ksd] at ksr; exact absurd ksr (by decide)))]; exact hj_sr_3
        have z268 : q_is (q_z f265 sr 4) xm := by rw [ef265, q_setz (Or.inl (fun q => by rw [q, ksd] at ksr; exact absurd ksr (by decide)))]; exact hj_sr_4
        have z269 : q_is (q_z f265 sr 0) xc := by rw [ef265, q_setz (Or.inl (fun q => by rw [q, ksd] at ksr; exact absurd ksr (by decide)))]; exact hj_sr_0
        have g270 : q_gr f265 sr := q_gr_ne hgr3 ef265 (fun q => q_kne (k := 151) (k2 := 152) (by decide) ksr ksd q)
        refine q_iinc (lv' := [(4, .int (q_i (v3_4 + 1))), (0, .ref sr), (1, .int (q_i 0)), (2, .ref sd), (3, .int (q_i 0))]) cx dX12_copiesRow_23 hl (k := 4) rfl (by decide) rfl (fun ls hl => ?_)
        refine lv_goto (tgt := 3) cx.1 cx.2.1 dX12_copiesRow_26 (by decide) ?_
        exact ih3 f265 (v3_4 + 1) (by omega) (by omega) z267 z268 z269 g270 (k_cp hcp ef265 z266 ex263 hf9 (by omega) (by omega)) (by omega) H locs hB ls (lv_sub hl [1, 2, 3, 4, 0] rfl)
  obtain ⟨H, hH⟩ : ∃ H : Heap, H = s.heap := ⟨_, rfl⟩
  obtain ⟨locs, hlocs⟩ : ∃ z : List Loc, z = [] := ⟨_, rfl⟩
  rw [← hH, ← hlocs] at hB
  rw [← hH, ← hlocs]
  refine q_iconst cx dX12_copiesRow_0 ?_
  refine lv_istore (lv' := [(4, .int (q_i 0)), (0, .ref sr), (1, .int (q_i 0)), (2, .ref sd), (3, .int (q_i 0))]) cx.1 cx.2.1 dX12_copiesRow_1 hl (by decide) rfl (fun ls hl => ?_)
  exact J3 ((Int.toNat (2147483647 - 0)) + 1) f 0 (by decide) (by decide) hf0 hf1 hf2 hgr (fun i h0 h1 => absurd h1 (by omega)) (Nat.lt_succ_self _) H locs hB ls (lv_sub hl [1, 2, 3, 4, 0] rfl)
set_option maxHeartbeats 4000000 in
set_option maxRecDepth 100000 in
theorem r_copiesRow_as_sr (l : Launch) (g : q_G) {K : Nat → Nat} {L : List Nat} (hN : L.Nodup) {f : Nat → va_E} (hT : q_Ty g K L f) (as : Nat) (has : as ∈ L) (kas : K as = 153) (a0 : Int) (la0 : 0 ≤ a0) (ua0 : a0 ≤ 0) (sr : Nat) (hsr : sr ∈ L) (ksr : K sr = 151) (b0 : Int) (lb0 : 0 ≤ b0) (ub0 : b0 ≤ 0) (xy : Int) (lxy : 4 ≤ xy) (uxy : xy ≤ 60) (xc : Int) (lxc : 0 ≤ xc) (uxc : xc ≤ 10) (hf0 : q_is (q_z f as 2) xy) (hf1 : q_is (q_z f as 0) xc) : q_Ct l g K L yX12_copiesRow cX12_copiesRow 5 none 0 0 [.ref as, .int (q_i a0), .ref sr, .int (q_i b0)] f [(151, 0, 657)] (q_Pv (fun (f1 : Nat → va_E) => 0 ≤ q_z f1 sr 3 ∧ q_z f1 sr 3 ≤ 9999 ∧ 0 ≤ q_z f1 sr 4 ∧ q_z f1 sr 4 ≤ 60 ∧ q_is (q_z f1 sr 0) xc ∧ (∀ i : Int, 0 ≤ i → i < 658 → q_z f1 sr (Int.toNat (0 + i)) = q_z f as (Int.toNat (0 + i))) ∧ q_gr f1 sr)) := by
  obtain rfl : a0 = 0 := by omega
  obtain rfl : b0 = 0 := by omega
  refine q_ofb (by decide +kernel) hN hT (Nat.le_of_ble_eq_true rfl) ?_
  intro p e s m below meth c ls cx hr hlk hB hl
  have hl : lv_has ls 5 [(0, .ref as), (1, .int (q_i 0)), (2, .ref sr), (3, .int (q_i 0))] := hl
  have J3 : ∀ (n : Nat) (f3 : Nat → va_E) (v3_4 : Int) (lv3_4 : 0 ≤ v3_4) (uv3_4 : v3_4 ≤ 658) (hj_as_2 : q_is (q_z f3 as 2) xy) (hj_as_0 : q_is (q_z f3 as 0) xc) (hcp : ∀ i : Int, 0 ≤ i → i < v3_4 → q_z f3 sr (Int.toNat (0 + i)) = q_z f as (Int.toNat (0 + i))) (hmu : (Int.toNat (2147483647 - v3_4)) < n) (H : Heap) (locs : List Loc) (hB : q_B g K L (fun q => q ∈ L) [(151, 0, 657)] f f3 s H locs) (ls : Array Slot) (hl : lv_has ls 5 [(0, .ref as), (1, .int (q_i 0)), (2, .ref sr), (3, .int (q_i 0)), (4, .int (q_i v3_4))]), W p l e { frames := 0, cells := 0, slots := 0, locals := 0 } s m ([.ref as, .int (q_i 0), .ref sr, .int (q_i 0)] : List Value).toArray below meth c H locs 0 0 (MQ below (q_Q g K L [(151, 0, 657)] f (q_Pv (fun (f1 : Nat → va_E) => 0 ≤ q_z f1 sr 3 ∧ q_z f1 sr 3 ≤ 9999 ∧ 0 ≤ q_z f1 sr 4 ∧ q_z f1 sr 4 ≤ 60 ∧ q_is (q_z f1 sr 0) xc ∧ (∀ i : Int, 0 ≤ i → i < 658 → q_z f1 sr (Int.toNat (0 + i)) = q_z f as (Int.toNat (0 + i))) ∧ q_gr f1 sr))) ([.ref as, .int (q_i 0), .ref sr, .int (q_i 0)] : List Value).toArray s 0 0 (fun q => q ∈ L)) (F0 m 3 ls []) := by
    intro n
    induction n with
    | zero =>
      intro f3 v3_4 lv3_4 uv3_4 hj_as_2 hj_as_0 hcp hmu
      exact absurd hmu (Nat.not_lt_zero _)
    | succ n ih3 =>
      intro f3 v3_4 lv3_4 uv3_4 hj_as_2 hj_as_0 hcp hmu H locs hB ls hl
      refine lv_iload cx.1 cx.2.1 dX12_copiesRow_3 (lv_at hl 4 rfl) ?_
      refine q_sipush cx dX12_copiesRow_5 rfl ?_
      refine q_icge (tgt := 29) cx ⟨by omega, by omega⟩ ⟨by decide, by decide⟩ dX12_copiesRow_8 (by decide) (fun c206 => ?_) (fun c206 => ?_)
      · have hcq : ∀ i : Int, 0 ≤ i → i < 658 → q_z f3 sr (Int.toNat (0 + i)) = q_z f as (Int.toNat (0 + i)) := fun i h0 h1 => hcp i h0 (by omega)
        have gr29 := k_grcp (A := 0) (n := 658) hT has kas q_K3 rfl (u := 0) (by omega) (by omega) (by omega) (show 4 ≤ q_z f as 2 from q_isl hf0 (by omega)) hcq
        obtain ⟨x207, ex207⟩ : ∃ zz, q_is (q_z f3 sr 3) zz := ⟨_, q_isr _⟩
        obtain ⟨lx207, ux207⟩ : 0 ≤ x207 ∧ x207 ≤ 9999 := q_isb ex207 gr29.2.1
        obtain ⟨x208, ex208⟩ : ∃ zz, q_is (q_z f3 sr 4) zz := ⟨_, q_isr _⟩
        obtain ⟨lx208, ux208⟩ : 0 ≤ x208 ∧ x208 ≤ 60 := q_isb ex208 gr29.2.2
        have hc29 : q_is (q_z f3 sr 0) xc := Eq.trans (hcq 0 (by decide) (by decide)) hf1
        refine q_vret cx hr hlk hB dX12_copiesRow_29 ?_
        exact ⟨(q_isl ex207 (by omega)), (q_isu ex207 (by omega)), (q_isl ex208 (by omega)), (q_isu ex208 (by omega)), hc29, (fun i h0 h1 => hcp i h0 (by omega)), gr29.1⟩
      · refine q_ald_n cx dX12_copiesRow_11 rfl (lv_at hl 2 rfl) ?_
        refine q_ild_n cx dX12_copiesRow_12 rfl (lv_at hl 3 rfl) ?_
        refine lv_iload cx.1 cx.2.1 dX12_copiesRow_13 (lv_at hl 4 rfl) ?_
        refine q_iadd cx dX12_copiesRow_15 ?_
        refine q_ald_n cx dX12_copiesRow_16 rfl (lv_at hl 0 rfl) ?_
        refine q_ild_n cx dX12_copiesRow_17 rfl (lv_at hl 1 rfl) ?_
        refine lv_iload cx.1 cx.2.1 dX12_copiesRow_18 (lv_at hl 4 rfl) ?_
        refine q_iadd cx dX12_copiesRow_20 ?_
        obtain ⟨x209, ex209⟩ : ∃ zz, q_is (q_z f3 as (Int.toNat (0 + v3_4))) zz := ⟨_, q_isr _⟩
        refine q_rald (n := 658) cx hB has kas q_K3 rfl (by omega) (by omega) (by decide) ex209 dX12_copiesRow_21 (fun rx209 lx209 ux209 => ?_)
        have hf9 := hB.2.2.z (i := Int.toNat (0 + v3_4)) has (by rw [kas]; rfl)
        refine q_sastr cx hB hsr ksr (by omega) (by omega) ⟨by omega, by omega⟩ (q_ewr (p := Int.toNat (0 + v3_4)) (by omega) (by omega) rx209 lx209 ux209) (q_inWi (lo := 0) (hi := 657) (by decide) (by omega) (by omega)) dX12_copiesRow_22 (fun H locs f211 ef211 z212 hB => ?_)
        have z213 : q_is (q_z f211 as 2) xy := by rw [ef211, q_setz (Or.inl (fun q => by rw [q, ksr] at kas; exact absurd kas (by decide)))]; exact hj_as_2
        have z214 : q_is (q_z f211 as 0) xc := by rw [ef211, q_setz (Or.inl (fun q => by rw [q, ksr] at kas; exact absurd kas (by decide)))]; exact hj_as_0
        refine q_iinc (lv' := [(4, .int (q_i (v3_4 + 1))), (0, .ref as), (1, .int (q_i 0)), (2, .ref sr), (3, .int (q_i 0))]) cx dX12_copiesRow_23 hl (k := 4) rfl (by decide) rfl (fun ls hl => ?_)
        refine lv_goto (tgt := 3) cx.1 cx.2.1 dX12_copiesRow_26 (by decide) ?_
        exact ih3 f211 (v3_4 + 1) (by omega) (by omega) z213 z214 (k_cp hcp ef211 z212 ex209 hf9 (by omega) (by omega)) (by omega) H locs hB ls (lv_sub hl [1, 2, 3, 4, 0] rfl)
  obtain ⟨H, hH⟩ : ∃ H : Heap, H = s.heap := ⟨_, rfl⟩
  obtain ⟨locs, hlocs⟩ : ∃ z : List Loc, z = [] := ⟨_, rfl⟩
  rw [← hH, ← hlocs] at hB
  rw [← hH, ← hlocs]
  refine q_iconst cx dX12_copiesRow_0 ?_
  refine lv_istore (lv' := [(4, .int (q_i 0)), (0, .ref as), (1, .int (q_i 0)), (2, .ref sr), (3, .int (q_i 0))]) cx.1 cx.2.1 dX12_copiesRow_1 hl (by decide) rfl (fun ls hl => ?_)
  exact J3 ((Int.toNat (2147483647 - 0)) + 1) f 0 (by decide) (by decide) hf0 hf1 (fun i h0 h1 => absurd h1 (by omega)) (Nat.lt_succ_self _) H locs hB ls (lv_sub hl [1, 2, 3, 4, 0] rfl)
set_option maxHeartbeats 4000000 in
set_option maxRecDepth 100000 in
theorem r_copiesRow_aw_sr (l : Launch) (g : q_G) {K : Nat → Nat} {L : List Nat} (hN : L.Nodup) {f : Nat → va_E} (hT : q_Ty g K L f) (aw : Nat) (haw : aw ∈ L) (kaw : K aw = 154) (a0 : Int) (la0 : 0 ≤ a0) (ua0 : a0 ≤ 0) (sr : Nat) (hsr : sr ∈ L) (ksr : K sr = 151) (b0 : Int) (lb0 : 0 ≤ b0) (ub0 : b0 ≤ 0) (xy : Int) (lxy : 4 ≤ xy) (uxy : xy ≤ 60) (xc : Int) (lxc : 0 ≤ xc) (uxc : xc ≤ 10) (hf0 : q_is (q_z f aw 2) xy) (hf1 : q_is (q_z f aw 0) xc) : q_Ct l g K L yX12_copiesRow cX12_copiesRow 5 none 0 0 [.ref aw, .int (q_i a0), .ref sr, .int (q_i b0)] f [(151, 0, 657)] (q_Pv (fun (f1 : Nat → va_E) => 0 ≤ q_z f1 sr 3 ∧ q_z f1 sr 3 ≤ 9999 ∧ 0 ≤ q_z f1 sr 4 ∧ q_z f1 sr 4 ≤ 60 ∧ q_is (q_z f1 sr 0) xc ∧ (∀ i : Int, 0 ≤ i → i < 658 → q_z f1 sr (Int.toNat (0 + i)) = q_z f aw (Int.toNat (0 + i))) ∧ q_gr f1 sr)) := by
  obtain rfl : a0 = 0 := by omega
  obtain rfl : b0 = 0 := by omega
  refine q_ofb (by decide +kernel) hN hT (Nat.le_of_ble_eq_true rfl) ?_
  intro p e s m below meth c ls cx hr hlk hB hl
  have hl : lv_has ls 5 [(0, .ref aw), (1, .int (q_i 0)), (2, .ref sr), (3, .int (q_i 0))] := hl
  have J3 : ∀ (n : Nat) (f3 : Nat → va_E) (v3_4 : Int) (lv3_4 : 0 ≤ v3_4) (uv3_4 : v3_4 ≤ 658) (hj_aw_2 : q_is (q_z f3 aw 2) xy) (hj_aw_0 : q_is (q_z f3 aw 0) xc) (hcp : ∀ i : Int, 0 ≤ i → i < v3_4 → q_z f3 sr (Int.toNat (0 + i)) = q_z f aw (Int.toNat (0 + i))) (hmu : (Int.toNat (2147483647 - v3_4)) < n) (H : Heap) (locs : List Loc) (hB : q_B g K L (fun q => q ∈ L) [(151, 0, 657)] f f3 s H locs) (ls : Array Slot) (hl : lv_has ls 5 [(0, .ref aw), (1, .int (q_i 0)), (2, .ref sr), (3, .int (q_i 0)), (4, .int (q_i v3_4))]), W p l e { frames := 0, cells := 0, slots := 0, locals := 0 } s m ([.ref aw, .int (q_i 0), .ref sr, .int (q_i 0)] : List Value).toArray below meth c H locs 0 0 (MQ below (q_Q g K L [(151, 0, 657)] f (q_Pv (fun (f1 : Nat → va_E) => 0 ≤ q_z f1 sr 3 ∧ q_z f1 sr 3 ≤ 9999 ∧ 0 ≤ q_z f1 sr 4 ∧ q_z f1 sr 4 ≤ 60 ∧ q_is (q_z f1 sr 0) xc ∧ (∀ i : Int, 0 ≤ i → i < 658 → q_z f1 sr (Int.toNat (0 + i)) = q_z f aw (Int.toNat (0 + i))) ∧ q_gr f1 sr))) ([.ref aw, .int (q_i 0), .ref sr, .int (q_i 0)] : List Value).toArray s 0 0 (fun q => q ∈ L)) (F0 m 3 ls []) := by
    intro n
    induction n with
    | zero =>
      intro f3 v3_4 lv3_4 uv3_4 hj_aw_2 hj_aw_0 hcp hmu
      exact absurd hmu (Nat.not_lt_zero _)
    | succ n ih3 =>
      intro f3 v3_4 lv3_4 uv3_4 hj_aw_2 hj_aw_0 hcp hmu H locs hB ls hl
      refine lv_iload cx.1 cx.2.1 dX12_copiesRow_3 (lv_at hl 4 rfl) ?_
      refine q_sipush cx dX12_copiesRow_5 rfl ?_
      refine q_icge (tgt := 29) cx ⟨by omega, by omega⟩ ⟨by decide, by decide⟩ dX12_copiesRow_8 (by decide) (fun c206 => ?_) (fun c206 => ?_)
      · have hcq : ∀ i : Int, 0 ≤ i → i < 658 → q_z f3 sr (Int.toNat (0 + i)) = q_z f aw (Int.toNat (0 + i)) := fun i h0 h1 => hcp i h0 (by omega)
        have gr29 := k_grcp (A := 0) (n := 658) hT haw kaw q_K4 rfl (u := 0) (by omega) (by omega) (by omega) (show 4 ≤ q_z f aw 2 from q_isl hf0 (by omega)) hcq
        obtain ⟨x207, ex207⟩ : ∃ zz, q_is (q_z f3 sr 3) zz := ⟨_, q_isr _⟩
        obtain ⟨lx207, ux207⟩ : 0 ≤ x207 ∧ x207 ≤ 9999 := q_isb ex207 gr29.2.1
        obtain ⟨x208, ex208⟩ : ∃ zz, q_is (q_z f3 sr 4) zz := ⟨_, q_isr _⟩
        obtain ⟨lx208, ux208⟩ : 0 ≤ x208 ∧ x208 ≤ 60 := q_isb ex208 gr29.2.2
        have hc29 : q_is (q_z f3 sr 0) xc := Eq.trans (hcq 0 (by decide) (by decide)) hf1
        refine q_vret cx hr hlk hB dX12_copiesRow_29 ?_
        exact ⟨(q_isl ex207 (by omega)), (q_isu ex207 (by omega)), (q_isl ex208 (by omega)), (q_isu ex208 (by omega)), hc29, (fun i h0 h1 => hcp i h0 (by omega)), gr29.1⟩
      · refine q_ald_n cx dX12_copiesRow_11 rfl (lv_at hl 2 rfl) ?_
        refine q_ild_n cx dX12_copiesRow_12 rfl (lv_at hl 3 rfl) ?_
        refine lv_iload cx.1 cx.2.1 dX12_copiesRow_13 (lv_at hl 4 rfl) ?_
        refine q_iadd cx dX12_copiesRow_15 ?_
        refine q_ald_n cx dX12_copiesRow_16 rfl (lv_at hl 0 rfl) ?_
        refine q_ild_n cx dX12_copiesRow_17 rfl (lv_at hl 1 rfl) ?_
        refine lv_iload cx.1 cx.2.1 dX12_copiesRow_18 (lv_at hl 4 rfl) ?_
        refine q_iadd cx dX12_copiesRow_20 ?_
        obtain ⟨x209, ex209⟩ : ∃ zz, q_is (q_z f3 aw (Int.toNat (0 + v3_4))) zz := ⟨_, q_isr _⟩
        refine q_rald (n := 658) cx hB haw kaw q_K4 rfl (by omega) (by omega) (by decide) ex209 dX12_copiesRow_21 (fun rx209 lx209 ux209 => ?_)
        have hf9 := hB.2.2.z (i := Int.toNat (0 + v3_4)) haw (by rw [kaw]; rfl)
        refine q_sastr cx hB hsr ksr (by omega) (by omega) ⟨by omega, by omega⟩ (q_ewr (p := Int.toNat (0 + v3_4)) (by omega) (by omega) rx209 lx209 ux209) (q_inWi (lo := 0) (hi := 657) (by decide) (by omega) (by omega)) dX12_copiesRow_22 (fun H locs f211 ef211 z212 hB => ?_)
        have z213 : q_is (q_z f211 aw 2) xy := by rw [ef211, q_setz (Or.inl (fun q => by rw [q, ksr] at kaw; exact absurd kaw (by decide)))]; exact hj_aw_2
        have z214 : q_is (q_z f211 aw 0) xc := by rw [ef211, q_setz (Or.inl (fun q => by rw [q, ksr] at kaw; exact absurd kaw (by decide)))]; exact hj_aw_0
        refine q_iinc (lv' := [(4, .int (q_i (v3_4 + 1))), (0, .ref aw), (1, .int (q_i 0)), (2, .ref sr), (3, .int (q_i 0))]) cx dX12_copiesRow_23 hl (k := 4) rfl (by decide) rfl (fun ls hl => ?_)
        refine lv_goto (tgt := 3) cx.1 cx.2.1 dX12_copiesRow_26 (by decide) ?_
        exact ih3 f211 (v3_4 + 1) (by omega) (by omega) z213 z214 (k_cp hcp ef211 z212 ex209 hf9 (by omega) (by omega)) (by omega) H locs hB ls (lv_sub hl [1, 2, 3, 4, 0] rfl)
  obtain ⟨H, hH⟩ : ∃ H : Heap, H = s.heap := ⟨_, rfl⟩
  obtain ⟨locs, hlocs⟩ : ∃ z : List Loc, z = [] := ⟨_, rfl⟩
  rw [← hH, ← hlocs] at hB
  rw [← hH, ← hlocs]
  refine q_iconst cx dX12_copiesRow_0 ?_
  refine lv_istore (lv' := [(4, .int (q_i 0)), (0, .ref aw), (1, .int (q_i 0)), (2, .ref sr), (3, .int (q_i 0))]) cx.1 cx.2.1 dX12_copiesRow_1 hl (by decide) rfl (fun ls hl => ?_)
  exact J3 ((Int.toNat (2147483647 - 0)) + 1) f 0 (by decide) (by decide) hf0 hf1 (fun i h0 h1 => absurd h1 (by omega)) (Nat.lt_succ_self _) H locs hB ls (lv_sub hl [1, 2, 3, 4, 0] rfl)
set_option maxHeartbeats 4000000 in
set_option maxRecDepth 100000 in
theorem r_copiesRow_sd_sr (l : Launch) (g : q_G) {K : Nat → Nat} {L : List Nat} (hN : L.Nodup) {f : Nat → va_E} (hT : q_Ty g K L f) (sd : Nat) (hsd : sd ∈ L) (ksd : K sd = 152) (a0 : Int) (la0 : 0 ≤ a0) (ua0 : a0 ≤ 0) (sr : Nat) (hsr : sr ∈ L) (ksr : K sr = 151) (b0 : Int) (lb0 : 0 ≤ b0) (ub0 : b0 ≤ 0) (xy : Int) (lxy : 4 ≤ xy) (uxy : xy ≤ 60) (xc : Int) (lxc : 0 ≤ xc) (uxc : xc ≤ 10) (hf0 : q_is (q_z f sd 2) xy) (hf1 : q_is (q_z f sd 0) xc) : q_Ct l g K L yX12_copiesRow cX12_copiesRow 5 none 0 0 [.ref sd, .int (q_i a0), .ref sr, .int (q_i b0)] f [(151, 0, 657)] (q_Pv (fun (f1 : Nat → va_E) => 0 ≤ q_z f1 sr 3 ∧ q_z f1 sr 3 ≤ 9999 ∧ 0 ≤ q_z f1 sr 4 ∧ q_z f1 sr 4 ≤ 60 ∧ q_is (q_z f1 sr 0) xc ∧ (∀ i : Int, 0 ≤ i → i < 658 → q_z f1 sr (Int.toNat (0 + i)) = q_z f sd (Int.toNat (0 + i))) ∧ q_gr f1 sr)) := by
  obtain rfl : a0 = 0 := by omega
  obtain rfl : b0 = 0 := by omega
  refine q_ofb (by decide +kernel) hN hT (Nat.le_of_ble_eq_true rfl) ?_
  intro p e s m below meth c ls cx hr hlk hB hl
  have hl : lv_has ls 5 [(0, .ref sd), (1, .int (q_i 0)), (2, .ref sr), (3, .int (q_i 0))] := hl
  have J3 : ∀ (n : Nat) (f3 : Nat → va_E) (v3_4 : Int) (lv3_4 : 0 ≤ v3_4) (uv3_4 : v3_4 ≤ 658) (hj_sd_2 : q_is (q_z f3 sd 2) xy) (hj_sd_0 : q_is (q_z f3 sd 0) xc) (hcp : ∀ i : Int, 0 ≤ i → i < v3_4 → q_z f3 sr (Int.toNat (0 + i)) = q_z f sd (Int.toNat (0 + i))) (hmu : (Int.toNat (2147483647 - v3_4)) < n) (H : Heap) (locs : List Loc) (hB : q_B g K L (fun q => q ∈ L) [(151, 0, 657)] f f3 s H locs) (ls : Array Slot) (hl : lv_has ls 5 [(0, .ref sd), (1, .int (q_i 0)), (2, .ref sr), (3, .int (q_i 0)), (4, .int (q_i v3_4))]), W p l e { frames := 0, cells := 0, slots := 0, locals := 0 } s m ([.ref sd, .int (q_i 0), .ref sr, .int (q_i 0)] : List Value).toArray below meth c H locs 0 0 (MQ below (q_Q g K L [(151, 0, 657)] f (q_Pv (fun (f1 : Nat → va_E) => 0 ≤ q_z f1 sr 3 ∧ q_z f1 sr 3 ≤ 9999 ∧ 0 ≤ q_z f1 sr 4 ∧ q_z f1 sr 4 ≤ 60 ∧ q_is (q_z f1 sr 0) xc ∧ (∀ i : Int, 0 ≤ i → i < 658 → q_z f1 sr (Int.toNat (0 + i)) = q_z f sd (Int.toNat (0 + i))) ∧ q_gr f1 sr))) ([.ref sd, .int (q_i 0), .ref sr, .int (q_i 0)] : List Value).toArray s 0 0 (fun q => q ∈ L)) (F0 m 3 ls []) := by
    intro n
    induction n with
    | zero =>
      intro f3 v3_4 lv3_4 uv3_4 hj_sd_2 hj_sd_0 hcp hmu
      exact absurd hmu (Nat.not_lt_zero _)
    | succ n ih3 =>
      intro f3 v3_4 lv3_4 uv3_4 hj_sd_2 hj_sd_0 hcp hmu H locs hB ls hl
      refine lv_iload cx.1 cx.2.1 dX12_copiesRow_3 (lv_at hl 4 rfl) ?_
      refine q_sipush cx dX12_copiesRow_5 rfl ?_
      refine q_icge (tgt := 29) cx ⟨by omega, by omega⟩ ⟨by decide, by decide⟩ dX12_copiesRow_8 (by decide) (fun c206 => ?_) (fun c206 => ?_)
      · have hcq : ∀ i : Int, 0 ≤ i → i < 658 → q_z f3 sr (Int.toNat (0 + i)) = q_z f sd (Int.toNat (0 + i)) := fun i h0 h1 => hcp i h0 (by omega)
        have gr29 := k_grcp (A := 0) (n := 658) hT hsd ksd q_K2 rfl (u := 0) (by omega) (by omega) (by omega) (show 4 ≤ q_z f sd 2 from q_isl hf0 (by omega)) hcq
        obtain ⟨x207, ex207⟩ : ∃ zz, q_is (q_z f3 sr 3) zz := ⟨_, q_isr _⟩
        obtain ⟨lx207, ux207⟩ : 0 ≤ x207 ∧ x207 ≤ 9999 := q_isb ex207 gr29.2.1
        obtain ⟨x208, ex208⟩ : ∃ zz, q_is (q_z f3 sr 4) zz := ⟨_, q_isr _⟩
        obtain ⟨lx208, ux208⟩ : 0 ≤ x208 ∧ x208 ≤ 60 := q_isb ex208 gr29.2.2
        have hc29 : q_is (q_z f3 sr 0) xc := Eq.trans (hcq 0 (by decide) (by decide)) hf1
        refine q_vret cx hr hlk hB dX12_copiesRow_29 ?_
        exact ⟨(q_isl ex207 (by omega)), (q_isu ex207 (by omega)), (q_isl ex208 (by omega)), (q_isu ex208 (by omega)), hc29, (fun i h0 h1 => hcp i h0 (by omega)), gr29.1⟩
      · refine q_ald_n cx dX12_copiesRow_11 rfl (lv_at hl 2 rfl) ?_
        refine q_ild_n cx dX12_copiesRow_12 rfl (lv_at hl 3 rfl) ?_
        refine lv_iload cx.1 cx.2.1 dX12_copiesRow_13 (lv_at hl 4 rfl) ?_
        refine q_iadd cx dX12_copiesRow_15 ?_
        refine q_ald_n cx dX12_copiesRow_16 rfl (lv_at hl 0 rfl) ?_
        refine q_ild_n cx dX12_copiesRow_17 rfl (lv_at hl 1 rfl) ?_
        refine lv_iload cx.1 cx.2.1 dX12_copiesRow_18 (lv_at hl 4 rfl) ?_
        refine q_iadd cx dX12_copiesRow_20 ?_
        obtain ⟨x209, ex209⟩ : ∃ zz, q_is (q_z f3 sd (Int.toNat (0 + v3_4))) zz := ⟨_, q_isr _⟩
        refine q_rald (n := 658) cx hB hsd ksd q_K2 rfl (by omega) (by omega) (by decide) ex209 dX12_copiesRow_21 (fun rx209 lx209 ux209 => ?_)
        have hf9 := hB.2.2.z (i := Int.toNat (0 + v3_4)) hsd (by rw [ksd]; rfl)
        refine q_sastr cx hB hsr ksr (by omega) (by omega) ⟨by omega, by omega⟩ (q_ewr (p := Int.toNat (0 + v3_4)) (by omega) (by omega) rx209 lx209 ux209) (q_inWi (lo := 0) (hi := 657) (by decide) (by omega) (by omega)) dX12_copiesRow_22 (fun H locs f211 ef211 z212 hB => ?_)
        have z213 : q_is (q_z f211 sd 2) xy := by rw [ef211, q_setz (Or.inl (fun q => by rw [q, ksr] at ksd; exact absurd ksd (by decide)))]; exact hj_sd_2
        have z214 : q_is (q_z f211 sd 0) xc := by rw [ef211, q_setz (Or.inl (fun q => by rw [q, ksr] at ksd; exact absurd ksd (by decide)))]; exact hj_sd_0
        refine q_iinc (lv' := [(4, .int (q_i (v3_4 + 1))), (0, .ref sd), (1, .int (q_i 0)), (2, .ref sr), (3, .int (q_i 0))]) cx dX12_copiesRow_23 hl (k := 4) rfl (by decide) rfl (fun ls hl => ?_)
        refine lv_goto (tgt := 3) cx.1 cx.2.1 dX12_copiesRow_26 (by decide) ?_
        exact ih3 f211 (v3_4 + 1) (by omega) (by omega) z213 z214 (k_cp hcp ef211 z212 ex209 hf9 (by omega) (by omega)) (by omega) H locs hB ls (lv_sub hl [1, 2, 3, 4, 0] rfl)
  obtain ⟨H, hH⟩ : ∃ H : Heap, H = s.heap := ⟨_, rfl⟩
  obtain ⟨locs, hlocs⟩ : ∃ z : List Loc, z = [] := ⟨_, rfl⟩
  rw [← hH, ← hlocs] at hB
  rw [← hH, ← hlocs]
  refine q_iconst cx dX12_copiesRow_0 ?_
  refine lv_istore (lv' := [(4, .int (q_i 0)), (0, .ref sd), (1, .int (q_i 0)), (2, .ref sr), (3, .int (q_i 0))]) cx.1 cx.2.1 dX12_copiesRow_1 hl (by decide) rfl (fun ls hl => ?_)
  exact J3 ((Int.toNat (2147483647 - 0)) + 1) f 0 (by decide) (by decide) hf0 hf1 (fun i h0 h1 => absurd h1 (by omega)) (Nat.lt_succ_self _) H locs hB ls (lv_sub hl [1, 2, 3, 4, 0] rfl)
set_option maxHeartbeats 4000000 in
set_option maxRecDepth 100000 in
theorem r_copiesRow_pa_sr (l : Launch) (g : q_G) {K : Nat → Nat} {L : List Nat} (hN : L.Nodup) {f : Nat → va_E} (hT : q_Ty g K L f) (pa : Nat) (hpa : pa ∈ L) (kpa : K pa = 155) (a0 : Int) (la0 : 0 ≤ a0) (ua0 : a0 ≤ 3290) (sr : Nat) (hsr : sr ∈ L) (ksr : K sr = 151) (b0 : Int) (lb0 : 0 ≤ b0) (ub0 : b0 ≤ 0) (xu : Int) (lxu : 0 ≤ xu) (uxu : xu ≤ 5) (xc : Int) (lxc : 0 ≤ xc) (uxc : xc ≤ 10) (hp0 : a0 = 658 * xu) (hp1 : 4 ≤ q_z f pa (Int.toNat (658 * xu + 2))) (hp2 : q_z f pa (Int.toNat (658 * xu)) = xc) : q_Ct l g K L yX12_copiesRow cX12_copiesRow 5 none 0 0 [.ref pa, .int (q_i a0), .ref sr, .int (q_i b0)] f [(151, 0, 657)] (q_Pv (fun (f1 : Nat → va_E) => 0 ≤ q_z f1 sr 3 ∧ q_z f1 sr 3 ≤ 9999 ∧ 0 ≤ q_z f1 sr 4 ∧ q_z f1 sr 4 ≤ 60 ∧ q_is (q_z f1 sr 0) xc ∧ (∀ i : Int, 0 ≤ i → i < 658 → q_z f1 sr (Int.toNat (0 + i)) = q_z f pa (Int.toNat (a0 + i))) ∧ q_gr f1 sr)) := by
  obtain rfl : b0 = 0 := by omega
  refine q_ofb (by decide +kernel) hN hT (Nat.le_of_ble_eq_true rfl) ?_
  intro p e s m below meth c ls cx hr hlk hB hl
  have hl : lv_has ls 5 [(0, .ref pa), (1, .int (q_i a0)), (2, .ref sr), (3, .int (q_i 0))] := hl
  have J3 : ∀ (n : Nat) (f3 : Nat → va_E) (v3_4 : Int) (lv3_4 : 0 ≤ v3_4) (uv3_4 : v3_4 ≤ 658) (hcp : ∀ i : Int, 0 ≤ i → i < v3_4 → q_z f3 sr (Int.toNat (0 + i)) = q_z f pa (Int.toNat (a0 + i))) (hmu : (Int.toNat (2147483647 - v3_4)) < n) (H : Heap) (locs : List Loc) (hB : q_B g K L (fun q => q ∈ L) [(151, 0, 657)] f f3 s H locs) (ls : Array Slot) (hl : lv_has ls 5 [(0, .ref pa), (1, .int (q_i a0)), (2, .ref sr), (3, .int (q_i 0)), (4, .int (q_i v3_4))]), W p l e { frames := 0, cells := 0, slots := 0, locals := 0 } s m ([.ref pa, .int (q_i a0), .ref sr, .int (q_i 0)] : List Value).toArray below meth c H locs 0 0 (MQ below (q_Q g K L [(151, 0, 657)] f (q_Pv (fun (f1 : Nat → va_E) => 0 ≤ q_z f1 sr 3 ∧ q_z f1 sr 3 ≤ 9999 ∧ 0 ≤ q_z f1 sr 4 ∧ q_z f1 sr 4 ≤ 60 ∧ q_is (q_z f1 sr 0) xc ∧ (∀ i : Int, 0 ≤ i → i < 658 → q_z f1 sr (Int.toNat (0 + i)) = q_z f pa (Int.toNat (a0 + i))) ∧ q_gr f1 sr))) ([.ref pa, .int (q_i a0), .ref sr, .int (q_i 0)] : List Value).toArray s 0 0 (fun q => q ∈ L)) (F0 m 3 ls []) := by
    intro n
    induction n with
    | zero =>
      intro f3 v3_4 lv3_4 uv3_4 hcp hmu
      exact absurd hmu (Nat.not_lt_zero _)
    | succ n ih3 =>
      intro f3 v3_4 lv3_4 uv3_4 hcp hmu H locs hB ls hl
      refine lv_iload cx.1 cx.2.1 dX12_copiesRow_3 (lv_at hl 4 rfl) ?_
      refine q_sipush cx dX12_copiesRow_5 rfl ?_
      refine q_icge (tgt := 29) cx ⟨by omega, by omega⟩ ⟨by decide, by decide⟩ dX12_copiesRow_8 (by decide) (fun c148 => ?_) (fun c148 => ?_)
      · have hcq : ∀ i : Int, 0 ≤ i → i < 658 → q_z f3 sr (Int.toNat (0 + i)) = q_z f pa (Int.toNat (a0 + i)) := fun i h0 h1 => hcp i h0 (by omega)
        have gr29 := k_grcp (A := a0) (n := 3948) hT hpa kpa q_K5 rfl (u := xu) (by omega) (by omega) (by omega) (by rw [hp0]; exact hp1) hcq
        obtain ⟨x149, ex149⟩ : ∃ zz, q_is (q_z f3 sr 3) zz := ⟨_, q_isr _⟩
        obtain ⟨lx149, ux149⟩ : 0 ≤ x149 ∧ x149 ≤ 9999 := q_isb ex149 gr29.2.1
        obtain ⟨x150, ex150⟩ : ∃ zz, q_is (q_z f3 sr 4) zz := ⟨_, q_isr _⟩
        obtain ⟨lx150, ux150⟩ : 0 ≤ x150 ∧ x150 ≤ 60 := q_isb ex150 gr29.2.2
        have hc29 : q_is (q_z f3 sr 0) xc := Eq.trans (hcq 0 (by decide) (by decide)) (by rw [show a0 + 0 = 658 * xu by omega]; exact hp2)
        refine q_vret cx hr hlk hB dX12_copiesRow_29 ?_
        exact ⟨(q_isl ex149 (by omega)), (q_isu ex149 (by omega)), (q_isl ex150 (by omega)), (q_isu ex150 (by omega)), hc29, (fun i h0 h1 => hcp i h0 (by omega)), gr29.1⟩
      · refine q_ald_n cx dX12_copiesRow_11 rfl (lv_at hl 2 rfl) ?_
        refine q_ild_n cx dX12_copiesRow_12 rfl (lv_at hl 3 rfl) ?_
        refine lv_iload cx.1 cx.2.1 dX12_copiesRow_13 (lv_at hl 4 rfl) ?_
        refine q_iadd cx dX12_copiesRow_15 ?_
        refine q_ald_n cx dX12_copiesRow_16 rfl (lv_at hl 0 rfl) ?_
        refine q_ild_n cx dX12_copiesRow_17 rfl (lv_at hl 1 rfl) ?_
        refine lv_iload cx.1 cx.2.1 dX12_copiesRow_18 (lv_at hl 4 rfl) ?_
        refine q_iadd cx dX12_copiesRow_20 ?_
        obtain ⟨x151, ex151⟩ : ∃ zz, q_is (q_z f3 pa (Int.toNat (a0 + v3_4))) zz := ⟨_, q_isr _⟩
        refine q_rald (n := 3948) cx hB hpa kpa q_K5 rfl (by omega) (by omega) (by decide) ex151 dX12_copiesRow_21 (fun rx151 lx151 ux151 => ?_)
        have hf9 := hB.2.2.z (i := Int.toNat (a0 + v3_4)) hpa (by rw [kpa]; rfl)
        refine q_sastr cx hB hsr ksr (by omega) (by omega) ⟨by omega, by omega⟩ (q_ewr (p := Int.toNat (a0 + v3_4)) (by omega) (by omega) rx151 lx151 ux151) (q_inWi (lo := 0) (hi := 657) (by decide) (by omega) (by omega)) dX12_copiesRow_22 (fun H locs f153 ef153 z154 hB => ?_)
        refine q_iinc (lv' := [(4, .int (q_i (v3_4 + 1))), (0, .ref pa), (1, .int (q_i a0)), (2, .ref sr), (3, .int (q_i 0))]) cx dX12_copiesRow_23 hl (k := 4) rfl (by decide) rfl (fun ls hl => ?_)
        refine lv_goto (tgt := 3) cx.1 cx.2.1 dX12_copiesRow_26 (by decide) ?_
        exact ih3 f153 (v3_4 + 1) (by omega) (by omega) (k_cp hcp ef153 z154 ex151 hf9 (by omega) (by omega)) (by omega) H locs hB ls (lv_sub hl [1, 2, 3, 4, 0] rfl)
  obtain ⟨H, hH⟩ : ∃ H : Heap, H = s.heap := ⟨_, rfl⟩
  obtain ⟨locs, hlocs⟩ : ∃ z : List Loc, z = [] := ⟨_, rfl⟩
  rw [← hH, ← hlocs] at hB
  rw [← hH, ← hlocs]
  refine q_iconst cx dX12_copiesRow_0 ?_
  refine lv_istore (lv' := [(4, .int (q_i 0)), (0, .ref pa), (1, .int (q_i a0)), (2, .ref sr), (3, .int (q_i 0))]) cx.1 cx.2.1 dX12_copiesRow_1 hl (by decide) rfl (fun ls hl => ?_)
  exact J3 ((Int.toNat (2147483647 - 0)) + 1) f 0 (by decide) (by decide) (fun i h0 h1 => absurd h1 (by omega)) (Nat.lt_succ_self _) H locs hB ls (lv_sub hl [1, 2, 3, 4, 0] rfl)
set_option maxHeartbeats 4000000 in
set_option maxRecDepth 100000 in
theorem r_copiesRow_as_pa (l : Launch) (g : q_G) {K : Nat → Nat} {L : List Nat} (hN : L.Nodup) {f : Nat → va_E} (hT : q_Ty g K L f) (as : Nat) (has : as ∈ L) (kas : K as = 153) (a0 : Int) (la0 : 0 ≤ a0) (ua0 : a0 ≤ 0) (pa : Nat) (hpa : pa ∈ L) (kpa : K pa = 155) (b0 : Int) (lb0 : 0 ≤ b0) (ub0 : b0 ≤ 3290) (xu : Int) (lxu : 0 ≤ xu) (uxu : xu ≤ 5) (hp0 : b0 = 658 * xu) : q_Ct l g K L yX12_copiesRow cX12_copiesRow 5 none 0 0 [.ref as, .int (q_i a0), .ref pa, .int (q_i b0)] f [(155, 0, 3947)] (q_Pv (fun (f1 : Nat → va_E) => (∀ i : Int, 0 ≤ i → i < 658 → q_z f1 pa (Int.toNat (b0 + i)) = q_z f as (Int.toNat (0 + i))) ∧ (∀ i : Nat, (i : Int) < b0 → q_z f1 pa i = q_z f pa i))) := by
  obtain rfl : a0 = 0 := by omega
  refine q_ofb (by decide +kernel) hN hT (Nat.le_of_ble_eq_true rfl) ?_
  intro p e s m below meth c ls cx hr hlk hB hl
  have hl : lv_has ls 5 [(0, .ref as), (1, .int (q_i 0)), (2, .ref pa), (3, .int (q_i b0))] := hl
  have J3 : ∀ (n : Nat) (f3 : Nat → va_E) (v3_4 : Int) (lv3_4 : 0 ≤ v3_4) (uv3_4 : v3_4 ≤ 658) (hcp : ∀ i : Int, 0 ≤ i → i < v3_4 → q_z f3 pa (Int.toNat (b0 + i)) = q_z f as (Int.toNat (0 + i))) (hlo : ∀ i : Nat, (i : Int) < b0 → q_z f3 pa i = q_z f pa i) (hmu : (Int.toNat (2147483647 - v3_4)) < n) (H : Heap) (locs : List Loc) (hB : q_B g K L (fun q => q ∈ L) [(155, 0, 3947)] f f3 s H locs) (ls : Array Slot) (hl : lv_has ls 5 [(0, .ref as), (1, .int (q_i 0)), (2, .ref pa), (3, .int (q_i b0)), (4, .int (q_i v3_4))]), W p l e { frames := 0, cells := 0, slots := 0, locals := 0 } s m ([.ref as, .int (q_i 0), .ref pa, .int (q_i b0)] : List Value).toArray below meth c H locs 0 0 (MQ below (q_Q g K L [(155, 0, 3947)] f (q_Pv (fun (f1 : Nat → va_E) => (∀ i : Int, 0 ≤ i → i < 658 → q_z f1 pa (Int.toNat (b0 + i)) = q_z f as (Int.toNat (0 + i))) ∧ (∀ i : Nat, (i : Int) < b0 → q_z f1 pa i = q_z f pa i)))) ([.ref as, .int (q_i 0), .ref pa, .int (q_i b0)] : List Value).toArray s 0 0 (fun q => q ∈ L)) (F0 m 3 ls []) := by
    intro n
    induction n with
    | zero =>
      intro f3 v3_4 lv3_4 uv3_4 hcp hlo hmu
      exact absurd hmu (Nat.not_lt_zero _)
    | succ n ih3 =>
      intro f3 v3_4 lv3_4 uv3_4 hcp hlo hmu H locs hB ls hl
      refine lv_iload cx.1 cx.2.1 dX12_copiesRow_3 (lv_at hl 4 rfl) ?_
      refine q_sipush cx dX12_copiesRow_5 rfl ?_
      refine q_icge (tgt := 29) cx ⟨by omega, by omega⟩ ⟨by decide, by decide⟩ dX12_copiesRow_8 (by decide) (fun c146 => ?_) (fun c146 => ?_)
      · refine q_vret cx hr hlk hB dX12_copiesRow_29 ?_
        exact ⟨(fun i h0 h1 => hcp i h0 (by omega)), hlo⟩
      · refine q_ald_n cx dX12_copiesRow_11 rfl (lv_at hl 2 rfl) ?_
        refine q_ild_n cx dX12_copiesRow_12 rfl (lv_at hl 3 rfl) ?_
        refine lv_iload cx.1 cx.2.1 dX12_copiesRow_13 (lv_at hl 4 rfl) ?_
        refine q_iadd cx dX12_copiesRow_15 ?_
        refine q_ald_n cx dX12_copiesRow_16 rfl (lv_at hl 0 rfl) ?_
        refine q_ild_n cx dX12_copiesRow_17 rfl (lv_at hl 1 rfl) ?_
        refine lv_iload cx.1 cx.2.1 dX12_copiesRow_18 (lv_at hl 4 rfl) ?_
        refine q_iadd cx dX12_copiesRow_20 ?_
        obtain ⟨x147, ex147⟩ : ∃ zz, q_is (q_z f3 as (Int.toNat (0 + v3_4))) zz := ⟨_, q_isr _⟩
        refine q_rald (n := 658) cx hB has kas q_K3 rfl (by omega) (by omega) (by decide) ex147 dX12_copiesRow_21 (fun rx147 lx147 ux147 => ?_)
        have hf9 := hB.2.2.z (i := Int.toNat (0 + v3_4)) has (by rw [kas]; rfl)
        refine q_rast (n := 3948) cx hB hpa kpa q_K5 rfl (by omega) (by omega) (by decide) ⟨by omega, by omega⟩ (by rw [q_rowE (n := 3948) (p := Int.toNat (0 + v3_4)) q_K5 rfl (by omega) (by omega)]; exact lx147) (by rw [q_rowE (n := 3948) (p := Int.toNat (0 + v3_4)) q_K5 rfl (by omega) (by omega)]; exact ux147) (q_inWi (lo := 0) (hi := 3947) (by decide) (by omega) (by omega)) dX12_copiesRow_22 (fun H locs f149 ef149 z150 hB => ?_)
        refine q_iinc (lv' := [(4, .int (q_i (v3_4 + 1))), (0, .ref as), (1, .int (q_i 0)), (2, .ref pa), (3, .int (q_i b0))]) cx dX12_copiesRow_23 hl (k := 4) rfl (by decide) rfl (fun ls hl => ?_)
        refine lv_goto (tgt := 3) cx.1 cx.2.1 dX12_copiesRow_26 (by decide) ?_
        exact ih3 f149 (v3_4 + 1) (by omega) (by omega) (k_cp hcp ef149 z150 ex147 hf9 (by omega) (by omega)) (k_lo hlo ef149 (by omega) (by omega)) (by omega) H locs hB ls (lv_sub hl [1, 2, 3, 4, 0] rfl)
  obtain ⟨H, hH⟩ : ∃ H : Heap, H = s.heap := ⟨_, rfl⟩
  obtain ⟨locs, hlocs⟩ : ∃ z : List Loc, z = [] := ⟨_, rfl⟩
  rw [← hH, ← hlocs] at hB
  rw [← hH, ← hlocs]
  refine q_iconst cx dX12_copiesRow_0 ?_
  refine lv_istore (lv' := [(4, .int (q_i 0)), (0, .ref as), (1, .int (q_i 0)), (2, .ref pa), (3, .int (q_i b0))]) cx.1 cx.2.1 dX12_copiesRow_1 hl (by decide) rfl (fun ls hl => ?_)
  exact J3 ((Int.toNat (2147483647 - 0)) + 1) f 0 (by decide) (by decide) (fun i h0 h1 => absurd h1 (by omega)) (fun i h => rfl) (Nat.lt_succ_self _) H locs hB ls (lv_sub hl [1, 2, 3, 4, 0] rfl)
set_option maxHeartbeats 4000000 in
set_option maxRecDepth 100000 in
theorem r_copiesNames_156_158 (l : Launch) (g : q_G) {K : Nat → Nat} {L : List Nat} (hN : L.Nodup) {f : Nat → va_E} (hT : q_Ty g K L f) (pp : Nat) (hpp : pp ∈ L) (kpp : K pp = 156) (qq : Nat) (hqq : qq ∈ L) (kqq : K qq = 158) : q_Ct l g K L yX12_copiesNames cX12_copiesNames 3 none 0 0 [.ref pp, .ref qq] f [(158, 0, 9)] (q_Pv (fun (f1 : Nat → va_E) => True)) := by
  refine q_ofb (by decide +kernel) hN hT (Nat.le_of_ble_eq_true rfl) ?_
  intro p e s m below meth c ls cx hr hlk hB hl
  have hl : lv_has ls 3 [(0, .ref pp), (1, .ref qq)] := hl
  have J2 : ∀ (n : Nat) (f2 : Nat → va_E) (v2_2 : Int) (lv2_2 : 0 ≤ v2_2) (uv2_2 : v2_2 ≤ 10) (hmu : (Int.toNat (2147483647 - v2_2)) < n) (H : Heap) (locs : List Loc) (hB : q_B g K L (fun q => q ∈ L) [(158, 0, 9)] f f2 s H locs) (ls : Array Slot) (hl : lv_has ls 3 [(0, .ref pp), (1, .ref qq), (2, .int (q_i v2_2))]), W p l e { frames := 0, cells := 0, slots := 0, locals := 0 } s m ([.ref pp, .ref qq] : List Value).toArray below meth c H locs 0 0 (MQ below (q_Q g K L [(158, 0, 9)] f (q_Pv (fun (f1 : Nat → va_E) => True))) ([.ref pp, .ref qq] : List Value).toArray s 0 0 (fun q => q ∈ L)) (F0 m 2 ls []) := by
    intro n
    induction n with
    | zero =>
      intro f2 v2_2 lv2_2 uv2_2 hmu
      exact absurd hmu (Nat.not_lt_zero _)
    | succ n ih2 =>
      intro f2 v2_2 lv2_2 uv2_2 hmu H locs hB ls hl
      refine q_ild_n cx dX12_copiesNames_2 rfl (lv_at hl 2 rfl) ?_
      refine q_bipush cx dX12_copiesNames_3 rfl ?_
      refine q_icge (tgt := 20) cx ⟨by omega, by omega⟩ ⟨by decide, by decide⟩ dX12_copiesNames_5 (by decide) (fun c41 => ?_) (fun c41 => ?_)
      · refine q_vret cx hr hlk hB dX12_copiesNames_20 ?_
        trivial
      · refine q_ald_n cx dX12_copiesNames_8 rfl (lv_at hl 1 rfl) ?_
        refine q_ild_n cx dX12_copiesNames_9 rfl (lv_at hl 2 rfl) ?_
        refine q_ald_n cx dX12_copiesNames_10 rfl (lv_at hl 0 rfl) ?_
        refine q_ild_n cx dX12_copiesNames_11 rfl (lv_at hl 2 rfl) ?_
        obtain ⟨j42, ej42⟩ : ∃ zz, q_j f2 pp (Int.toNat v2_2) = zz := ⟨_, rfl⟩
        refine q_lald (n := 10) cx hB hpp kpp (by decide) rfl rfl (by omega) (by omega) (by decide) rfl ej42 dX12_copiesNames_12 ?_
        refine q_last (n := 10) cx hB hqq kqq (by decide) rfl rfl (by omega) (by omega) (by decide) rfl (q_inWi (lo := 0) (hi := 9) (by decide) (by omega) (by omega)) dX12_copiesNames_13 (fun H locs f43 ef43 z44 hB => ?_)
        refine q_iinc (lv' := [(2, .int (q_i (v2_2 + 1))), (0, .ref pp), (1, .ref qq)]) cx dX12_copiesNames_14 hl (k := 2) rfl (by decide) rfl (fun ls hl => ?_)
        refine lv_goto (tgt := 2) cx.1 cx.2.1 dX12_copiesNames_17 (by decide) ?_
        exact ih2 f43 (v2_2 + 1) (by omega) (by omega) (by omega) H locs hB ls (lv_sub hl [1, 2, 0] rfl)
  obtain ⟨H, hH⟩ : ∃ H : Heap, H = s.heap := ⟨_, rfl⟩
  obtain ⟨locs, hlocs⟩ : ∃ z : List Loc, z = [] := ⟨_, rfl⟩
  rw [← hH, ← hlocs] at hB
  rw [← hH, ← hlocs]
  refine q_iconst cx dX12_copiesNames_0 ?_
  refine lv_istore_n (lv' := [(2, .int (q_i 0)), (0, .ref pp), (1, .ref qq)]) cx.1 cx.2.1 dX12_copiesNames_1 rfl hl (by decide) rfl (fun ls hl => ?_)
  exact J2 ((Int.toNat (2147483647 - 0)) + 1) f 0 (by decide) (by decide) (Nat.lt_succ_self _) H locs hB ls (lv_sub hl [1, 2, 0] rfl)
set_option maxHeartbeats 4000000 in
set_option maxRecDepth 100000 in
theorem r_copiesNames_156_157 (l : Launch) (g : q_G) {K : Nat → Nat} {L : List Nat} (hN : L.Nodup) {f : Nat → va_E} (hT : q_Ty g K L f) (pp : Nat) (hpp : pp ∈ L) (kpp : K pp = 156) (qq : Nat) (hqq : qq ∈ L) (kqq : K qq = 157) : q_Ct l g K L yX12_copiesNames cX12_copiesNames 3 none 0 0 [.ref pp, .ref qq] f [(157, 0, 9)] (q_Pv (fun (f1 : Nat → va_E) => True)) := by
  refine q_ofb (by decide +kernel) hN hT (Nat.le_of_ble_eq_true rfl) ?_
  intro p e s m below meth c ls cx hr hlk hB hl
  have hl : lv_has ls 3 [(0, .ref pp), (1, .ref qq)] := hl
  have J2 : ∀ (n : Nat) (f2 : Nat → va_E) (v2_2 : Int) (lv2_2 : 0 ≤ v2_2) (uv2_2 : v2_2 ≤ 10) (hmu : (Int.toNat (2147483647 - v2_2)) < n) (H : Heap) (locs : List Loc) (hB : q_B g K L (fun q => q ∈ L) [(157, 0, 9)] f f2 s H locs) (ls : Array Slot) (hl : lv_has ls 3 [(0, .ref pp), (1, .ref qq), (2, .int (q_i v2_2))]), W p l e { frames := 0, cells := 0, slots := 0, locals := 0 } s m ([.ref pp, .ref qq] : List Value).toArray below meth c H locs 0 0 (MQ below (q_Q g K L [(157, 0, 9)] f (q_Pv (fun (f1 : Nat → va_E) => True))) ([.ref pp, .ref qq] : List Value).toArray s 0 0 (fun q => q ∈ L)) (F0 m 2 ls []) := by
    intro n
    induction n with
    | zero =>
      intro f2 v2_2 lv2_2 uv2_2 hmu
      exact absurd hmu (Nat.not_lt_zero _)
    | succ n ih2 =>
      intro f2 v2_2 lv2_2 uv2_2 hmu H locs hB ls hl
      refine q_ild_n cx dX12_copiesNames_2 rfl (lv_at hl 2 rfl) ?_
      refine q_bipush cx dX12_copiesNames_3 rfl ?_
      refine q_icge (tgt := 20) cx ⟨by omega, by omega⟩ ⟨by decide, by decide⟩ dX12_copiesNames_5 (by decide) (fun c41 => ?_) (fun c41 => ?_)
      · refine q_vret cx hr hlk hB dX12_copiesNames_20 ?_
        trivial
      · refine q_ald_n cx dX12_copiesNames_8 rfl (lv_at hl 1 rfl) ?_
        refine q_ild_n cx dX12_copiesNames_9 rfl (lv_at hl 2 rfl) ?_
        refine q_ald_n cx dX12_copiesNames_10 rfl (lv_at hl 0 rfl) ?_
        refine q_ild_n cx dX12_copiesNames_11 rfl (lv_at hl 2 rfl) ?_
        obtain ⟨j42, ej42⟩ : ∃ zz, q_j f2 pp (Int.toNat v2_2) = zz := ⟨_, rfl⟩
        refine q_lald (n := 10) cx hB hpp kpp (by decide) rfl rfl (by omega) (by omega) (by decide) rfl ej42 dX12_copiesNames_12 ?_
        refine q_last (n := 10) cx hB hqq kqq (by decide) rfl rfl (by omega) (by omega) (by decide) rfl (q_inWi (lo := 0) (hi := 9) (by decide) (by omega) (by omega)) dX12_copiesNames_13 (fun H locs f43 ef43 z44 hB => ?_)
        refine q_iinc (lv' := [(2, .int (q_i (v2_2 + 1))), (0, .ref pp), (1, .ref qq)]) cx dX12_copiesNames_14 hl (k := 2) rfl (by decide) rfl (fun ls hl => ?_)
        refine lv_goto (tgt := 2) cx.1 cx.2.1 dX12_copiesNames_17 (by decide) ?_
        exact ih2 f43 (v2_2 + 1) (by omega) (by omega) (by omega) H locs hB ls (lv_sub hl [1, 2, 0] rfl)
  obtain ⟨H, hH⟩ : ∃ H : Heap, H = s.heap := ⟨_, rfl⟩
  obtain ⟨locs, hlocs⟩ : ∃ z : List Loc, z = [] := ⟨_, rfl⟩
  rw [← hH, ← hlocs] at hB
  rw [← hH, ← hlocs]
  refine q_iconst cx dX12_copiesNames_0 ?_
  refine lv_istore_n (lv' := [(2, .int (q_i 0)), (0, .ref pp), (1, .ref qq)]) cx.1 cx.2.1 dX12_copiesNames_1 rfl hl (by decide) rfl (fun ls hl => ?_)
  exact J2 ((Int.toNat (2147483647 - 0)) + 1) f 0 (by decide) (by decide) (Nat.lt_succ_self _) H locs hB ls (lv_sub hl [1, 2, 0] rfl)
set_option maxHeartbeats 4000000 in
set_option maxRecDepth 100000 in
theorem r_copiesNames_158_156 (l : Launch) (g : q_G) {K : Nat → Nat} {L : List Nat} (hN : L.Nodup) {f : Nat → va_E} (hT : q_Ty g K L f) (pp : Nat) (hpp : pp ∈ L) (kpp : K pp = 158) (qq : Nat) (hqq : qq ∈ L) (kqq : K qq = 156) : q_Ct l g K L yX12_copiesNames cX12_copiesNames 3 none 0 0 [.ref pp, .ref qq] f [(156, 0, 9)] (q_Pv (fun (f1 : Nat → va_E) => True)) := by
  refine q_ofb (by decide +kernel) hN hT (Nat.le_of_ble_eq_true rfl) ?_
  intro p e s m below meth c ls cx hr hlk hB hl
  have hl : lv_has ls 3 [(0, .ref pp), (1, .ref qq)] := hl
  have J2 : ∀ (n : Nat) (f2 : Nat → va_E) (v2_2 : Int) (lv2_2 : 0 ≤ v2_2) (uv2_2 : v2_2 ≤ 10) (hmu : (Int.toNat (2147483647 - v2_2)) < n) (H : Heap) (locs : List Loc) (hB : q_B g K L (fun q => q ∈ L) [(156, 0, 9)] f f2 s H locs) (ls : Array Slot) (hl : lv_has ls 3 [(0, .ref pp), (1, .ref qq), (2, .int (q_i v2_2))]), W p l e { frames := 0, cells := 0, slots := 0, locals := 0 } s m ([.ref pp, .ref qq] : List Value).toArray below meth c H locs 0 0 (MQ below (q_Q g K L [(156, 0, 9)] f (q_Pv (fun (f1 : Nat → va_E) => True))) ([.ref pp, .ref qq] : List Value).toArray s 0 0 (fun q => q ∈ L)) (F0 m 2 ls []) := by
    intro n
    induction n with
    | zero =>
      intro f2 v2_2 lv2_2 uv2_2 hmu
      exact absurd hmu (Nat.not_lt_zero _)
    | succ n ih2 =>
      intro f2 v2_2 lv2_2 uv2_2 hmu H locs hB ls hl
      refine q_ild_n cx dX12_copiesNames_2 rfl (lv_at hl 2 rfl) ?_
      refine q_bipush cx dX12_copiesNames_3 rfl ?_
      refine q_icge (tgt := 20) cx ⟨by omega, by omega⟩ ⟨by decide, by decide⟩ dX12_copiesNames_5 (by decide) (fun c41 => ?_) (fun c41 => ?_)
      · refine q_vret cx hr hlk hB dX12_copiesNames_20 ?_
        trivial
      · refine q_ald_n cx dX12_copiesNames_8 rfl (lv_at hl 1 rfl) ?_
        refine q_ild_n cx dX12_copiesNames_9 rfl (lv_at hl 2 rfl) ?_
        refine q_ald_n cx dX12_copiesNames_10 rfl (lv_at hl 0 rfl) ?_
        refine q_ild_n cx dX12_copiesNames_11 rfl (lv_at hl 2 rfl) ?_
        obtain ⟨j42, ej42⟩ : ∃ zz, q_j f2 pp (Int.toNat v2_2) = zz := ⟨_, rfl⟩
        refine q_lald (n := 10) cx hB hpp kpp (by decide) rfl rfl (by omega) (by omega) (by decide) rfl ej42 dX12_copiesNames_12 ?_
        refine q_last (n := 10) cx hB hqq kqq (by decide) rfl rfl (by omega) (by omega) (by decide) rfl (q_inWi (lo := 0) (hi := 9) (by decide) (by omega) (by omega)) dX12_copiesNames_13 (fun H locs f43 ef43 z44 hB => ?_)
        refine q_iinc (lv' := [(2, .int (q_i (v2_2 + 1))), (0, .ref pp), (1, .ref qq)]) cx dX12_copiesNames_14 hl (k := 2) rfl (by decide) rfl (fun ls hl => ?_)
        refine lv_goto (tgt := 2) cx.1 cx.2.1 dX12_copiesNames_17 (by decide) ?_
        exact ih2 f43 (v2_2 + 1) (by omega) (by omega) (by omega) H locs hB ls (lv_sub hl [1, 2, 0] rfl)
  obtain ⟨H, hH⟩ : ∃ H : Heap, H = s.heap := ⟨_, rfl⟩
  obtain ⟨locs, hlocs⟩ : ∃ z : List Loc, z = [] := ⟨_, rfl⟩
  rw [← hH, ← hlocs] at hB
  rw [← hH, ← hlocs]
  refine q_iconst cx dX12_copiesNames_0 ?_
  refine lv_istore_n (lv' := [(2, .int (q_i 0)), (0, .ref pp), (1, .ref qq)]) cx.1 cx.2.1 dX12_copiesNames_1 rfl hl (by decide) rfl (fun ls hl => ?_)
  exact J2 ((Int.toNat (2147483647 - 0)) + 1) f 0 (by decide) (by decide) (Nat.lt_succ_self _) H locs hB ls (lv_sub hl [1, 2, 0] rfl)
set_option maxHeartbeats 4000000 in
set_option maxRecDepth 100000 in
theorem r_copiesNames_157_156 (l : Launch) (g : q_G) {K : Nat → Nat} {L : List Nat} (hN : L.Nodup) {f : Nat → va_E} (hT : q_Ty g K L f) (pp : Nat) (hpp : pp ∈ L) (kpp : K pp = 157) (qq : Nat) (hqq : qq ∈ L) (kqq : K qq = 156) : q_Ct l g K L yX12_copiesNames cX12_copiesNames 3 none 0 0 [.ref pp, .ref qq] f [(156, 0, 9)] (q_Pv (fun (f1 : Nat → va_E) => True)) := by
  refine q_ofb (by decide +kernel) hN hT (Nat.le_of_ble_eq_true rfl) ?_
  intro p e s m below meth c ls cx hr hlk hB hl
  have hl : lv_has ls 3 [(0, .ref pp), (1, .ref qq)] := hl
  have J2 : ∀ (n : Nat) (f2 : Nat → va_E) (v2_2 : Int) (lv2_2 : 0 ≤ v2_2) (uv2_2 : v2_2 ≤ 10) (hmu : (Int.toNat (2147483647 - v2_2)) < n) (H : Heap) (locs : List Loc) (hB : q_B g K L (fun q => q ∈ L) [(156, 0, 9)] f f2 s H locs) (ls : Array Slot) (hl : lv_has ls 3 [(0, .ref pp), (1, .ref qq), (2, .int (q_i v2_2))]), W p l e { frames := 0, cells := 0, slots := 0, locals := 0 } s m ([.ref pp, .ref qq] : List Value).toArray below meth c H locs 0 0 (MQ below (q_Q g K L [(156, 0, 9)] f (q_Pv (fun (f1 : Nat → va_E) => True))) ([.ref pp, .ref qq] : List Value).toArray s 0 0 (fun q => q ∈ L)) (F0 m 2 ls []) := by
    intro n
    induction n with
    | zero =>
      intro f2 v2_2 lv2_2 uv2_2 hmu
      exact absurd hmu (Nat.not_lt_zero _)
    | succ n ih2 =>
      intro f2 v2_2 lv2_2 uv2_2 hmu H locs hB ls hl
      refine q_ild_n cx dX12_copiesNames_2 rfl (lv_at hl 2 rfl) ?_
      refine q_bipush cx dX12_copiesNames_3 rfl ?_
      refine q_icge (tgt := 20) cx ⟨by omega, by omega⟩ ⟨by decide, by decide⟩ dX12_copiesNames_5 (by decide) (fun c41 => ?_) (fun c41 => ?_)
      · refine q_vret cx hr hlk hB dX12_copiesNames_20 ?_
        trivial
      · refine q_ald_n cx dX12_copiesNames_8 rfl (lv_at hl 1 rfl) ?_
        refine q_ild_n cx dX12_copiesNames_9 rfl (lv_at hl 2 rfl) ?_
        refine q_ald_n cx dX12_copiesNames_10 rfl (lv_at hl 0 rfl) ?_
        refine q_ild_n cx dX12_copiesNames_11 rfl (lv_at hl 2 rfl) ?_
        obtain ⟨j42, ej42⟩ : ∃ zz, q_j f2 pp (Int.toNat v2_2) = zz := ⟨_, rfl⟩
        refine q_lald (n := 10) cx hB hpp kpp (by decide) rfl rfl (by omega) (by omega) (by decide) rfl ej42 dX12_copiesNames_12 ?_
        refine q_last (n := 10) cx hB hqq kqq (by decide) rfl rfl (by omega) (by omega) (by decide) rfl (q_inWi (lo := 0) (hi := 9) (by decide) (by omega) (by omega)) dX12_copiesNames_13 (fun H locs f43 ef43 z44 hB => ?_)
        refine q_iinc (lv' := [(2, .int (q_i (v2_2 + 1))), (0, .ref pp), (1, .ref qq)]) cx dX12_copiesNames_14 hl (k := 2) rfl (by decide) rfl (fun ls hl => ?_)
        refine lv_goto (tgt := 2) cx.1 cx.2.1 dX12_copiesNames_17 (by decide) ?_
        exact ih2 f43 (v2_2 + 1) (by omega) (by omega) (by omega) H locs hB ls (lv_sub hl [1, 2, 0] rfl)
  obtain ⟨H, hH⟩ : ∃ H : Heap, H = s.heap := ⟨_, rfl⟩
  obtain ⟨locs, hlocs⟩ : ∃ z : List Loc, z = [] := ⟨_, rfl⟩
  rw [← hH, ← hlocs] at hB
  rw [← hH, ← hlocs]
  refine q_iconst cx dX12_copiesNames_0 ?_
  refine lv_istore_n (lv' := [(2, .int (q_i 0)), (0, .ref pp), (1, .ref qq)]) cx.1 cx.2.1 dX12_copiesNames_1 rfl hl (by decide) rfl (fun ls hl => ?_)
  exact J2 ((Int.toNat (2147483647 - 0)) + 1) f 0 (by decide) (by decide) (Nat.lt_succ_self _) H locs hB ls (lv_sub hl [1, 2, 0] rfl)
set_option maxHeartbeats 4000000 in
set_option maxRecDepth 100000 in
theorem r_laysAside (l : Launch) (g : q_G) {K : Nat → Nat} {L : List Nat} (hN : L.Nodup) {f : Nat → va_E} (hT : q_Ty g K L f) (mo : Nat) (hmo : mo ∈ L) (kmo : K mo = 12) (sr : Nat) (hsr : sr ∈ L) (ksr : K sr = 151) (as : Nat) (has : as ∈ L) (kas : K as = 153) (xt : Int) (lxt : 0 ≤ xt) (uxt : xt ≤ 9999) (xm : Int) (lxm : 0 ≤ xm) (uxm : xm ≤ 60) (xc : Int) (lxc : 0 ≤ xc) (uxc : xc ≤ 10) (hf0 : q_is (q_z f sr 3) xt) (hf1 : q_is (q_z f sr 4) xm) (hf2 : q_is (q_z f sr 0) xc) (hr0 : q_ir (q_r f mo 13) sr) (hr1 : q_ir (q_r f mo 15) as) (hgr : q_gr f sr) : q_Ct l g K L yX12_laysAside cX12_laysAside 1 none 1 24 [.ref mo] f [(153, 0, 657)] (q_Pv (fun (f1 : Nat → va_E) => 4 ≤ q_z f1 as 2 ∧ q_z f1 as 2 ≤ 60 ∧ q_is (q_z f1 as 0) xc)) := by
  refine q_ofb (by decide +kernel) hN hT (Nat.le_of_ble_eq_true rfl) ?_
  intro p e s m below meth c ls cx hr hlk hB hl
  have hl : lv_has ls 1 [(0, .ref mo)] := hl
  obtain ⟨H, hH⟩ : ∃ H : Heap, H = s.heap := ⟨_, rfl⟩
  obtain ⟨locs, hlocs⟩ : ∃ z : List Loc, z = [] := ⟨_, rfl⟩
  rw [← hH, ← hlocs] at hB
  rw [← hH, ← hlocs]
  refine q_ald_n cx dX12_laysAside_0 rfl (lv_at hl 0 rfl) ?_
  refine q_gX12_20 cx hB hmo kmo hr0 dX12_laysAside_1 (fun hb14 kb14 => ?_)
  refine q_iconst cx dX12_laysAside_4 ?_
  refine q_ald_n cx dX12_laysAside_5 rfl (lv_at hl 0 rfl) ?_
  refine q_gX12_26 cx hB hmo kmo hr1 dX12_laysAside_6 (fun hb15 kb15 => ?_)
  refine q_iconst cx dX12_laysAside_9 ?_
  refine q_cSv (As := [.ref sr, .int (q_i 0), .ref as, .int (q_i 0)]) (rest := []) cx hB (fun _ h => h) hN (r_copiesRow_sr_as l g hN hB.2.1 sr hsr ksr 0 (by decide) (by decide) as has kas 0 (by decide) (by decide) xt (by omega) (by omega) xm (by omega) (by omega) xc (by omega) (by omega) hf0 hf1 hf2 hgr) q_cX12_154 q_dX12_copiesRow (by decide) rfl rfl hl.1 rfl (Nat.le_of_ble_eq_true rfl) dX12_laysAside_10 (fun H locs f16 h18 hF hB => ?_)
  have t19 := h18
  have z20 : q_is (q_z f16 sr 3) xt := Eq.trans (hF.z hsr (by rw [ksr]; rfl)) hf0
  have z21 : q_is (q_z f16 sr 4) xm := Eq.trans (hF.z hsr (by rw [ksr]; rfl)) hf1
  have z22 : q_is (q_z f16 sr 0) xc := Eq.trans (hF.z hsr (by rw [ksr]; rfl)) hf2
  have z23 : q_ir (q_r f16 mo 13) sr := Eq.trans (hF.r hmo (by rw [kmo]; rfl)) hr0
  have z24 : q_ir (q_r f16 mo 15) as := Eq.trans (hF.r hmo (by rw [kmo]; rfl)) hr1
  have g25 : q_gr f16 sr := q_gr_fr hgr (fun i9 _ => hF.z hsr (by rw [ksr]; rfl))
  have hy9 : q_z f16 as 2 = q_z f sr 2 := t19 2 (by decide) (by decide)
  obtain ⟨x26, ex26⟩ : ∃ zz, q_is (q_z f16 as 2) zz := ⟨_, q_isr _⟩
  obtain ⟨lx26, ux26⟩ : 4 ≤ x26 ∧ x26 ≤ 60 := q_isb ex26 (by rw [hy9]; exact hgr 2 (by decide))
  have hy8 : q_is (q_z f16 as 0) xc := Eq.trans (t19 0 (by decide) (by decide)) hf2
  refine q_vret cx hr hlk hB dX12_laysAside_13 ?_
  exact ⟨(q_isl ex26 (by omega)), (q_isu ex26 (by omega)), hy8⟩
set_option maxHeartbeats 4000000 in
set_option maxRecDepth 100000 in
theorem r_leaves (l : Launch) (g : q_G) {K : Nat → Nat} {L : List Nat} (hN : L.Nodup) {f : Nat → va_E} (hT : q_Ty g K L f) (mo : Nat) (hmo : mo ∈ L) (kmo : K mo = 12) (sr : Nat) (hsr : sr ∈ L) (ksr : K sr = 151) (aw : Nat) (haw : aw ∈ L) (kaw : K aw = 154) (xt : Int) (lxt : 0 ≤ xt) (uxt : xt ≤ 9999) (xm : Int) (lxm : 0 ≤ xm) (uxm : xm ≤ 60) (xc : Int) (lxc : 0 ≤ xc) (uxc : xc ≤ 10) (hf0 : q_is (q_z f sr 3) xt) (hf1 : q_is (q_z f sr 4) xm) (hf2 : q_is (q_z f sr 0) xc) (hr0 : q_ir (q_r f mo 13) sr) (hr1 : q_ir (q_r f mo 16) aw) (hgr : q_gr f sr) : q_Ct l g K L yX12_leaves cX12_leaves 1 none 1 24 [.ref mo] f [(154, 0, 657)] (q_Pv (fun (f1 : Nat → va_E) => 4 ≤ q_z f1 aw 2 ∧ q_z f1 aw 2 ≤ 60 ∧ q_is (q_z f1 aw 0) xc)) := by
  refine q_ofb (by decide +kernel) hN hT (Nat.le_of_ble_eq_true rfl) ?_
  intro p e s m below meth c ls cx hr hlk hB hl
  have hl : lv_has ls 1 [(0, .ref mo)] := hl
  obtain ⟨H, hH⟩ : ∃ H : Heap, H = s.heap := ⟨_, rfl⟩
  obtain ⟨locs, hlocs⟩ : ∃ z : List Loc, z = [] := ⟨_, rfl⟩
  rw [← hH, ← hlocs] at hB
  rw [← hH, ← hlocs]
  refine q_ald_n cx dX12_leaves_0 rfl (lv_at hl 0 rfl) ?_
  refine q_gX12_20 cx hB hmo kmo hr0 dX12_leaves_1 (fun hb14 kb14 => ?_)
  refine q_iconst cx dX12_leaves_4 ?_
  refine q_ald_n cx dX12_leaves_5 rfl (lv_at hl 0 rfl) ?_
  refine q_gX12_29 cx hB hmo kmo hr1 dX12_leaves_6 (fun hb15 kb15 => ?_)
  refine q_iconst cx dX12_leaves_9 ?_
  refine q_cSv (As := [.ref sr, .int (q_i 0), .ref aw, .int (q_i 0)]) (rest := []) cx hB (fun _ h => h) hN (r_copiesRow_sr_aw l g hN hB.2.1 sr hsr ksr 0 (by decide) (by decide) aw haw kaw 0 (by decide) (by decide) xt (by omega) (by omega) xm (by omega) (by omega) xc (by omega) (by omega) hf0 hf1 hf2 hgr) q_cX12_154 q_dX12_copiesRow (by decide) rfl rfl hl.1 rfl (Nat.le_of_ble_eq_true rfl) dX12_leaves_10 (fun H locs f16 h18 hF hB => ?_)
  have t19 := h18
  have z20 : q_is (q_z f16 sr 3) xt := Eq.trans (hF.z hsr (by rw [ksr]; rfl)) hf0
  have z21 : q_is (q_z f16 sr 4) xm := Eq.trans (hF.z hsr (by rw [ksr]; rfl)) hf1
  have z22 : q_is (q_z f16 sr 0) xc := Eq.trans (hF.z hsr (by rw [ksr]; rfl)) hf2
  have z23 : q_ir (q_r f16 mo 13) sr := Eq.trans (hF.r hmo (by rw [kmo]; rfl)) hr0
  have z24 : q_ir (q_r f16 mo 16) aw := Eq.trans (hF.r hmo (by rw [kmo]; rfl)) hr1
  have g25 : q_gr f16 sr := q_gr_fr hgr (fun i9 _ => hF.z hsr (by rw [ksr]; rfl))
  have hy9 : q_z f16 aw 2 = q_z f sr 2 := t19 2 (by decide) (by decide)
  obtain ⟨x26, ex26⟩ : ∃ zz, q_is (q_z f16 aw 2) zz := ⟨_, q_isr _⟩
  obtain ⟨lx26, ux26⟩ : 4 ≤ x26 ∧ x26 ≤ 60 := q_isb ex26 (by rw [hy9]; exact hgr 2 (by decide))
  have hy8 : q_is (q_z f16 aw 0) xc := Eq.trans (t19 0 (by decide) (by decide)) hf2
  refine q_vret cx hr hlk hB dX12_leaves_13 ?_
  exact ⟨(q_isl ex26 (by omega)), (q_isu ex26 (by omega)), hy8⟩
set_option maxHeartbeats 4000000 in
set_option maxRecDepth 100000 in
theorem r_comesBack (l : Launch) (g : q_G) {K : Nat → Nat} {L : List Nat} (hN : L.Nodup) {f : Nat → va_E} (hT : q_Ty g K L f) (mo : Nat) (hmo : mo ∈ L) (kmo : K mo = 12) (a0 : Int) (la0 : (-2147483648) ≤ a0) (ua0 : a0 ≤ 2147483647) (sr : Nat) (hsr : sr ∈ L) (ksr : K sr = 151) (aw : Nat) (haw : aw ∈ L) (kaw : K aw = 154) (xy : Int) (lxy : 4 ≤ xy) (uxy : xy ≤ 60) (xc : Int) (lxc : 0 ≤ xc) (uxc : xc ≤ 10) (hf0 : q_is (q_z f aw 2) xy) (hf1 : q_is (q_z f aw 0) xc) (hr0 : q_ir (q_r f mo 13) sr) (hr1 : q_ir (q_r f mo 16) aw) : q_Ct l g K L yX12_comesBack cX12_comesBack 2 (some .int) 1 24 [.ref mo, .int (q_i a0)] f [(151, 0, 657)] (q_Pi (fun (z : Int) (f1 : Nat → va_E) => z = a0 ∧ 0 ≤ q_z f1 sr 3 ∧ q_z f1 sr 3 ≤ 9999 ∧ 0 ≤ q_z f1 sr 4 ∧ q_z f1 sr 4 ≤ 60 ∧ q_is (q_z f1 sr 0) xc ∧ q_gr f1 sr)) := by
  refine q_ofb (by decide +kernel) hN hT (Nat.le_of_ble_eq_true rfl) ?_
  intro p e s m below meth c ls cx hr hlk hB hl
  have hl : lv_has ls 2 [(0, .ref mo), (1, .int (q_i a0))] := hl
  obtain ⟨H, hH⟩ : ∃ H : Heap, H = s.heap := ⟨_, rfl⟩
  obtain ⟨locs, hlocs⟩ : ∃ z : List Loc, z = [] := ⟨_, rfl⟩
  rw [← hH, ← hlocs] at hB
  rw [← hH, ← hlocs]
  refine q_ald_n cx dX12_comesBack_0 rfl (lv_at hl 0 rfl) ?_
  refine q_gX12_29 cx hB hmo kmo hr1 dX12_comesBack_1 (fun hb17 kb17 => ?_)
  refine q_iconst cx dX12_comesBack_4 ?_
  refine q_ald_n cx dX12_comesBack_5 rfl (lv_at hl 0 rfl) ?_
  refine q_gX12_20 cx hB hmo kmo hr0 dX12_comesBack_6 (fun hb18 kb18 => ?_)
  refine q_iconst cx dX12_comesBack_9 ?_
  refine q_cSv (As := [.ref aw, .int (q_i 0), .ref sr, .int (q_i 0)]) (rest := []) cx hB (fun _ h => h) hN (r_copiesRow_aw_sr l g hN hB.2.1 aw haw kaw 0 (by decide) (by decide) sr hsr ksr 0 (by decide) (by decide) xy (by omega) (by omega) xc (by omega) (by omega) hf0 hf1) q_cX12_154 q_dX12_copiesRow (by decide) rfl rfl hl.1 rfl (Nat.le_of_ble_eq_true rfl) dX12_comesBack_10 (fun H locs f19 h21 hF hB => ?_)
  obtain ⟨lz22, uz22, lz23, uz23, z24, t25, g26⟩ := h21
  have z27 : q_is (q_z f19 aw 2) xy := Eq.trans (hF.z haw (by rw [kaw]; rfl)) hf0
  have z28 : q_is (q_z f19 aw 0) xc := Eq.trans (hF.z haw (by rw [kaw]; rfl)) hf1
  have z29 : q_ir (q_r f19 mo 13) sr := Eq.trans (hF.r hmo (by rw [kmo]; rfl)) hr0
  have z30 : q_ir (q_r f19 mo 16) aw := Eq.trans (hF.r hmo (by rw [kmo]; rfl)) hr1
  obtain ⟨x31, ex31⟩ : ∃ zz, q_is (q_z f19 sr 3) zz := ⟨_, q_isr _⟩
  obtain ⟨lx31, ux31⟩ := q_isb ex31 ⟨lz22, uz22⟩
  obtain ⟨x32, ex32⟩ : ∃ zz, q_is (q_z f19 sr 4) zz := ⟨_, q_isr _⟩
  obtain ⟨lx32, ux32⟩ := q_isb ex32 ⟨lz23, uz23⟩
  refine q_ild_n cx dX12_comesBack_13 rfl (lv_at hl 1 rfl) ?_
  refine q_iret cx hr hlk hB dX12_comesBack_14 ⟨by omega, by omega⟩ ?_
  exact ⟨rfl, (q_isl ex31 (by omega)), (q_isu ex31 (by omega)), (q_isl ex32 (by omega)), (q_isu ex32 (by omega)), z24, g26⟩
