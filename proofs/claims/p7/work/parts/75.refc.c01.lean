set_option maxHeartbeats 4000000 in
set_option maxRecDepth 100000 in
theorem f_mofLink0 (l : Launch) (g : q_G) {K : Nat → Nat} {L : List Nat} (hN : L.Nodup) {f : Nat → va_E} (hT : q_Ty g K L f) (mo : Nat) (hmo : mo ∈ L) (kmo : K mo = 12) (a0 : Int) (la0 : 0 ≤ a0) (ua0 : a0 ≤ 15) (b0 : Int) (lb0 : 0 ≤ b0) (ub0 : b0 ≤ 0) (sr : Nat) (hsr : sr ∈ L) (ksr : K sr = 151) (hr0 : q_ir (q_r f mo 13) sr) (hgr : q_gr f sr) : q_Ct l g K L yX12_ofLink cX12_ofLink 3 (some .int) 0 0 [.ref mo, .int (q_i a0), .int (q_i b0)] f [] (q_Pi (fun (z : Int) (f1 : Nat → va_E) => f = f1 ∧ 0 ≤ z ∧ z ≤ 9 ∧ (z = q_z f sr (Int.toNat (5 * a0 + 90))))) := by
  obtain rfl : b0 = 0 := by omega
  refine q_ofb (by decide +kernel) hN hT (Nat.le_of_ble_eq_true rfl) ?_
  intro p e s m below meth c ls cx hr hlk hB hl
  have hl : lv_has ls 3 [(0, .ref mo), (1, .int (q_i a0)), (2, .int (q_i 0))] := hl
  obtain ⟨H, hH⟩ : ∃ H : Heap, H = s.heap := ⟨_, rfl⟩
  obtain ⟨locs, hlocs⟩ : ∃ z : List Loc, z = [] := ⟨_, rfl⟩
  rw [← hH, ← hlocs] at hB
  rw [← hH, ← hlocs]
  refine q_ald_n cx dX12_ofLink_0 rfl (lv_at hl 0 rfl) ?_
  refine q_gX12_20 cx hB hmo kmo hr0 dX12_ofLink_1 (fun hb4 kb4 => ?_)
  refine q_bipush cx dX12_ofLink_4 rfl ?_
  refine q_iconst cx dX12_ofLink_6 ?_
  refine q_ild_n cx dX12_ofLink_7 rfl (lv_at hl 1 rfl) ?_
  refine q_imul cx dX12_ofLink_8 ?_
  refine q_iadd cx dX12_ofLink_9 ?_
  refine q_ild_n cx dX12_ofLink_10 rfl (lv_at hl 2 rfl) ?_
  refine q_iadd cx dX12_ofLink_11 ?_
  obtain ⟨x5, ex5⟩ : ∃ zz, q_is (q_z f sr (Int.toNat ((90 + (5 * a0)) + 0))) zz := ⟨_, q_isr _⟩
  refine q_sald cx hB hsr ksr (by omega) (by omega) ex5 dX12_ofLink_12 (fun rx5 => ?_)
  obtain ⟨lx5, ux5⟩ : 0 ≤ x5 ∧ x5 ≤ 9 := q_isb ex5 (q_gr_at hgr (by omega) (q_egl (n := a0) (w := 0) (by omega) (by omega) (by omega) (by decide)))
  refine q_iret cx hr hlk hB dX12_ofLink_13 ⟨by omega, by omega⟩ ?_
  exact ⟨rfl, (by omega), (by omega), (q_zat ex5 (by omega))⟩
set_option maxHeartbeats 4000000 in
set_option maxRecDepth 100000 in
theorem f_mofLink1 (l : Launch) (g : q_G) {K : Nat → Nat} {L : List Nat} (hN : L.Nodup) {f : Nat → va_E} (hT : q_Ty g K L f) (mo : Nat) (hmo : mo ∈ L) (kmo : K mo = 12) (a0 : Int) (la0 : 0 ≤ a0) (ua0 : a0 ≤ 15) (b0 : Int) (lb0 : 1 ≤ b0) (ub0 : b0 ≤ 1) (sr : Nat) (hsr : sr ∈ L) (ksr : K sr = 151) (hr0 : q_ir (q_r f mo 13) sr) (hgr : q_gr f sr) : q_Ct l g K L yX12_ofLink cX12_ofLink 3 (some .int) 0 0 [.ref mo, .int (q_i a0), .int (q_i b0)] f [] (q_Pi (fun (z : Int) (f1 : Nat → va_E) => f = f1 ∧ 0 ≤ z ∧ z ≤ 9 ∧ (z = q_z f sr (Int.toNat (5 * a0 + 91))))) := by
  obtain rfl : b0 = 1 := by omega
  refine q_ofb (by decide +kernel) hN hT (Nat.le_of_ble_eq_true rfl) ?_
  intro p e s m below meth c ls cx hr hlk hB hl
  have hl : lv_has ls 3 [(0, .ref mo), (1, .int (q_i a0)), (2, .int (q_i 1))] := hl
  obtain ⟨H, hH⟩ : ∃ H : Heap, H = s.heap := ⟨_, rfl⟩
  obtain ⟨locs, hlocs⟩ : ∃ z : List Loc, z = [] := ⟨_, rfl⟩
  rw [← hH, ← hlocs] at hB
  rw [← hH, ← hlocs]
  refine q_ald_n cx dX12_ofLink_0 rfl (lv_at hl 0 rfl) ?_
  refine q_gX12_20 cx hB hmo kmo hr0 dX12_ofLink_1 (fun hb4 kb4 => ?_)
  refine q_bipush cx dX12_ofLink_4 rfl ?_
  refine q_iconst cx dX12_ofLink_6 ?_
  refine q_ild_n cx dX12_ofLink_7 rfl (lv_at hl 1 rfl) ?_
  refine q_imul cx dX12_ofLink_8 ?_
  refine q_iadd cx dX12_ofLink_9 ?_
  refine q_ild_n cx dX12_ofLink_10 rfl (lv_at hl 2 rfl) ?_
  refine q_iadd cx dX12_ofLink_11 ?_
  obtain ⟨x5, ex5⟩ : ∃ zz, q_is (q_z f sr (Int.toNat ((90 + (5 * a0)) + 1))) zz := ⟨_, q_isr _⟩
  refine q_sald cx hB hsr ksr (by omega) (by omega) ex5 dX12_ofLink_12 (fun rx5 => ?_)
  obtain ⟨lx5, ux5⟩ : 0 ≤ x5 ∧ x5 ≤ 9 := q_isb ex5 (q_gr_at hgr (by omega) (q_egl (n := a0) (w := 1) (by omega) (by omega) (by omega) (by decide)))
  refine q_iret cx hr hlk hB dX12_ofLink_13 ⟨by omega, by omega⟩ ?_
  exact ⟨rfl, (by omega), (by omega), (q_zat ex5 (by omega))⟩
set_option maxHeartbeats 4000000 in
set_option maxRecDepth 100000 in
theorem f_mlinkOf (l : Launch) (g : q_G) {K : Nat → Nat} {L : List Nat} (hN : L.Nodup) {f : Nat → va_E} (hT : q_Ty g K L f) (tA : tk_A) (mo : Nat) (hmo : mo ∈ L) (kmo : K mo = 12) (a0 : Int) (la0 : 0 ≤ a0) (ua0 : a0 ≤ 9) (b0 : Int) (lb0 : 0 ≤ b0) (ub0 : b0 ≤ 9) (sr : Nat) (hsr : sr ∈ L) (ksr : K sr = 151) (nm : Nat) (hnm : nm ∈ L) (knm : K nm = 156) (nl : Int) (lnl : 0 ≤ nl) (unl : nl ≤ 16) (hf0 : q_is (q_z f sr 1) nl) (hr0 : q_ir (q_r f mo 13) sr) (hr1 : q_ir (q_r f mo 18) nm) (hgr : q_gr f sr) (htm : tk_tm f mo sr nm tA) : q_Ct l g K L yX12_linkOf cX12_linkOf 7 (some .int) 1 22 [.ref mo, .int (q_i a0), .int (q_i b0)] f [] (q_Pi (fun (z : Int) (f1 : Nat → va_E) => (f = f1 ∧ 0 ≤ z ∧ z ≤ 15 ∧ (tk_has (tk_lk tA) (Int.toNat a0) (Int.toNat b0) = true)) ∨ (f = f1 ∧ z = (-1) ∧ (tk_has (tk_lk tA) (Int.toNat a0) (Int.toNat b0) = false)))) := by
  refine q_ofb (by decide +kernel) hN hT (Nat.le_of_ble_eq_true rfl) ?_
  intro p e s m below meth c ls cx hr hlk hB hl
  have hl : lv_has ls 7 [(0, .ref mo), (1, .int (q_i a0)), (2, .int (q_i b0))] := hl
  have J5 : ∀ (n : Nat) (v5_3 : Int) (lv5_3 : (-1) ≤ v5_3) (uv5_3 : v5_3 ≤ 15) (v5_4 : Int) (lv5_4 : 0 ≤ v5_4) (uv5_4 : v5_4 ≤ 16) (hj_sr_1 : q_is (q_z f sr 1) nl) (hq_mo_13 : q_ir (q_r f mo 13) sr) (hq_mo_18 : q_ir (q_r f mo 18) nm) (hgr5 : q_gr f sr) (htm5 : tk_tm f mo sr nm tA) (hrl5_0 : 0 ≤ 1 * nl + -1 * v5_4 + 0) (hrl5_1 : 1 ≤ 1 * v5_4 + -1 * v5_3 + 0) (hhl9 : tk_hl (tk_lk tA) a0 b0 v5_4 v5_3) (hmu : (Int.toNat (2147483647 - v5_4)) < n) (H : Heap) (locs : List Loc) (hB : q_B g K L (fun q => q ∈ L) [] f f s H locs) (ls : Array Slot) (hl : lv_has ls 7 [(0, .ref mo), (1, .int (q_i a0)), (2, .int (q_i b0)), (3, .int (q_i v5_3)), (4, .int (q_i v5_4))]), W p l e { frames := 1, cells := 0, slots := 0, locals := 22 } s m ([.ref mo, .int (q_i a0), .int (q_i b0)] : List Value).toArray below meth c H locs 0 0 (MQ below (q_Q g K L [] f (q_Pi (fun (z : Int) (f1 : Nat → va_E) => (f = f1 ∧ 0 ≤ z ∧ z ≤ 15 ∧ (tk_has (tk_lk tA) (Int.toNat a0) (Int.toNat b0) = true)) ∨ (f = f1 ∧ z = (-1) ∧ (tk_has (tk_lk tA) (Int.toNat a0) (Int.toNat b0) = false))))) ([.ref mo, .int (q_i a0), .int (q_i b0)] : List Value).toArray s 0 0 (fun q => q ∈ L)) (F0 m 5 ls []) := by
    intro n
    induction n with
    | zero =>
      intro v5_3 lv5_3 uv5_3 v5_4 lv5_4 uv5_4 hj_sr_1 hq_mo_13 hq_mo_18 hgr5 htm5 hrl5_0 hrl5_1 hhl9 hmu
      exact absurd hmu (Nat.not_lt_zero _)
    | succ n ih5 =>
      intro v5_3 lv5_3 uv5_3 v5_4 lv5_4 uv5_4 hj_sr_1 hq_mo_13 hq_mo_18 hgr5 htm5 hrl5_0 hrl5_1 hhl9 hmu H locs hB ls hl
      refine lv_iload cx.1 cx.2.1 dX12_linkOf_5 (lv_at hl 4 rfl) ?_
      refine q_ald_n cx dX12_linkOf_7 rfl (lv_at hl 0 rfl) ?_
      refine q_gX12_20 cx hB hmo kmo hq_mo_13 dX12_linkOf_8 (fun hb266 kb266 => ?_)
      refine q_iconst cx dX12_linkOf_11 ?_
      refine q_iald (lo := 0) (hi := 16) (n := 658) cx hB hsr ksr (by decide) rfl rfl (by decide) (by decide) (by decide) rfl hj_sr_1 dX12_linkOf_12 (fun lb268 ub268 => ?_)
      refine q_icge (tgt := 71) cx ⟨by omega, by omega⟩ ⟨by omega, by omega⟩ dX12_linkOf_13 (by decide) (fun c269 => ?_) (fun c269 => ?_)
      · refine q_ild_n cx dX12_linkOf_71 rfl (lv_at hl 3 rfl) ?_
        by_cases c270 : v5_3 ≤ (-1)
        · refine q_iret cx hr hlk hB dX12_linkOf_72 ⟨by omega, by omega⟩ ?_
          exact (Or.inr ⟨rfl, (by omega), (tk_hl_none hhl9 la0 lb0 (by omega) (by have h7 := tk_tm_nl htm5 hj_sr_1; omega))⟩)
        · refine q_iret cx hr hlk hB dX12_linkOf_72 ⟨by omega, by omega⟩ ?_
          exact (Or.inl ⟨rfl, (by omega), (by omega), (tk_hl_some hhl9 la0 lb0 (by omega) (by have h7 := tk_tm_nl htm5 hj_sr_1; omega))⟩)
      · refine q_ald_n cx dX12_linkOf_16 rfl (lv_at hl 0 rfl) ?_
        refine lv_iload cx.1 cx.2.1 dX12_linkOf_17 (lv_at hl 4 rfl) ?_
        refine q_iconst cx dX12_linkOf_19 ?_
        refine q_cVi (As := [.int (q_i v5_4), .int (q_i 0)]) (rest := []) cx hB (fun _ h => h) hN hmo kmo (by decide) rfl (f_mofLink0 l g hN hB.2.1 mo hmo kmo v5_4 (by omega) (by omega) 0 (by decide) (by decide) sr hsr ksr hq_mo_13 hgr5) q_cX12_210 q_dX12_ofLink (by decide) rfl rfl hl.1 rfl (Nat.le_of_ble_eq_true rfl) dX12_linkOf_20 (fun y272 H locs f271 ry272 h273 hF hB => ?_)
        obtain ⟨rfl, ly272, uy272, t274⟩ := h273
        refine lv_istore (lv' := [(5, .int (q_i y272)), (0, .ref mo), (1, .int (q_i a0)), (2, .int (q_i b0)), (3, .int (q_i v5_3)), (4, .int (q_i v5_4))]) cx.1 cx.2.1 dX12_linkOf_23 hl (by decide) rfl (fun ls hl => ?_)
        refine q_ald_n cx dX12_linkOf_25 rfl (lv_at hl 1 rfl) ?_
        refine lv_iload cx.1 cx.2.1 dX12_linkOf_26 (lv_at hl 5 rfl) ?_
        refine q_iconst cx dX12_linkOf_28 ?_
        refine q_cVi (As := [.int (q_i v5_4), .int (q_i 1)]) (rest := []) cx hB (fun _ h => h) hN hmo kmo (by decide) rfl (f_mofLink1 l g hN hB.2.1 mo hmo kmo v5_4 (by omega) (by omega) 1 (by decide) (by decide) sr hsr ksr hq_mo_13 hgr5) q_cX12_210 q_dX12_ofLink (by decide) rfl rfl hl.1 rfl (Nat.le_of_ble_eq_true rfl) dX12_linkOf_29 (fun y276 H locs f275 ry276 h277 hF hB => ?_)
        obtain ⟨rfl, ly276, uy276, t278⟩ := h277
        refine lv_istore (lv' := [(6, .int (q_i y276)), (5, .int (q_i y272)), (0, .ref mo), (1, .int (q_i a0)), (2, .int (q_i b0)), (3, .int (q_i v5_3)), (4, .int (q_i v5_4))]) cx.1 cx.2.1 dX12_linkOf_32 hl (by decide) rfl (fun ls hl => ?_)
        refine lv_iload cx.1 cx.2.1 dX12_linkOf_34 (lv_at hl 1 rfl) ?_
        refine q_ild_n cx dX12_linkOf_36 rfl (lv_at hl 3 rfl) ?_
        refine q_icne (tgt := 46) cx ⟨by omega, by omega⟩ ⟨by omega, by omega⟩ dX12_linkOf_37 (by decide) (fun c279 => ?_) (fun c279 => ?_)
        · refine lv_iload cx.1 cx.2.1 dX12_linkOf_46 (lv_at hl 1 rfl) ?_
          refine q_ild_n cx dX12_linkOf_48 rfl (lv_at hl 4 rfl) ?_
          refine q_icne (tgt := 63) cx ⟨by omega, by omega⟩ ⟨by omega, by omega⟩ dX12_linkOf_49 (by decide) (fun c280 => ?_) (fun c280 => ?_)
          · refine q_ild_n cx dX12_linkOf_63 rfl (lv_at hl 5 rfl) ?_
            refine lv_istore_n (lv' := [(3, .int (q_i v5_3)), (6, .int (q_i y276)), (5, .int (q_i y272)), (0, .ref mo), (1, .int (q_i a0)), (2, .int (q_i b0)), (4, .int (q_i v5_4))]) cx.1 cx.2.1 dX12_linkOf_64 rfl hl (by decide) rfl (fun ls hl => ?_)
            refine q_iinc (lv' := [(4, .int (q_i (v5_4 + 1))), (3, .int (q_i v5_3)), (6, .int (q_i y276)), (5, .int (q_i y272)), (0, .ref mo), (1, .int (q_i a0)), (2, .int (q_i b0))]) cx dX12_linkOf_65 hl (k := 6) rfl (by decide) rfl (fun ls hl => ?_)
            refine lv_goto (tgt := 5) cx.1 cx.2.1 dX12_linkOf_68 (by decide) ?_
            exact ih5 v5_3 (by omega) (by omega) (v5_4 + 1) (by omega) (by omega) hj_sr_1 hq_mo_13 hq_mo_18 hgr5 htm5 (by omega) (by omega) (tk_hl_miss hhl9 htm5 (by omega) (by have h7 := tk_tm_nl htm5 hj_sr_1; omega) t274 t278 (by omega)) (by omega) H locs hB ls (lv_sub hl [4, 5, 6, 1, 0] rfl)
          · refine lv_iload cx.1 cx.2.1 dX12_linkOf_52 (lv_at hl 0 rfl) ?_
            refine q_ild_n cx dX12_linkOf_54 rfl (lv_at hl 3 rfl) ?_
            refine q_icne (tgt := 63) cx ⟨by omega, by omega⟩ ⟨by omega, by omega⟩ dX12_linkOf_55 (by decide) (fun c281 => ?_) (fun c281 => ?_)
            · refine q_ild_n cx dX12_linkOf_63 rfl (lv_at hl 5 rfl) ?_
              refine lv_istore_n (lv' := [(3, .int (q_i v5_3)), (6, .int (q_i y276)), (5, .int (q_i y272)), (0, .ref mo), (1, .int (q_i a0)), (2, .int (q_i b0)), (4, .int (q_i v5_4))]) cx.1 cx.2.1 dX12_linkOf_64 rfl hl (by decide) rfl (fun ls hl => ?_)
              refine q_iinc (lv' := [(4, .int (q_i (v5_4 + 1))), (3, .int (q_i v5_3)), (6, .int (q_i y276)), (5, .int (q_i y272)), (0, .ref mo), (1, .int (q_i a0)), (2, .int (q_i b0))]) cx dX12_linkOf_65 hl (k := 6) rfl (by decide) rfl (fun ls hl => ?_)
              refine lv_goto (tgt := 5) cx.1 cx.2.1 dX12_linkOf_68 (by decide) ?_
              exact ih5 v5_3 (by omega) (by omega) (v5_4 + 1) (by omega) (by omega) hj_sr_1 hq_mo_13 hq_mo_18 hgr5 htm5 (by omega) (by omega) (tk_hl_miss hhl9 htm5 (by omega) (by have h7 := tk_tm_nl htm5 hj_sr_1; omega) t274 t278 (by omega)) (by omega) H locs hB ls (lv_sub hl [4, 5, 6, 1, 0] rfl)
            · refine lv_iload cx.1 cx.2.1 dX12_linkOf_58 (lv_at hl 6 rfl) ?_
              refine lv_goto (tgt := 64) cx.1 cx.2.1 dX12_linkOf_60 (by decide) ?_
              refine lv_istore_n (lv' := [(3, .int (q_i v5_4)), (6, .int (q_i y276)), (5, .int (q_i y272)), (0, .ref mo), (1, .int (q_i a0)), (2, .int (q_i b0)), (4, .int (q_i v5_4))]) cx.1 cx.2.1 dX12_linkOf_64 rfl hl (by decide) rfl (fun ls hl => ?_)
              refine q_iinc (lv' := [(4, .int (q_i (v5_4 + 1))), (3, .int (q_i v5_4)), (6, .int (q_i y276)), (5, .int (q_i y272)), (0, .ref mo), (1, .int (q_i a0)), (2, .int (q_i b0))]) cx dX12_linkOf_65 hl (k := 6) rfl (by decide) rfl (fun ls hl => ?_)
              refine lv_goto (tgt := 5) cx.1 cx.2.1 dX12_linkOf_68 (by decide) ?_
              exact ih5 v5_4 (by omega) (by omega) (v5_4 + 1) (by omega) (by omega) hj_sr_1 hq_mo_13 hq_mo_18 hgr5 htm5 (by omega) (by omega) (tk_hl_hit htm5 (by omega) (by have h7 := tk_tm_nl htm5 hj_sr_1; omega) t274 t278 (by omega)) (by omega) H locs hB ls (lv_sub hl [4, 5, 6, 1, 0] rfl)
        · refine lv_iload cx.1 cx.2.1 dX12_linkOf_40 (lv_at hl 0 rfl) ?_
          refine q_ild_n cx dX12_linkOf_42 rfl (lv_at hl 4 rfl) ?_
          refine q_iceq (tgt := 58) cx ⟨by omega, by omega⟩ ⟨by omega, by omega⟩ dX12_linkOf_43 (by decide) (fun c282 => ?_) (fun c282 => ?_)
          · refine lv_iload cx.1 cx.2.1 dX12_linkOf_58 (lv_at hl 6 rfl) ?_
            refine lv_goto (tgt := 64) cx.1 cx.2.1 dX12_linkOf_60 (by decide) ?_
            refine lv_istore_n (lv' := [(3, .int (q_i v5_4)), (6, .int (q_i y276)), (5, .int (q_i y272)), (0, .ref mo), (1, .int (q_i a0)), (2, .int (q_i b0)), (4, .int (q_i v5_4))]) cx.1 cx.2.1 dX12_linkOf_64 rfl hl (by decide) rfl (fun ls hl => ?_)
            refine q_iinc (lv' := [(4, .int (q_i (v5_4 + 1))), (3, .int (q_i v5_4)), (6, .int (q_i y276)), (5, .int (q_i y272)), (0, .ref mo), (1, .int (q_i a0)), (2, .int (q_i b0))]) cx dX12_linkOf_65 hl (k := 6) rfl (by decide) rfl (fun ls hl => ?_)
            refine lv_goto (tgt := 5) cx.1 cx.2.1 dX12_linkOf_68 (by decide) ?_
            exact ih5 v5_4 (by omega) (by omega) (v5_4 + 1) (by omega) (by omega) hj_sr_1 hq_mo_13 hq_mo_18 hgr5 htm5 (by omega) (by omega) (tk_hl_hit htm5 (by omega) (by have h7 := tk_tm_nl htm5 hj_sr_1; omega) t274 t278 (by omega)) (by omega) H locs hB ls (lv_sub hl [4, 5, 6, 1, 0] rfl)
          · refine lv_iload cx.1 cx.2.1 dX12_linkOf_46 (lv_at hl 1 rfl) ?_
            refine q_ild_n cx dX12_linkOf_48 rfl (lv_at hl 4 rfl) ?_
            refine q_icne (tgt := 63) cx ⟨by omega, by omega⟩ ⟨by omega, by omega⟩ dX12_linkOf_49 (by decide) (fun c283 => ?_) (fun c283 => ?_)
            · refine q_ild_n cx dX12_linkOf_63 rfl (lv_at hl 5 rfl) ?_
              refine lv_istore_n (lv' := [(3, .int (q_i v5_3)), (6, .int (q_i y276)), (5, .int (q_i y272)), (0, .ref mo), (1, .int (q_i a0)), (2, .int (q_i b0)), (4, .int (q_i v5_4))]) cx.1 cx.2.1 dX12_linkOf_64 rfl hl (by decide) rfl (fun ls hl => ?_)
              refine q_iinc (lv' := [(4, .int (q_i (v5_4 + 1))), (3, .int (q_i v5_3)), (6, .int (q_i y276)), (5, .int (q_i y272)), (0, .ref mo), (1, .int (q_i a0)), (2, .int (q_i b0))]) cx dX12_linkOf_65 hl (k := 6) rfl (by decide) rfl (fun ls hl => ?_)
              refine lv_goto (tgt := 5) cx.1 cx.2.1 dX12_linkOf_68 (by decide) ?_
              exact ih5 v5_3 (by omega) (by omega) (v5_4 + 1) (by omega) (by omega) hj_sr_1 hq_mo_13 hq_mo_18 hgr5 htm5 (by omega) (by omega) (tk_hl_miss hhl9 htm5 (by omega) (by have h7 := tk_tm_nl htm5 hj_sr_1; omega) t274 t278 (by omega)) (by omega) H locs hB ls (lv_sub hl [4, 5, 6, 1, 0] rfl)
            · refine lv_iload cx.1 cx.2.1 dX12_linkOf_52 (lv_at hl 0 rfl) ?_
              refine q_ild_n cx dX12_linkOf_54 rfl (lv_at hl 3 rfl) ?_
              refine q_icne (tgt := 63) cx ⟨by omega, by omega⟩ ⟨by omega, by omega⟩ dX12_linkOf_55 (by decide) (fun c284 => ?_) (fun c284 => ?_)
              · refine q_ild_n cx dX12_linkOf_63 rfl (lv_at hl 5 rfl) ?_
                refine lv_istore_n (lv' := [(3, .int (q_i v5_3)), (6, .int (q_i y276)), (5, .int (q_i y272)), (0, .ref mo), (1, .int (q_i a0)), (2, .int (q_i b0)), (4, .int (q_i v5_4))]) cx.1 cx.2.1 dX12_linkOf_64 rfl hl (by decide) rfl (fun ls hl => ?_)
                refine q_iinc (lv' := [(4, .int (q_i (v5_4 + 1))), (3, .int (q_i v5_3)), (6, .int (q_i y276)), (5, .int (q_i y272)), (0, .ref mo), (1, .int (q_i a0)), (2, .int (q_i b0))]) cx dX12_linkOf_65 hl (k := 6) rfl (by decide) rfl (fun ls hl => ?_)
                refine lv_goto (tgt := 5) cx.1 cx.2.1 dX12_linkOf_68 (by decide) ?_
                exact ih5 v5_3 (by omega) (by omega) (v5_4 + 1) (by omega) (by omega) hj_sr_1 hq_mo_13 hq_mo_18 hgr5 htm5 (by omega) (by omega) (tk_hl_miss hhl9 htm5 (by omega) (by have h7 := tk_tm_nl htm5 hj_sr_1; omega) t274 t278 (by omega)) (by omega) H locs hB ls (lv_sub hl [4, 5, 6, 1, 0] rfl)
              · refine lv_iload cx.1 cx.2.1 dX12_linkOf_58 (lv_at hl 6 rfl) ?_
                refine lv_goto (tgt := 64) cx.1 cx.2.1 dX12_linkOf_60 (by decide) ?_
                refine lv_istore_n (lv' := [(3, .int (q_i v5_4)), (6, .int (q_i y276)), (5, .int (q_i y272)), (0, .ref mo), (1, .int (q_i a0)), (2, .int (q_i b0)), (4, .int (q_i v5_4))]) cx.1 cx.2.1 dX12_linkOf_64 rfl hl (by decide) rfl (fun ls hl => ?_)
                refine q_iinc (lv' := [(4, .int (q_i (v5_4 + 1))), (3, .int (q_i v5_4)), (6, .int (q_i y276)), (5, .int (q_i y272)), (0, .ref mo), (1, .int (q_i a0)), (2, .int (q_i b0))]) cx dX12_linkOf_65 hl (k := 6) rfl (by decide) rfl (fun ls hl => ?_)
                refine lv_goto (tgt := 5) cx.1 cx.2.1 dX12_linkOf_68 (by decide) ?_
                exact ih5 v5_4 (by omega) (by omega) (v5_4 + 1) (by omega) (by omega) hj_sr_1 hq_mo_13 hq_mo_18 hgr5 htm5 (by omega) (by omega) (tk_hl_hit htm5 (by omega) (by have h7 := tk_tm_nl htm5 hj_sr_1; omega) t274 t278 (by omega)) (by omega) H locs hB ls (lv_sub hl [4, 5, 6, 1, 0] rfl)
  obtain ⟨H, hH⟩ : ∃ H : Heap, H = s.heap := ⟨_, rfl⟩
  obtain ⟨locs, hlocs⟩ : ∃ z : List Loc, z = [] := ⟨_, rfl⟩
  rw [← hH, ← hlocs] at hB
  rw [← hH, ← hlocs]
  refine q_iconst cx dX12_linkOf_0 ?_
  refine lv_istore_n (lv' := [(3, .int (q_i (-1))), (0, .ref mo), (1, .int (q_i a0)), (2, .int (q_i b0))]) cx.1 cx.2.1 dX12_linkOf_1 rfl hl (by decide) rfl (fun ls hl => ?_)
  refine q_iconst cx dX12_linkOf_2 ?_
  refine lv_istore (lv' := [(4, .int (q_i 0)), (3, .int (q_i (-1))), (0, .ref mo), (1, .int (q_i a0)), (2, .int (q_i b0))]) cx.1 cx.2.1 dX12_linkOf_3 hl (by decide) rfl (fun ls hl => ?_)
  exact J5 ((Int.toNat (2147483647 - 0)) + 1) (-1) (by decide) (by decide) 0 (by decide) (by decide) hf0 hr0 hr1 hgr htm (by omega) (by omega) tk_hl_0 (Nat.lt_succ_self _) H locs hB ls (lv_sub hl [2, 3, 4, 1, 0] rfl)
set_option maxHeartbeats 4000000 in
set_option maxRecDepth 100000 in
theorem f_msetsLink0 (l : Launch) (g : q_G) {K : Nat → Nat} {L : List Nat} (hN : L.Nodup) {f : Nat → va_E} (hT : q_Ty g K L f) (mo : Nat) (hmo : mo ∈ L) (kmo : K mo = 12) (a0 : Int) (la0 : 0 ≤ a0) (ua0 : a0 ≤ 15) (b0 : Int) (lb0 : 0 ≤ b0) (ub0 : b0 ≤ 0) (c0 : Int) (lc0 : 0 ≤ c0) (uc0 : c0 ≤ 9) (sr : Nat) (hsr : sr ∈ L) (ksr : K sr = 151) (hr0 : q_ir (q_r f mo 13) sr) (hgr : q_gr f sr) : q_Ct l g K L yX12_setsLink cX12_setsLink 4 none 0 0 [.ref mo, .int (q_i a0), .int (q_i b0), .int (q_i c0)] f [(151, 90, 165)] (q_Pv (fun (f1 : Nat → va_E) => (q_z f1 sr (Int.toNat (5 * a0 + 90)) = c0) ∧ (∀ i : Nat, (i : Int) ≠ 5 * a0 + 90 → q_z f1 sr i = q_z f sr i) ∧ q_gr f1 sr)) := by
  obtain rfl : b0 = 0 := by omega
  refine q_ofb (by decide +kernel) hN hT (Nat.le_of_ble_eq_true rfl) ?_
  intro p e s m below meth c ls cx hr hlk hB hl
  have hl : lv_has ls 4 [(0, .ref mo), (1, .int (q_i a0)), (2, .int (q_i 0)), (3, .int (q_i c0))] := hl
  obtain ⟨H, hH⟩ : ∃ H : Heap, H = s.heap := ⟨_, rfl⟩
  obtain ⟨locs, hlocs⟩ : ∃ z : List Loc, z = [] := ⟨_, rfl⟩
  rw [← hH, ← hlocs] at hB
  rw [← hH, ← hlocs]
  refine q_ald_n cx dX12_setsLink_0 rfl (lv_at hl 0 rfl) ?_
  refine q_gX12_20 cx hB hmo kmo hr0 dX12_setsLink_1 (fun hb6 kb6 => ?_)
  refine q_bipush cx dX12_setsLink_4 rfl ?_
  refine q_iconst cx dX12_setsLink_6 ?_
  refine q_ild_n cx dX12_setsLink_7 rfl (lv_at hl 1 rfl) ?_
  refine q_imul cx dX12_setsLink_8 ?_
  refine q_iadd cx dX12_setsLink_9 ?_
  refine q_ild_n cx dX12_setsLink_10 rfl (lv_at hl 2 rfl) ?_
  refine q_iadd cx dX12_setsLink_11 ?_
  refine q_ild_n cx dX12_setsLink_12 rfl (lv_at hl 3 rfl) ?_
  refine q_sast cx hB hsr ksr (by omega) (by omega) ⟨by omega, by omega⟩ (q_inWi (lo := 90) (hi := 165) (by decide) (by omega) (by omega)) dX12_setsLink_13 (fun H locs f7 ef7 z8 hB => ?_)
  have z9 : q_ir (q_r f7 mo 13) sr := by rw [ef7, q_setr (Or.inl (fun q => by rw [q, ksr] at kmo; exact absurd kmo (by decide)))]; exact hr0
  have g10 : q_gr f7 sr := q_gr_put hgr ef7 z8 (q_egl (n := a0) (w := 0) (by omega) (by omega) (by omega) (by decide)) (by omega) (by omega)
  refine q_vret cx hr hlk hB dX12_setsLink_14 ?_
  exact ⟨(tk_zat z8 (by omega)), (k_oth ef7 (by omega) (by omega)), g10⟩
set_option maxHeartbeats 4000000 in
set_option maxRecDepth 100000 in
theorem f_msetsLink1 (l : Launch) (g : q_G) {K : Nat → Nat} {L : List Nat} (hN : L.Nodup) {f : Nat → va_E} (hT : q_Ty g K L f) (mo : Nat) (hmo : mo ∈ L) (kmo : K mo = 12) (a0 : Int) (la0 : 0 ≤ a0) (ua0 : a0 ≤ 15) (b0 : Int) (lb0 : 1 ≤ b0) (ub0 : b0 ≤ 1) (c0 : Int) (lc0 : 0 ≤ c0) (uc0 : c0 ≤ 9) (sr : Nat) (hsr : sr ∈ L) (ksr : K sr = 151) (hr0 : q_ir (q_r f mo 13) sr) (hgr : q_gr f sr) : q_Ct l g K L yX12_setsLink cX12_setsLink 4 none 0 0 [.ref mo, .int (q_i a0), .int (q_i b0), .int (q_i c0)] f [(151, 91, 166)] (q_Pv (fun (f1 : Nat → va_E) => (q_z f1 sr (Int.toNat (5 * a0 + 91)) = c0) ∧ (∀ i : Nat, (i : Int) ≠ 5 * a0 + 91 → q_z f1 sr i = q_z f sr i) ∧ q_gr f1 sr)) := by
  obtain rfl : b0 = 1 := by omega
  refine q_ofb (by decide +kernel) hN hT (Nat.le_of_ble_eq_true rfl) ?_
  intro p e s m below meth c ls cx hr hlk hB hl
  have hl : lv_has ls 4 [(0, .ref mo), (1, .int (q_i a0)), (2, .int (q_i 1)), (3, .int (q_i c0))] := hl
  obtain ⟨H, hH⟩ : ∃ H : Heap, H = s.heap := ⟨_, rfl⟩
  obtain ⟨locs, hlocs⟩ : ∃ z : List Loc, z = [] := ⟨_, rfl⟩
  rw [← hH, ← hlocs] at hB
  rw [← hH, ← hlocs]
  refine q_ald_n cx dX12_setsLink_0 rfl (lv_at hl 0 rfl) ?_
  refine q_gX12_20 cx hB hmo kmo hr0 dX12_setsLink_1 (fun hb6 kb6 => ?_)
  refine q_bipush cx dX12_setsLink_4 rfl ?_
  refine q_iconst cx dX12_setsLink_6 ?_
  refine q_ild_n cx dX12_setsLink_7 rfl (lv_at hl 1 rfl) ?_
  refine q_imul cx dX12_setsLink_8 ?_
  refine q_iadd cx dX12_setsLink_9 ?_
  refine q_ild_n cx dX12_setsLink_10 rfl (lv_at hl 2 rfl) ?_
  refine q_iadd cx dX12_setsLink_11 ?_
  refine q_ild_n cx dX12_setsLink_12 rfl (lv_at hl 3 rfl) ?_
  refine q_sast cx hB hsr ksr (by omega) (by omega) ⟨by omega, by omega⟩ (q_inWi (lo := 91) (hi := 166) (by decide) (by omega) (by omega)) dX12_setsLink_13 (fun H locs f7 ef7 z8 hB => ?_)
  have z9 : q_ir (q_r f7 mo 13) sr := by rw [ef7, q_setr (Or.inl (fun q => by rw [q, ksr] at kmo; exact absurd kmo (by decide)))]; exact hr0
  have g10 : q_gr f7 sr := q_gr_put hgr ef7 z8 (q_egl (n := a0) (w := 1) (by omega) (by omega) (by omega) (by decide)) (by omega) (by omega)
  refine q_vret cx hr hlk hB dX12_setsLink_14 ?_
  exact ⟨(tk_zat z8 (by omega)), (k_oth ef7 (by omega) (by omega)), g10⟩
set_option maxHeartbeats 4000000 in
set_option maxRecDepth 100000 in
theorem f_mreadsLink (l : Launch) (g : q_G) {K : Nat → Nat} {L : List Nat} (hN : L.Nodup) {f : Nat → va_E} (hT : q_Ty g K L f) (B : Nat → Int) (tA : tk_A) (mo : Nat) (hmo : mo ∈ L) (kmo : K mo = 12) (sr : Nat) (hsr : sr ∈ L) (ksr : K sr = 151) (nm : Nat) (hnm : nm ∈ L) (knm : K nm = 156) (bu : Nat) (hbu : bu ∈ L) (kbu : K bu = 150) (tn : Int) (ltn : 0 ≤ tn) (utn : tn ≤ 600) (ss : Int) (lss : 0 ≤ ss) (uss : ss ≤ 600) (so9 : Int) (lso9 : 1 ≤ so9) (uso9 : so9 ≤ 1) (hf0 : q_is (q_z f mo 3) tn) (hf1 : q_is (q_z f mo 5) ss) (hf2 : q_is (q_z f mo 8) 0) (hf3 : q_is (q_z f mo 9) (-1)) (hf4 : q_is (q_z f mo 6) so9) (hr0 : q_ir (q_r f mo 13) sr) (hr1 : q_ir (q_r f mo 18) nm) (hr2 : q_ir (q_r f mo 1) bu) (hgr : q_gr f sr) (htr : tk_tr f mo B tn) (hub : tk_ub f bu B tn) (htm : tk_tm f mo sr nm tA) : q_Ct l g K L yX12_readsLink cX12_readsLink 4 none 3 64 [.ref mo] f [(12, 4, 9), (12, 12, 12), (151, 1, 1), (151, 90, 166)] (q_Pv (fun (f1 : Nat → va_E) => (q_is (q_z f1 mo 8) 0 ∧ q_is (q_z f1 mo 9) (-1) ∧ (∃ A1 : tk_A, tk_link B tn ss tA = tk_ok (q_z f1 mo 5, A1) ∧ tk_tm f1 mo sr nm A1) ∧ q_gr f1 sr ∧ (tk_tr f1 mo B tn)) ∨ (1 ≤ q_z f1 mo 8 ∧ q_z f1 mo 8 ≤ 5 ∧ (tk_link B tn ss tA = tk_er (q_z f1 mo 8) (q_z f1 mo 9)) ∧ (tk_tr f1 mo B tn)))) := by
  refine q_ofb (by decide +kernel) hN hT (Nat.le_of_ble_eq_true rfl) ?_
  intro p e s m below meth c ls cx hr hlk hB hl
  have hl : lv_has ls 4 [(0, .ref mo)] := hl
  obtain ⟨H, hH⟩ : ∃ H : Heap, H = s.heap := ⟨_, rfl⟩
  obtain ⟨locs, hlocs⟩ : ∃ z : List Loc, z = [] := ⟨_, rfl⟩
  rw [← hH, ← hlocs] at hB
  rw [← hH, ← hlocs]
  refine q_ald_n cx dX12_readsLink_0 rfl (lv_at hl 0 rfl) ?_
  refine q_gX12_20 cx hB hmo kmo hr0 dX12_readsLink_1 (fun hb361 kb361 => ?_)
  refine q_iconst cx dX12_readsLink_4 ?_
  obtain ⟨x362, ex362⟩ : ∃ zz, q_is (q_z f sr (Int.toNat 1)) zz := ⟨_, q_isr _⟩
  refine q_iald (lo := 0) (hi := 16) (n := 658) cx hB hsr ksr (by decide) rfl rfl (by decide) (by decide) (by decide) rfl ex362 dX12_readsLink_5 (fun lb363 ub363 => ?_)
  refine lv_istore_n (lv' := [(1, .int (q_i x362)), (0, .ref mo)]) cx.1 cx.2.1 dX12_readsLink_6 rfl hl (by decide) rfl (fun ls hl => ?_)
  refine q_ild_n cx dX12_readsLink_7 rfl (lv_at hl 0 rfl) ?_
  refine q_bipush cx dX12_readsLink_8 rfl ?_
  refine q_icne (tgt := 18) cx ⟨by omega, by omega⟩ ⟨by decide, by decide⟩ dX12_readsLink_10 (by decide) (fun c364 => ?_) (fun c364 => ?_)
  · refine q_ald_n cx dX12_readsLink_18 rfl (lv_at hl 1 rfl) ?_
    refine q_cVi (As := []) (rest := []) cx hB (fun _ h => h) hN hmo kmo (by decide) rfl (f_misGood l g hN hB.2.1 mo hmo kmo hf2) q_cX12_130 q_dX12_isGood (by decide) rfl rfl hl.1 rfl (Nat.le_of_ble_eq_true rfl) dX12_readsLink_19 (fun y366 H locs f365 ry366 h367 hF hB => ?_)
    obtain ⟨rfl, qy366⟩ := h367
    subst qy366
    refine q_ifeq (tgt := 29) cx ⟨by decide, by decide⟩ dX12_readsLink_22 (by decide) (fun c368 => ?_) (fun c368 => ?_)
    · exact absurd c368 (by omega)
    · refine q_ald_n cx dX12_readsLink_25 rfl (lv_at hl 1 rfl) ?_
      refine q_cVv (As := []) (rest := []) cx hB (fun _ h => h) hN hmo kmo (by decide) rfl (f_mon l g hN hB.2.1 B mo hmo kmo bu hbu kbu tn (by omega) (by omega) ss (by omega) (by omega) hf0 hf1 hr2 htr hub) q_cX12_140 q_dX12_goOn (by decide) rfl rfl hl.1 rfl (Nat.le_of_ble_eq_true rfl) dX12_readsLink_26 (fun H locs f369 h371 hF hB => ?_)
      obtain ⟨t372, g373⟩ := h371
      have z374 : q_is (q_z f369 mo 3) tn := Eq.trans (hF.z hmo (by rw [kmo]; rfl)) hf0
      have z375 : q_is (q_z f369 mo 8) 0 := Eq.trans (hF.z hmo (by rw [kmo]; rfl)) hf2
      have z376 : q_is (q_z f369 mo 9) (-1) := Eq.trans (hF.z hmo (by rw [kmo]; rfl)) hf3
      have z377 : q_is (q_z f369 sr 1) x362 := Eq.trans (hF.z hsr (by rw [ksr]; rfl)) ex362
      have z378 : q_ir (q_r f369 mo 13) sr := Eq.trans (hF.r hmo (by rw [kmo]; rfl)) hr0
      have z379 : q_ir (q_r f369 mo 18) nm := Eq.trans (hF.r hmo (by rw [kmo]; rfl)) hr1
      have z380 : q_ir (q_r f369 mo 1) bu := Eq.trans (hF.r hmo (by rw [kmo]; rfl)) hr2
      have g381 : q_gr f369 sr := q_gr_fr hgr (fun i9 _ => hF.z hsr (by rw [ksr]; rfl))
      have g382 : tk_ub f369 bu B tn := tk_ub_tr hub (fun i9 => hF.z hbu (by rw [kbu]; rfl))
      have g383 : tk_tm f369 mo sr nm tA := tk_tm_tr htm (hF.z hmo (by rw [kmo]; rfl)) (fun i9 h9 k9 => hF.z hsr (by rw [ksr]; exact q_inWr rfl h9 k9)) (fun i9 h9 k9 => hF.z hsr (by rw [ksr]; exact q_inWr rfl h9 k9)) (fun i9 => hF.j hnm (by rw [knm]; rfl))
      obtain ⟨x384, ex384⟩ : ∃ zz, q_is (q_z f369 mo 5) zz := ⟨_, q_isr _⟩
      obtain ⟨lx384, ux384⟩ := q_isb ex384 (q_fib hB.2.1 hmo kmo (by decide) rfl)
      obtain ⟨-, l0x384, u0x384, -, -⟩ := tk_tr_n g373 ex384
      refine q_ald_n cx dX12_readsLink_29 rfl (lv_at hl 1 rfl) ?_
      obtain ⟨x385, ex385⟩ : ∃ zz, q_is (q_z f369 sr 0) zz := ⟨_, q_isr _⟩
      obtain ⟨lx385, ux385⟩ : 0 ≤ x385 ∧ x385 ≤ 10 := q_isb ex385 (q_ai hB.2.1 hsr ksr (by decide) rfl (by decide) rfl)
      refine q_cVi (As := []) (rest := []) cx hB (fun _ h => h) hN hmo kmo (by decide) rfl (f_mtold l g hN hB.2.1 B tA mo hmo kmo sr hsr ksr nm hnm knm bu hbu kbu tn (by omega) (by omega) x384 (by omega) (by omega) x385 (by omega) (by omega) z374 ex384 z375 z376 ex385 z378 z379 z380 g373 g382 g383) q_cX12_213 q_dX12_told (by decide) rfl rfl hl.1 rfl (Nat.le_of_ble_eq_true rfl) dX12_readsLink_30 (fun y387 H locs f386 ry387 h388 hF hB => ?_)
      rcases h388 with h389 | h390
      · obtain ⟨ly387, uy387, z391, z392, t393, t394, t395, g396⟩ := h389
        have z397 : q_is (q_z f386 mo 3) tn := Eq.trans (hF.z hmo (by rw [kmo]; rfl)) z374
        have z398 : q_is (q_z f386 sr 1) x362 := Eq.trans (hF.z hsr (by rw [ksr]; rfl)) z377
        have z399 : q_is (q_z f386 sr 0) x385 := Eq.trans (hF.z hsr (by rw [ksr]; rfl)) ex385
        have z400 : q_ir (q_r f386 mo 13) sr := Eq.trans (hF.r hmo (by rw [kmo]; rfl)) z378
        have z401 : q_ir (q_r f386 mo 18) nm := Eq.trans (hF.r hmo (by rw [kmo]; rfl)) z379
        have z402 : q_ir (q_r f386 mo 1) bu := Eq.trans (hF.r hmo (by rw [kmo]; rfl)) z380
        have g403 : q_gr f386 sr := q_gr_fr g381 (fun i9 _ => hF.z hsr (by rw [ksr]; rfl))
        have g404 : tk_ub f386 bu B tn := tk_ub_tr g382 (fun i9 => hF.z hbu (by rw [kbu]; rfl))
        have g405 : tk_tm f386 mo sr nm tA := tk_tm_tr g383 (hF.z hmo (by rw [kmo]; rfl)) (fun i9 h9 k9 => hF.z hsr (by rw [ksr]; exact q_inWr rfl h9 k9)) (fun i9 h9 k9 => hF.z hsr (by rw [ksr]; exact q_inWr rfl h9 k9)) (fun i9 => hF.j hnm (by rw [knm]; rfl))
        obtain ⟨x406, ex406⟩ : ∃ zz, q_is (q_z f386 mo 5) zz := ⟨_, q_isr _⟩
        obtain ⟨lx406, ux406⟩ := q_isb ex406 (q_fib hB.2.1 hmo kmo (by decide) rfl)
        obtain ⟨-, l0x406, u0x406, -, -⟩ := tk_tr_n g396 ex406
        refine lv_istore_n (lv' := [(2, .int (q_i y387)), (1, .int (q_i x362)), (0, .ref mo)]) cx.1 cx.2.1 dX12_readsLink_33 rfl hl (by decide) rfl (fun ls hl => ?_)
        refine q_ald_n cx dX12_readsLink_34 rfl (lv_at hl 2 rfl) ?_
        refine q_cVv (As := []) (rest := []) cx hB (fun _ h => h) hN hmo kmo (by decide) rfl (f_mmustBeWord l g hN hB.2.1 B mo hmo kmo bu hbu kbu tn (by omega) (by omega) x406 (by omega) (by omega) z397 ex406 z391 z392 z402 g396 g404) q_cX12_175 q_dX12_mustBeWord (by decide) rfl rfl hl.1 rfl (Nat.le_of_ble_eq_true rfl) dX12_readsLink_35 (fun H locs f407 h409 hF hB => ?_)
        rcases h409 with h410 | h411
        · obtain ⟨z412, z413, z414, z415, t416, g417⟩ := h410
          have z418 : q_is (q_z f407 mo 3) tn := Eq.trans (hF.z hmo (by rw [kmo]; rfl)) z397
          have z419 : q_is (q_z f407 sr 1) x362 := Eq.trans (hF.z hsr (by rw [ksr]; rfl)) z398
          have z420 : q_is (q_z f407 sr 0) x385 := Eq.trans (hF.z hsr (by rw [ksr]; rfl)) z399
          have z421 : q_is (q_z f407 mo 5) x406 := Eq.trans (hF.z hmo (by rw [kmo]; rfl)) ex406
          have z422 : q_ir (q_r f407 mo 13) sr := Eq.trans (hF.r hmo (by rw [kmo]; rfl)) z400
          have z423 : q_ir (q_r f407 mo 18) nm := Eq.trans (hF.r hmo (by rw [kmo]; rfl)) z401
          have z424 : q_ir (q_r f407 mo 1) bu := Eq.trans (hF.r hmo (by rw [kmo]; rfl)) z402
          have g425 : q_gr f407 sr := q_gr_fr g403 (fun i9 _ => hF.z hsr (by rw [ksr]; rfl))
          have g426 : tk_ub f407 bu B tn := tk_ub_tr g404 (fun i9 => hF.z hbu (by rw [kbu]; rfl))
          have g427 : tk_tm f407 mo sr nm tA := tk_tm_tr g405 (hF.z hmo (by rw [kmo]; rfl)) (fun i9 h9 k9 => hF.z hsr (by rw [ksr]; exact q_inWr rfl h9 k9)) (fun i9 h9 k9 => hF.z hsr (by rw [ksr]; exact q_inWr rfl h9 k9)) (fun i9 => hF.j hnm (by rw [knm]; rfl))
          have g428 : tk_tr f407 mo B tn := tk_tr_tr g396 (hF.z hmo (by rw [kmo]; rfl)) (hF.z hmo (by rw [kmo]; rfl)) (hF.z hmo (by rw [kmo]; rfl)) (hF.z hmo (by rw [kmo]; rfl)) (hF.j hmo (by rw [kmo]; rfl))
          refine q_ald_n cx dX12_readsLink_38 rfl (lv_at hl 2 rfl) ?_
          refine q_cVi (As := []) (rest := []) cx hB (fun _ h => h) hN hmo kmo (by decide) rfl (f_misGood l g hN hB.2.1 mo hmo kmo z412) q_cX12_130 q_dX12_isGood (by decide) rfl rfl hl.1 rfl (Nat.le_of_ble_eq_true rfl) dX12_readsLink_39 (fun y430 H locs f429 ry430 h431 hF hB => ?_)
          obtain ⟨rfl, qy430⟩ := h431
          subst qy430
          refine q_ifeq (tgt := 52) cx ⟨by decide, by decide⟩ dX12_readsLink_42 (by decide) (fun c432 => ?_) (fun c432 => ?_)
          · exact absurd c432 (by omega)
          · refine q_ald_n cx dX12_readsLink_45 rfl (lv_at hl 2 rfl) ?_
            refine q_cVi (As := []) (rest := []) cx hB (fun _ h => h) hN hmo kmo (by decide) rfl (f_mnamed l g hN hB.2.1 B tA mo hmo kmo sr hsr ksr nm hnm knm tn (by omega) (by omega) x406 (by omega) (by omega) x385 (by omega) (by omega) z418 z414 z420 z422 z423 t416 g417 g427) q_cX12_178 q_dX12_named (by decide) rfl rfl hl.1 rfl (Nat.le_of_ble_eq_true rfl) dX12_readsLink_46 (fun y434 H locs f433 ry434 h435 hF hB => ?_)
            rcases h435 with h436 | h437
            · obtain ⟨rfl, ly434, uy434, t438, t439⟩ := h436
              refine lv_goto (tgt := 53) cx.1 cx.2.1 dX12_readsLink_49 (by decide) ?_
              refine lv_istore_n (lv' := [(3, .int (q_i y434)), (2, .int (q_i y387)), (1, .int (q_i x362)), (0, .ref mo)]) cx.1 cx.2.1 dX12_readsLink_53 rfl hl (by decide) rfl (fun ls hl => ?_)
              refine q_ald_n cx dX12_readsLink_54 rfl (lv_at hl 3 rfl) ?_
              refine q_cVi (As := []) (rest := []) cx hB (fun _ h => h) hN hmo kmo (by decide) rfl (f_misGood l g hN hB.2.1 mo hmo kmo z412) q_cX12_130 q_dX12_isGood (by decide) rfl rfl hl.1 rfl (Nat.le_of_ble_eq_true rfl) dX12_readsLink_55 (fun y441 H locs f440 ry441 h442 hF hB => ?_)
              obtain ⟨rfl, qy441⟩ := h442
              subst qy441
              refine q_ifeq (tgt := 86) cx ⟨by decide, by decide⟩ dX12_readsLink_58 (by decide) (fun c443 => ?_) (fun c443 => ?_)
              · exact absurd c443 (by omega)
              · refine q_ild_n cx dX12_readsLink_61 rfl (lv_at hl 0 rfl) ?_
                refine q_iconst cx dX12_readsLink_62 ?_
                refine q_iceq (tgt := 86) cx ⟨by omega, by omega⟩ ⟨by decide, by decide⟩ dX12_readsLink_63 (by decide) (fun c444 => ?_) (fun c444 => ?_)
                · exact absurd c444 (by omega)
                · refine q_ild_n cx dX12_readsLink_66 rfl (lv_at hl 0 rfl) ?_
                  refine q_ild_n cx dX12_readsLink_67 rfl (lv_at hl 1 rfl) ?_
                  refine q_iceq (tgt := 81) cx ⟨by omega, by omega⟩ ⟨by omega, by omega⟩ dX12_readsLink_68 (by decide) (fun c445 => ?_) (fun c445 => ?_)
                  · refine q_ald_n cx dX12_readsLink_81 rfl (lv_at hl 3 rfl) ?_
                    refine q_iconst cx dX12_readsLink_82 ?_
                    refine q_cVv (As := [.int (q_i 3)]) (rest := []) cx hB (fun _ h => h) hN hmo kmo (by decide) rfl (f_mwrongk l g hN hB.2.1 mo hmo kmo 3 (by decide) (by decide) x406 (by omega) (by omega) 1 (by decide) (by decide) z414 z415 z412 z413) q_cX12_137 q_dX12_wrong (by decide) rfl rfl hl.1 rfl (Nat.le_of_ble_eq_true rfl) dX12_readsLink_83 (fun H locs f446 h448 hF hB => ?_)
                    obtain ⟨z449, z450⟩ := h448
                    have z451 : q_is (q_z f446 mo 3) tn := Eq.trans (hF.z hmo (by rw [kmo]; rfl)) z418
                    have z452 : q_is (q_z f446 sr 1) x362 := Eq.trans (hF.z hsr (by rw [ksr]; rfl)) z419
                    have z453 : q_is (q_z f446 sr 0) x385 := Eq.trans (hF.z hsr (by rw [ksr]; rfl)) z420
                    have z454 : q_is (q_z f446 mo 5) x406 := Eq.trans (hF.z hmo (by rw [kmo]; rfl)) z414
                    have z455 : q_is (q_z f446 mo 6) 1 := Eq.trans (hF.z hmo (by rw [kmo]; rfl)) z415
                    have z456 : q_ir (q_r f446 mo 13) sr := Eq.trans (hF.r hmo (by rw [kmo]; rfl)) z422
                    have z457 : q_ir (q_r f446 mo 18) nm := Eq.trans (hF.r hmo (by rw [kmo]; rfl)) z423
                    have z458 : q_ir (q_r f446 mo 1) bu := Eq.trans (hF.r hmo (by rw [kmo]; rfl)) z424
                    have g459 : q_gr f446 sr := q_gr_fr g425 (fun i9 _ => hF.z hsr (by rw [ksr]; rfl))
                    have g460 : tk_ub f446 bu B tn := tk_ub_tr g426 (fun i9 => hF.z hbu (by rw [kbu]; rfl))
                    have g461 : tk_tm f446 mo sr nm tA := tk_tm_tr g427 (hF.z hmo (by rw [kmo]; rfl)) (fun i9 h9 k9 => hF.z hsr (by rw [ksr]; exact q_inWr rfl h9 k9)) (fun i9 h9 k9 => hF.z hsr (by rw [ksr]; exact q_inWr rfl h9 k9)) (fun i9 => hF.j hnm (by rw [knm]; rfl))
                    have g462 : tk_tr f446 mo B tn := tk_tr_tr g417 (hF.z hmo (by rw [kmo]; rfl)) (hF.z hmo (by rw [kmo]; rfl)) (hF.z hmo (by rw [kmo]; rfl)) (hF.z hmo (by rw [kmo]; rfl)) (hF.j hmo (by rw [kmo]; rfl))
                    refine q_ald_n cx dX12_readsLink_86 rfl (lv_at hl 3 rfl) ?_
                    refine q_cVi (As := []) (rest := []) cx hB (fun _ h => h) hN hmo kmo (by decide) rfl (r_isGood1 l g hN hB.2.1 mo hmo kmo 3 (by decide) (by decide) z449) q_cX12_130 q_dX12_isGood (by decide) rfl rfl hl.1 rfl (Nat.le_of_ble_eq_true rfl) dX12_readsLink_87 (fun y464 H locs f463 ry464 h465 hF hB => ?_)
                    obtain ⟨rfl, qy464⟩ := h465
                    subst qy464
                    refine q_ifeq (tgt := 103) cx ⟨by decide, by decide⟩ dX12_readsLink_90 (by decide) (fun c466 => ?_) (fun c466 => ?_)
                    · refine q_ald_n cx dX12_readsLink_103 rfl (lv_at hl 3 rfl) ?_
                      refine q_cVi (As := []) (rest := []) cx hB (fun _ h => h) hN hmo kmo (by decide) rfl (r_isGood1 l g hN hB.2.1 mo hmo kmo 3 (by decide) (by decide) z449) q_cX12_130 q_dX12_isGood (by decide) rfl rfl hl.1 rfl (Nat.le_of_ble_eq_true rfl) dX12_readsLink_104 (fun y468 H locs f467 ry468 h469 hF hB => ?_)
                      obtain ⟨rfl, qy468⟩ := h469
                      subst qy468
                      refine q_ifne (tgt := 111) cx ⟨by decide, by decide⟩ dX12_readsLink_107 (by decide) (fun c470 => ?_) (fun c470 => ?_)
                      · exact absurd c470 (by omega)
                      · refine q_vret cx hr hlk hB dX12_readsLink_110 ?_
                        exact (Or.inr ⟨(q_isl z449 (by omega)), (q_isu z449 (by omega)), (tk_link_e3 (by have h7 := tk_tm_nl htm ex362; omega) (Eq.trans (Eq.symm ex384) t372) t393 (Eq.trans (Eq.symm ex406) t395) (tk_who_ok t416 t438) (Or.inl (by omega)) z449 z450), g462⟩)
                    · exact absurd c466 (by omega)
                  · refine q_ald_n cx dX12_readsLink_71 rfl (lv_at hl 3 rfl) ?_
                    refine q_ild_n cx dX12_readsLink_72 rfl (lv_at hl 1 rfl) ?_
                    refine q_ild_n cx dX12_readsLink_73 rfl (lv_at hl 0 rfl) ?_
                    refine q_cVi (As := [.int (q_i y387), .int (q_i y434)]) (rest := []) cx hB (fun _ h => h) hN hmo kmo (by decide) rfl (f_mlinkOf l g hN hB.2.1 tA mo hmo kmo y387 (by omega) (by omega) y434 (by omega) (by omega) sr hsr ksr nm hnm knm x362 (by omega) (by omega) z419 z422 z423 g425 g427) q_cX12_216 q_dX12_linkOf (by decide) rfl rfl hl.1 rfl (Nat.le_of_ble_eq_true rfl) dX12_readsLink_74 (fun y472 H locs f471 ry472 h473 hF hB => ?_)
                    rcases h473 with h474 | h475
                    · obtain ⟨rfl, ly472, uy472, t476⟩ := h474
                      refine q_iconst cx dX12_readsLink_77 ?_
                      refine q_iceq (tgt := 86) cx ⟨by omega, by omega⟩ ⟨by decide, by decide⟩ dX12_readsLink_78 (by decide) (fun c477 => ?_) (fun c477 => ?_)
                      · exact absurd c477 (by omega)
                      · refine q_ald_n cx dX12_readsLink_81 rfl (lv_at hl 3 rfl) ?_
                        refine q_iconst cx dX12_readsLink_82 ?_
                        refine q_cVv (As := [.int (q_i 3)]) (rest := []) cx hB (fun _ h => h) hN hmo kmo (by decide) rfl (f_mwrongk l g hN hB.2.1 mo hmo kmo 3 (by decide) (by decide) x406 (by omega) (by omega) 1 (by decide) (by decide) z414 z415 z412 z413) q_cX12_137 q_dX12_wrong (by decide) rfl rfl hl.1 rfl (Nat.le_of_ble_eq_true rfl) dX12_readsLink_83 (fun H locs f478 h480 hF hB => ?_)
                        obtain ⟨z481, z482⟩ := h480
                        have z483 : q_is (q_z f478 mo 3) tn := Eq.trans (hF.z hmo (by rw [kmo]; rfl)) z418
                        have z484 : q_is (q_z f478 sr 1) x362 := Eq.trans (hF.z hsr (by rw [ksr]; rfl)) z419
                        have z485 : q_is (q_z f478 sr 0) x385 := Eq.trans (hF.z hsr (by rw [ksr]; rfl)) z420
                        have z486 : q_is (q_z f478 mo 5) x406 := Eq.trans (hF.z hmo (by rw [kmo]; rfl)) z414
                        have z487 : q_is (q_z f478 mo 6) 1 := Eq.trans (hF.z hmo (by rw [kmo]; rfl)) z415
                        have z488 : q_ir (q_r f478 mo 13) sr := Eq.trans (hF.r hmo (by rw [kmo]; rfl)) z422
                        have z489 : q_ir (q_r f478 mo 18) nm := Eq.trans (hF.r hmo (by rw [kmo]; rfl)) z423
                        have z490 : q_ir (q_r f478 mo 1) bu := Eq.trans (hF.r hmo (by rw [kmo]; rfl)) z424
                        have g491 : q_gr f478 sr := q_gr_fr g425 (fun i9 _ => hF.z hsr (by rw [ksr]; rfl))
                        have g492 : tk_ub f478 bu B tn := tk_ub_tr g426 (fun i9 => hF.z hbu (by rw [kbu]; rfl))
                        have g493 : tk_tm f478 mo sr nm tA := tk_tm_tr g427 (hF.z hmo (by rw [kmo]; rfl)) (fun i9 h9 k9 => hF.z hsr (by rw [ksr]; exact q_inWr rfl h9 k9)) (fun i9 h9 k9 => hF.z hsr (by rw [ksr]; exact q_inWr rfl h9 k9)) (fun i9 => hF.j hnm (by rw [knm]; rfl))
                        have g494 : tk_tr f478 mo B tn := tk_tr_tr g417 (hF.z hmo (by rw [kmo]; rfl)) (hF.z hmo (by rw [kmo]; rfl)) (hF.z hmo (by rw [kmo]; rfl)) (hF.z hmo (by rw [kmo]; rfl)) (hF.j hmo (by rw [kmo]; rfl))
                        refine q_ald_n cx dX12_readsLink_86 rfl (lv_at hl 3 rfl) ?_
                        refine q_cVi (As := []) (rest := []) cx hB (fun _ h => h) hN hmo kmo (by decide) rfl (r_isGood1 l g hN hB.2.1 mo hmo kmo 3 (by decide) (by decide) z481) q_cX12_130 q_dX12_isGood (by decide) rfl rfl hl.1 rfl (Nat.le_of_ble_eq_true rfl) dX12_readsLink_87 (fun y496 H locs f495 ry496 h497 hF hB => ?_)
                        obtain ⟨rfl, qy496⟩ := h497
                        subst qy496
                        refine q_ifeq (tgt := 103) cx ⟨by decide, by decide⟩ dX12_readsLink_90 (by decide) (fun c498 => ?_) (fun c498 => ?_)
                        · refine q_ald_n cx dX12_readsLink_103 rfl (lv_at hl 3 rfl) ?_
                          refine q_cVi (As := []) (rest := []) cx hB (fun _ h => h) hN hmo kmo (by decide) rfl (r_isGood1 l g hN hB.2.1 mo hmo kmo 3 (by decide) (by decide) z481) q_cX12_130 q_dX12_isGood (by decide) rfl rfl hl.1 rfl (Nat.le_of_ble_eq_true rfl) dX12_readsLink_104 (fun y500 H locs f499 ry500 h501 hF hB => ?_)
                          obtain ⟨rfl, qy500⟩ := h501
                          subst qy500
                          refine q_ifne (tgt := 111) cx ⟨by decide, by decide⟩ dX12_readsLink_107 (by decide) (fun c502 => ?_) (fun c502 => ?_)
                          · exact absurd c502 (by omega)
                          · refine q_vret cx hr hlk hB dX12_readsLink_110 ?_
                            exact (Or.inr ⟨(q_isl z481 (by omega)), (q_isu z481 (by omega)), (tk_link_e3 (by have h7 := tk_tm_nl htm ex362; omega) (Eq.trans (Eq.symm ex384) t372) t393 (Eq.trans (Eq.symm ex406) t395) (tk_who_ok t416 t438) (Or.inr t476) z481 z482), g494⟩)
                        · exact absurd c498 (by omega)
                    · obtain ⟨rfl, qy472, t503⟩ := h475
                      subst qy472
                      refine q_iconst cx dX12_readsLink_77 ?_
                      refine q_iceq (tgt := 86) cx ⟨by decide, by decide⟩ ⟨by decide, by decide⟩ dX12_readsLink_78 (by decide) (fun c504 => ?_) (fun c504 => ?_)
                      · refine q_ald_n cx dX12_readsLink_86 rfl (lv_at hl 3 rfl) ?_
                        refine q_cVi (As := []) (rest := []) cx hB (fun _ h => h) hN hmo kmo (by decide) rfl (f_misGood l g hN hB.2.1 mo hmo kmo z412) q_cX12_130 q_dX12_isGood (by decide) rfl rfl hl.1 rfl (Nat.le_of_ble_eq_true rfl) dX12_readsLink_87 (fun y506 H locs f505 ry506 h507 hF hB => ?_)
                        obtain ⟨rfl, qy506⟩ := h507
                        subst qy506
                        refine q_ifeq (tgt := 103) cx ⟨by decide, by decide⟩ dX12_readsLink_90 (by decide) (fun c508 => ?_) (fun c508 => ?_)
                        · exact absurd c508 (by omega)
                        · refine q_ild_n cx dX12_readsLink_93 rfl (lv_at hl 0 rfl) ?_
                          refine q_iconst cx dX12_readsLink_94 ?_
                          refine q_icne (tgt := 103) cx ⟨by omega, by omega⟩ ⟨by decide, by decide⟩ dX12_readsLink_95 (by decide) (fun c509 => ?_) (fun c509 => ?_)
                          · refine q_ald_n cx dX12_readsLink_103 rfl (lv_at hl 3 rfl) ?_
                            refine q_cVi (As := []) (rest := []) cx hB (fun _ h => h) hN hmo kmo (by decide) rfl (f_misGood l g hN hB.2.1 mo hmo kmo z412) q_cX12_130 q_dX12_isGood (by decide) rfl rfl hl.1 rfl (Nat.le_of_ble_eq_true rfl) dX12_readsLink_104 (fun y511 H locs f510 ry511 h512 hF hB => ?_)
                            obtain ⟨rfl, qy511⟩ := h512
                            subst qy511
                            refine q_ifne (tgt := 111) cx ⟨by decide, by decide⟩ dX12_readsLink_107 (by decide) (fun c513 => ?_) (fun c513 => ?_)
                            · refine q_ald_n cx dX12_readsLink_111 rfl (lv_at hl 3 rfl) ?_
                              refine q_cVv (As := []) (rest := []) cx hB (fun _ h => h) hN hmo kmo (by decide) rfl (f_mon l g hN hB.2.1 B mo hmo kmo bu hbu kbu tn (by omega) (by omega) x406 (by omega) (by omega) z418 z414 z424 g417 g426) q_cX12_140 q_dX12_goOn (by decide) rfl rfl hl.1 rfl (Nat.le_of_ble_eq_true rfl) dX12_readsLink_112 (fun H locs f514 h516 hF hB => ?_)
                              obtain ⟨t517, g518⟩ := h516
                              have z519 : q_is (q_z f514 mo 3) tn := Eq.trans (hF.z hmo (by rw [kmo]; rfl)) z418
                              have z520 : q_is (q_z f514 sr 1) x362 := Eq.trans (hF.z hsr (by rw [ksr]; rfl)) z419
                              have z521 : q_is (q_z f514 sr 0) x385 := Eq.trans (hF.z hsr (by rw [ksr]; rfl)) z420
                              have z522 : q_is (q_z f514 mo 8) 0 := Eq.trans (hF.z hmo (by rw [kmo]; rfl)) z412
                              have z523 : q_is (q_z f514 mo 9) (-1) := Eq.trans (hF.z hmo (by rw [kmo]; rfl)) z413
                              have z524 : q_ir (q_r f514 mo 13) sr := Eq.trans (hF.r hmo (by rw [kmo]; rfl)) z422
                              have z525 : q_ir (q_r f514 mo 18) nm := Eq.trans (hF.r hmo (by rw [kmo]; rfl)) z423
                              have z526 : q_ir (q_r f514 mo 1) bu := Eq.trans (hF.r hmo (by rw [kmo]; rfl)) z424
                              have g527 : q_gr f514 sr := q_gr_fr g425 (fun i9 _ => hF.z hsr (by rw [ksr]; rfl))
                              have g528 : tk_ub f514 bu B tn := tk_ub_tr g426 (fun i9 => hF.z hbu (by rw [kbu]; rfl))
                              have g529 : tk_tm f514 mo sr nm tA := tk_tm_tr g427 (hF.z hmo (by rw [kmo]; rfl)) (fun i9 h9 k9 => hF.z hsr (by rw [ksr]; exact q_inWr rfl h9 k9)) (fun i9 h9 k9 => hF.z hsr (by rw [ksr]; exact q_inWr rfl h9 k9)) (fun i9 => hF.j hnm (by rw [knm]; rfl))
                              obtain ⟨x530, ex530⟩ : ∃ zz, q_is (q_z f514 mo 5) zz := ⟨_, q_isr _⟩
                              obtain ⟨lx530, ux530⟩ := q_isb ex530 (q_fib hB.2.1 hmo kmo (by decide) rfl)
                              obtain ⟨-, l0x530, u0x530, -, -⟩ := tk_tr_n g518 ex530
                              refine q_ald_n cx dX12_readsLink_115 rfl (lv_at hl 3 rfl) ?_
                              refine q_ild_n cx dX12_readsLink_116 rfl (lv_at hl 2 rfl) ?_
                              refine q_iconst cx dX12_readsLink_117 ?_
                              refine q_ild_n cx dX12_readsLink_118 rfl (lv_at hl 1 rfl) ?_
                              refine q_cVv (As := [.int (q_i x362), .int (q_i 0), .int (q_i y387)]) (rest := []) cx hB (fun _ h => h) hN hmo kmo (by decide) rfl (f_msetsLink0 l g hN hB.2.1 mo hmo kmo x362 (by omega) (by omega) 0 (by decide) (by decide) y387 (by omega) (by omega) sr hsr ksr z524 g527) q_cX12_219 q_dX12_setsLink (by decide) rfl rfl hl.1 rfl (Nat.le_of_ble_eq_true rfl) dX12_readsLink_119 (fun H locs f531 h533 hF hB => ?_)
                              obtain ⟨t534, t535, g536⟩ := h533
                              have z537 : q_is (q_z f531 mo 3) tn := Eq.trans (hF.z hmo (by rw [kmo]; rfl)) z519
                              have z538 : q_is (q_z f531 sr 1) x362 := Eq.trans (hF.z hsr (by rw [ksr]; rfl)) z520
                              have z539 : q_is (q_z f531 sr 0) x385 := Eq.trans (hF.z hsr (by rw [ksr]; rfl)) z521
                              have z540 : q_is (q_z f531 mo 8) 0 := Eq.trans (hF.z hmo (by rw [kmo]; rfl)) z522
                              have z541 : q_is (q_z f531 mo 9) (-1) := Eq.trans (hF.z hmo (by rw [kmo]; rfl)) z523
                              have z542 : q_is (q_z f531 mo 5) x530 := Eq.trans (hF.z hmo (by rw [kmo]; rfl)) ex530
                              have z543 : q_ir (q_r f531 mo 13) sr := Eq.trans (hF.r hmo (by rw [kmo]; rfl)) z524
                              have z544 : q_ir (q_r f531 mo 18) nm := Eq.trans (hF.r hmo (by rw [kmo]; rfl)) z525
                              have z545 : q_ir (q_r f531 mo 1) bu := Eq.trans (hF.r hmo (by rw [kmo]; rfl)) z526
                              have g546 : tk_ub f531 bu B tn := tk_ub_tr g528 (fun i9 => hF.z hbu (by rw [kbu]; rfl))
                              have g547 : tk_tr f531 mo B tn := tk_tr_tr g518 (hF.z hmo (by rw [kmo]; rfl)) (hF.z hmo (by rw [kmo]; rfl)) (hF.z hmo (by rw [kmo]; rfl)) (hF.z hmo (by rw [kmo]; rfl)) (hF.j hmo (by rw [kmo]; rfl))
                              have htm09 : tk_tm f531 mo sr nm tA := tk_tm_sl g529 (c := 5 * x362 + 90) (by have h7 := tk_tm_nl g529 z520; omega) t535 (hF.z hmo (by rw [kmo]; rfl)) (fun i9 => hF.j hnm (by rw [knm]; rfl))
                              have hl10 : q_is (q_z f531 sr 1) x362 := Eq.trans (t535 1 (by omega)) z520
                              have hl00 : q_is (q_z f531 sr 0) x385 := Eq.trans (t535 0 (by omega)) z521
                              refine q_ald_n cx dX12_readsLink_122 rfl (lv_at hl 3 rfl) ?_
                              refine q_ild_n cx dX12_readsLink_123 rfl (lv_at hl 2 rfl) ?_
                              refine q_iconst cx dX12_readsLink_124 ?_
                              refine q_ild_n cx dX12_readsLink_125 rfl (lv_at hl 0 rfl) ?_
                              refine q_cVv (As := [.int (q_i x362), .int (q_i 1), .int (q_i y434)]) (rest := []) cx hB (fun _ h => h) hN hmo kmo (by decide) rfl (f_msetsLink1 l g hN hB.2.1 mo hmo kmo x362 (by omega) (by omega) 1 (by decide) (by decide) y434 (by omega) (by omega) sr hsr ksr z543 g536) q_cX12_219 q_dX12_setsLink (by decide) rfl rfl hl.1 rfl (Nat.le_of_ble_eq_true rfl) dX12_readsLink_126 (fun H locs f548 h550 hF hB => ?_)
                              obtain ⟨t551, t552, g553⟩ := h550
                              have z554 : q_is (q_z f548 mo 3) tn := Eq.trans (hF.z hmo (by rw [kmo]; rfl)) z537
                              have z555 : q_is (q_z f548 sr 1) x362 := Eq.trans (hF.z hsr (by rw [ksr]; rfl)) hl10
                              have z556 : q_is (q_z f548 sr 0) x385 := Eq.trans (hF.z hsr (by rw [ksr]; rfl)) hl00
                              have z557 : q_is (q_z f548 mo 8) 0 := Eq.trans (hF.z hmo (by rw [kmo]; rfl)) z540
                              have z558 : q_is (q_z f548 mo 9) (-1) := Eq.trans (hF.z hmo (by rw [kmo]; rfl)) z541
                              have z559 : q_is (q_z f548 mo 5) x530 := Eq.trans (hF.z hmo (by rw [kmo]; rfl)) z542
                              have z560 : q_ir (q_r f548 mo 13) sr := Eq.trans (hF.r hmo (by rw [kmo]; rfl)) z543
                              have z561 : q_ir (q_r f548 mo 18) nm := Eq.trans (hF.r hmo (by rw [kmo]; rfl)) z544
                              have z562 : q_ir (q_r f548 mo 1) bu := Eq.trans (hF.r hmo (by rw [kmo]; rfl)) z545
                              have g563 : tk_ub f548 bu B tn := tk_ub_tr g546 (fun i9 => hF.z hbu (by rw [kbu]; rfl))
                              have g564 : tk_tr f548 mo B tn := tk_tr_tr g547 (hF.z hmo (by rw [kmo]; rfl)) (hF.z hmo (by rw [kmo]; rfl)) (hF.z hmo (by rw [kmo]; rfl)) (hF.z hmo (by rw [kmo]; rfl)) (hF.j hmo (by rw [kmo]; rfl))
                              have htm19 : tk_tm f548 mo sr nm tA := tk_tm_sl htm09 (c := 5 * x362 + 91) (by have h7 := tk_tm_nl htm09 hl10; omega) t552 (hF.z hmo (by rw [kmo]; rfl)) (fun i9 => hF.j hnm (by rw [knm]; rfl))
                              have hl11 : q_is (q_z f548 sr 1) x362 := Eq.trans (t552 1 (by omega)) hl10
                              have hl01 : q_is (q_z f548 sr 0) x385 := Eq.trans (t552 0 (by omega)) hl00
                              refine q_ald_n cx dX12_readsLink_129 rfl (lv_at hl 3 rfl) ?_
                              refine q_gX12_20 cx hB hmo kmo z560 dX12_readsLink_130 (fun hb565 kb565 => ?_)
                              refine q_iconst cx dX12_readsLink_133 ?_
                              refine lv_dup2_11 cx.1 cx.2.1 dX12_readsLink_134 rfl rfl ?_
                              refine q_iald (lo := 0) (hi := 16) (n := 658) cx hB hsr ksr (by decide) rfl rfl (by decide) (by decide) (by decide) rfl hl11 dX12_readsLink_135 (fun lb567 ub567 => ?_)
                              refine q_iconst cx dX12_readsLink_136 ?_
                              refine q_iadd cx dX12_readsLink_137 ?_
                              refine q_iast (lo := 0) (hi := 16) (n := 658) cx hB hsr ksr (by decide) rfl rfl (by decide) (by decide) (by decide) rfl ⟨by omega, by omega⟩ (by omega) (by omega) rfl dX12_readsLink_138 (fun H locs f568 ef568 z569 hB => ?_)
                              have z570 : q_is (q_z f568 mo 3) tn := by rw [ef568, q_setz (Or.inr (by decide))]; exact z554
                              have z571 : q_is (q_z f568 sr 0) x385 := by rw [ef568, q_setz (Or.inr (by decide))]; exact hl01
                              have z572 : q_is (q_z f568 mo 8) 0 := by rw [ef568, q_setz (Or.inr (by decide))]; exact z557
                              have z573 : q_is (q_z f568 mo 9) (-1) := by rw [ef568, q_setz (Or.inr (by decide))]; exact z558
                              have z574 : q_is (q_z f568 mo 5) x530 := by rw [ef568, q_setz (Or.inr (by decide))]; exact z559
                              have z575 : q_ir (q_r f568 mo 13) sr := by rw [ef568, q_setr (Or.inr (by decide))]; exact z560
                              have z576 : q_ir (q_r f568 mo 18) nm := by rw [ef568, q_setr (Or.inr (by decide))]; exact z561
                              have z577 : q_ir (q_r f568 mo 1) bu := by rw [ef568, q_setr (Or.inl (fun q => by rw [q, ksr] at kmo; exact absurd kmo (by decide)))]; exact z562
                              have g578 : q_gr f568 sr := q_gr_put g553 ef568 z569 rfl (by omega) (by omega)
                              have g579 : tk_ub f568 bu B tn := tk_ub_tr g563 (fun i9 => by rw [ef568, q_setz (Or.inl (fun q => by rw [q, ksr] at kbu; exact absurd kbu (by decide)))])
                              have g580 : tk_tr f568 mo B tn := tk_tr_tr g564 (by rw [ef568, q_setz (Or.inr (by decide))]) (by rw [ef568, q_setz (Or.inr (by decide))]) (by rw [ef568, q_setz (Or.inr (by decide))]) (by rw [ef568, q_setz (Or.inr (by decide))]) (by rw [ef568, q_setj (Or.inr (by decide))])
                              have g581 : tk_tm f568 mo sr nm (tk_al tA (Int.toNat y387) (Int.toNat y434)) := tk_tm_al htm19 (k := Int.toNat x362) (by have h7 := tk_tm_nl htm19 hl11; omega) (by omega) (tk_cla t552 t534 (by omega) (by omega)) (tk_clb t551 (by omega) (by omega)) ef568 (Eq.trans z569 (by omega)) (tk_nz 12 151 kmo ksr rfl) (tk_nz 156 151 knm ksr rfl)
                              refine q_vret cx hr hlk hB dX12_readsLink_139 ?_
                              exact (Or.inl ⟨z572, z573, ⟨(tk_al tA (Int.toNat y387) (Int.toNat y434)), tk_okp (tk_link_ok (by have h7 := tk_tm_nl htm ex362; omega) (Eq.trans (Eq.symm ex384) t372) t393 (Eq.trans (Eq.symm ex406) t395) (tk_who_ok t416 t438) (tk_nor (by omega) t503) (Eq.trans (Eq.symm ex530) t517)) z574, g581⟩, g578, g580⟩)
                            · exact absurd c513 (by omega)
                          · exact absurd c509 (by omega)
                      · exact absurd c504 (by omega)
            · obtain ⟨rfl, qy434, t582⟩ := h437
              subst qy434
              refine lv_goto (tgt := 53) cx.1 cx.2.1 dX12_readsLink_49 (by decide) ?_
              refine lv_istore_n (lv' := [(3, .int (q_i (-1))), (2, .int (q_i y387)), (1, .int (q_i x362)), (0, .ref mo)]) cx.1 cx.2.1 dX12_readsLink_53 rfl hl (by decide) rfl (fun ls hl => ?_)
              refine q_ald_n cx dX12_readsLink_54 rfl (lv_at hl 3 rfl) ?_
              refine q_cVi (As := []) (rest := []) cx hB (fun _ h => h) hN hmo kmo (by decide) rfl (f_misGood l g hN hB.2.1 mo hmo kmo z412) q_cX12_130 q_dX12_isGood (by decide) rfl rfl hl.1 rfl (Nat.le_of_ble_eq_true rfl) dX12_readsLink_55 (fun y584 H locs f583 ry584 h585 hF hB => ?_)
              obtain ⟨rfl, qy584⟩ := h585
              subst qy584
              refine q_ifeq (tgt := 86) cx ⟨by decide, by decide⟩ dX12_readsLink_58 (by decide) (fun c586 => ?_) (fun c586 => ?_)
              · exact absurd c586 (by omega)
              · refine q_ild_n cx dX12_readsLink_61 rfl (lv_at hl 0 rfl) ?_
                refine q_iconst cx dX12_readsLink_62 ?_
                refine q_iceq (tgt := 86) cx ⟨by decide, by decide⟩ ⟨by decide, by decide⟩ dX12_readsLink_63 (by decide) (fun c587 => ?_) (fun c587 => ?_)
                · refine q_ald_n cx dX12_readsLink_86 rfl (lv_at hl 3 rfl) ?_
                  refine q_cVi (As := []) (rest := []) cx hB (fun _ h => h) hN hmo kmo (by decide) rfl (f_misGood l g hN hB.2.1 mo hmo kmo z412) q_cX12_130 q_dX12_isGood (by decide) rfl rfl hl.1 rfl (Nat.le_of_ble_eq_true rfl) dX12_readsLink_87 (fun y589 H locs f588 ry589 h590 hF hB => ?_)
                  obtain ⟨rfl, qy589⟩ := h590
                  subst qy589
                  refine q_ifeq (tgt := 103) cx ⟨by decide, by decide⟩ dX12_readsLink_90 (by decide) (fun c591 => ?_) (fun c591 => ?_)
                  · exact absurd c591 (by omega)
                  · refine q_ild_n cx dX12_readsLink_93 rfl (lv_at hl 0 rfl) ?_
                    refine q_iconst cx dX12_readsLink_94 ?_
                    refine q_icne (tgt := 103) cx ⟨by decide, by decide⟩ ⟨by decide, by decide⟩ dX12_readsLink_95 (by decide) (fun c592 => ?_) (fun c592 => ?_)
                    · exact absurd c592 (by omega)
                    · refine q_ald_n cx dX12_readsLink_98 rfl (lv_at hl 3 rfl) ?_
                      refine q_iconst cx dX12_readsLink_99 ?_
                      refine q_cVv (As := [.int (q_i 4)]) (rest := []) cx hB (fun _ h => h) hN hmo kmo (by decide) rfl (f_mwrongk l g hN hB.2.1 mo hmo kmo 4 (by decide) (by decide) x406 (by omega) (by omega) 1 (by decide) (by decide) z414 z415 z412 z413) q_cX12_137 q_dX12_wrong (by decide) rfl rfl hl.1 rfl (Nat.le_of_ble_eq_true rfl) dX12_readsLink_100 (fun H locs f593 h595 hF hB => ?_)
                      obtain ⟨z596, z597⟩ := h595
                      have z598 : q_is (q_z f593 mo 3) tn := Eq.trans (hF.z hmo (by rw [kmo]; rfl)) z418
                      have z599 : q_is (q_z f593 sr 1) x362 := Eq.trans (hF.z hsr (by rw [ksr]; rfl)) z419
                      have z600 : q_is (q_z f593 sr 0) x385 := Eq.trans (hF.z hsr (by rw [ksr]; rfl)) z420
                      have z601 : q_is (q_z f593 mo 5) x406 := Eq.trans (hF.z hmo (by rw [kmo]; rfl)) z414
                      have z602 : q_is (q_z f593 mo 6) 1 := Eq.trans (hF.z hmo (by rw [kmo]; rfl)) z415
                      have z603 : q_ir (q_r f593 mo 13) sr := Eq.trans (hF.r hmo (by rw [kmo]; rfl)) z422
                      have z604 : q_ir (q_r f593 mo 18) nm := Eq.trans (hF.r hmo (by rw [kmo]; rfl)) z423
                      have z605 : q_ir (q_r f593 mo 1) bu := Eq.trans (hF.r hmo (by rw [kmo]; rfl)) z424
                      have g606 : q_gr f593 sr := q_gr_fr g425 (fun i9 _ => hF.z hsr (by rw [ksr]; rfl))
                      have g607 : tk_ub f593 bu B tn := tk_ub_tr g426 (fun i9 => hF.z hbu (by rw [kbu]; rfl))
                      have g608 : tk_tm f593 mo sr nm tA := tk_tm_tr g427 (hF.z hmo (by rw [kmo]; rfl)) (fun i9 h9 k9 => hF.z hsr (by rw [ksr]; exact q_inWr rfl h9 k9)) (fun i9 h9 k9 => hF.z hsr (by rw [ksr]; exact q_inWr rfl h9 k9)) (fun i9 => hF.j hnm (by rw [knm]; rfl))
                      have g609 : tk_tr f593 mo B tn := tk_tr_tr g417 (hF.z hmo (by rw [kmo]; rfl)) (hF.z hmo (by rw [kmo]; rfl)) (hF.z hmo (by rw [kmo]; rfl)) (hF.z hmo (by rw [kmo]; rfl)) (hF.j hmo (by rw [kmo]; rfl))
                      refine q_ald_n cx dX12_readsLink_103 rfl (lv_at hl 3 rfl) ?_
                      refine q_cVi (As := []) (rest := []) cx hB (fun _ h => h) hN hmo kmo (by decide) rfl (r_isGood1 l g hN hB.2.1 mo hmo kmo 4 (by decide) (by decide) z596) q_cX12_130 q_dX12_isGood (by decide) rfl rfl hl.1 rfl (Nat.le_of_ble_eq_true rfl) dX12_readsLink_104 (fun y611 H locs f610 ry611 h612 hF hB => ?_)
                      obtain ⟨rfl, qy611⟩ := h612
                      subst qy611
                      refine q_ifne (tgt := 111) cx ⟨by decide, by decide⟩ dX12_readsLink_107 (by decide) (fun c613 => ?_) (fun c613 => ?_)
                      · exact absurd c613 (by omega)
                      · refine q_vret cx hr hlk hB dX12_readsLink_110 ?_
                        exact (Or.inr ⟨(q_isl z596 (by omega)), (q_isu z596 (by omega)), (tk_link_e2 (by have h7 := tk_tm_nl htm ex362; omega) (Eq.trans (Eq.symm ex384) t372) t393 (Eq.trans (Eq.symm ex406) t395) (tk_who_e4 t416 t582 z596 z597)), g609⟩)
                · exact absurd c587 (by omega)
        · obtain ⟨z614, z615, t616, g617⟩ := h411
          have z618 : q_is (q_z f407 mo 3) tn := Eq.trans (hF.z hmo (by rw [kmo]; rfl)) z397
          have z619 : q_is (q_z f407 sr 1) x362 := Eq.trans (hF.z hsr (by rw [ksr]; rfl)) z398
          have z620 : q_is (q_z f407 sr 0) x385 := Eq.trans (hF.z hsr (by rw [ksr]; rfl)) z399
          have z621 : q_is (q_z f407 mo 5) x406 := Eq.trans (hF.z hmo (by rw [kmo]; rfl)) ex406
          have z622 : q_ir (q_r f407 mo 13) sr := Eq.trans (hF.r hmo (by rw [kmo]; rfl)) z400
          have z623 : q_ir (q_r f407 mo 18) nm := Eq.trans (hF.r hmo (by rw [kmo]; rfl)) z401
          have z624 : q_ir (q_r f407 mo 1) bu := Eq.trans (hF.r hmo (by rw [kmo]; rfl)) z402
          have g625 : q_gr f407 sr := q_gr_fr g403 (fun i9 _ => hF.z hsr (by rw [ksr]; rfl))
          have g626 : tk_ub f407 bu B tn := tk_ub_tr g404 (fun i9 => hF.z hbu (by rw [kbu]; rfl))
          have g627 : tk_tm f407 mo sr nm tA := tk_tm_tr g405 (hF.z hmo (by rw [kmo]; rfl)) (fun i9 h9 k9 => hF.z hsr (by rw [ksr]; exact q_inWr rfl h9 k9)) (fun i9 h9 k9 => hF.z hsr (by rw [ksr]; exact q_inWr rfl h9 k9)) (fun i9 => hF.j hnm (by rw [knm]; rfl))
          have g628 : tk_tr f407 mo B tn := tk_tr_tr g396 (hF.z hmo (by rw [kmo]; rfl)) (hF.z hmo (by rw [kmo]; rfl)) (hF.z hmo (by rw [kmo]; rfl)) (hF.z hmo (by rw [kmo]; rfl)) (hF.j hmo (by rw [kmo]; rfl))
          refine q_ald_n cx dX12_readsLink_38 rfl (lv_at hl 2 rfl) ?_
          refine q_cVi (As := []) (rest := []) cx hB (fun _ h => h) hN hmo kmo (by decide) rfl (r_isGood1 l g hN hB.2.1 mo hmo kmo 1 (by decide) (by decide) z614) q_cX12_130 q_dX12_isGood (by decide) rfl rfl hl.1 rfl (Nat.le_of_ble_eq_true rfl) dX12_readsLink_39 (fun y630 H locs f629 ry630 h631 hF hB => ?_)
          obtain ⟨rfl, qy630⟩ := h631
          subst qy630
          refine q_ifeq (tgt := 52) cx ⟨by decide, by decide⟩ dX12_readsLink_42 (by decide) (fun c632 => ?_) (fun c632 => ?_)
          · refine q_iconst cx dX12_readsLink_52 ?_
            refine lv_istore_n (lv' := [(3, .int (q_i (-1))), (2, .int (q_i y387)), (1, .int (q_i x362)), (0, .ref mo)]) cx.1 cx.2.1 dX12_readsLink_53 rfl hl (by decide) rfl (fun ls hl => ?_)
            refine q_ald_n cx dX12_readsLink_54 rfl (lv_at hl 3 rfl) ?_
            refine q_cVi (As := []) (rest := []) cx hB (fun _ h => h) hN hmo kmo (by decide) rfl (r_isGood1 l g hN hB.2.1 mo hmo kmo 1 (by decide) (by decide) z614) q_cX12_130 q_dX12_isGood (by decide) rfl rfl hl.1 rfl (Nat.le_of_ble_eq_true rfl) dX12_readsLink_55 (fun y634 H locs f633 ry634 h635 hF hB => ?_)
            obtain ⟨rfl, qy634⟩ := h635
            subst qy634
            refine q_ifeq (tgt := 86) cx ⟨by decide, by decide⟩ dX12_readsLink_58 (by decide) (fun c636 => ?_) (fun c636 => ?_)
            · refine q_ald_n cx dX12_readsLink_86 rfl (lv_at hl 3 rfl) ?_
              refine q_cVi (As := []) (rest := []) cx hB (fun _ h => h) hN hmo kmo (by decide) rfl (r_isGood1 l g hN hB.2.1 mo hmo kmo 1 (by decide) (by decide) z614) q_cX12_130 q_dX12_isGood (by decide) rfl rfl hl.1 rfl (Nat.le_of_ble_eq_true rfl) dX12_readsLink_87 (fun y638 H locs f637 ry638 h639 hF hB => ?_)
              obtain ⟨rfl, qy638⟩ := h639
              subst qy638
              refine q_ifeq (tgt := 103) cx ⟨by decide, by decide⟩ dX12_readsLink_90 (by decide) (fun c640 => ?_) (fun c640 => ?_)
              · refine q_ald_n cx dX12_readsLink_103 rfl (lv_at hl 3 rfl) ?_
                refine q_cVi (As := []) (rest := []) cx hB (fun _ h => h) hN hmo kmo (by decide) rfl (r_isGood1 l g hN hB.2.1 mo hmo kmo 1 (by decide) (by decide) z614) q_cX12_130 q_dX12_isGood (by decide) rfl rfl hl.1 rfl (Nat.le_of_ble_eq_true rfl) dX12_readsLink_104 (fun y642 H locs f641 ry642 h643 hF hB => ?_)
                obtain ⟨rfl, qy642⟩ := h643
                subst qy642
                refine q_ifne (tgt := 111) cx ⟨by decide, by decide⟩ dX12_readsLink_107 (by decide) (fun c644 => ?_) (fun c644 => ?_)
                · exact absurd c644 (by omega)
                · refine q_vret cx hr hlk hB dX12_readsLink_110 ?_
                  exact (Or.inr ⟨(q_isl z614 (by omega)), (q_isu z614 (by omega)), (tk_link_e2 (by have h7 := tk_tm_nl htm ex362; omega) (Eq.trans (Eq.symm ex384) t372) t393 (Eq.trans (Eq.symm ex406) t395) (tk_who_e1 t616 z614 z615)), g617⟩)
              · exact absurd c640 (by omega)
            · exact absurd c636 (by omega)
          · exact absurd c632 (by omega)
      · obtain ⟨qy387, lz645, uz645, t646, g647⟩ := h390
        have z648 : q_is (q_z f386 mo 3) tn := Eq.trans (hF.z hmo (by rw [kmo]; rfl)) z374
        have z649 : q_is (q_z f386 sr 1) x362 := Eq.trans (hF.z hsr (by rw [ksr]; rfl)) z377
        have z650 : q_is (q_z f386 sr 0) x385 := Eq.trans (hF.z hsr (by rw [ksr]; rfl)) ex385
        have z651 : q_ir (q_r f386 mo 13) sr := Eq.trans (hF.r hmo (by rw [kmo]; rfl)) z378
        have z652 : q_ir (q_r f386 mo 18) nm := Eq.trans (hF.r hmo (by rw [kmo]; rfl)) z379
        have z653 : q_ir (q_r f386 mo 1) bu := Eq.trans (hF.r hmo (by rw [kmo]; rfl)) z380
        have g654 : q_gr f386 sr := q_gr_fr g381 (fun i9 _ => hF.z hsr (by rw [ksr]; rfl))
        have g655 : tk_ub f386 bu B tn := tk_ub_tr g382 (fun i9 => hF.z hbu (by rw [kbu]; rfl))
        have g656 : tk_tm f386 mo sr nm tA := tk_tm_tr g383 (hF.z hmo (by rw [kmo]; rfl)) (fun i9 h9 k9 => hF.z hsr (by rw [ksr]; exact q_inWr rfl h9 k9)) (fun i9 h9 k9 => hF.z hsr (by rw [ksr]; exact q_inWr rfl h9 k9)) (fun i9 => hF.j hnm (by rw [knm]; rfl))
        obtain ⟨x657, ex657⟩ : ∃ zz, q_is (q_z f386 mo 8) zz := ⟨_, q_isr _⟩
        obtain ⟨lx657, ux657⟩ := q_isb ex657 ⟨lz645, uz645⟩
        subst qy387
        obtain ⟨x658, ex658⟩ : ∃ zz, q_is (q_z f386 mo 5) zz := ⟨_, q_isr _⟩
        obtain ⟨lx658, ux658⟩ := q_isb ex658 (q_fib hB.2.1 hmo kmo (by decide) rfl)
        obtain ⟨x659, ex659⟩ : ∃ zz, q_is (q_z f386 mo 9) zz := ⟨_, q_isr _⟩
        obtain ⟨lx659, ux659⟩ := q_isb ex659 (q_fib hB.2.1 hmo kmo (by decide) rfl)
        obtain ⟨-, l0x658, u0x658, -, -⟩ := tk_tr_n g647 ex658
        refine lv_istore_n (lv' := [(2, .int (q_i (-1))), (1, .int (q_i x362)), (0, .ref mo)]) cx.1 cx.2.1 dX12_readsLink_33 rfl hl (by decide) rfl (fun ls hl => ?_)
        refine q_ald_n cx dX12_readsLink_34 rfl (lv_at hl 2 rfl) ?_
        refine q_cVv (As := []) (rest := []) cx hB (fun _ h => h) hN hmo kmo (by decide) rfl (r_mustBeWord1 l g hN hB.2.1 mo hmo kmo x657 (by omega) (by omega) ex657) q_cX12_175 q_dX12_mustBeWord (by decide) rfl rfl hl.1 rfl (Nat.le_of_ble_eq_true rfl) dX12_readsLink_35 (fun H locs f660 h662 hF hB => ?_)
        obtain rfl := h662
        refine q_ald_n cx dX12_readsLink_38 rfl (lv_at hl 2 rfl) ?_
        refine q_cVi (As := []) (rest := []) cx hB (fun _ h => h) hN hmo kmo (by decide) rfl (r_isGood1 l g hN hB.2.1 mo hmo kmo x657 (by omega) (by omega) ex657) q_cX12_130 q_dX12_isGood (by decide) rfl rfl hl.1 rfl (Nat.le_of_ble_eq_true rfl) dX12_readsLink_39 (fun y664 H locs f663 ry664 h665 hF hB => ?_)
        obtain ⟨rfl, qy664⟩ := h665
        subst qy664
        refine q_ifeq (tgt := 52) cx ⟨by decide, by decide⟩ dX12_readsLink_42 (by decide) (fun c666 => ?_) (fun c666 => ?_)
        · refine q_iconst cx dX12_readsLink_52 ?_
          refine lv_istore_n (lv' := [(3, .int (q_i (-1))), (2, .int (q_i (-1))), (1, .int (q_i x362)), (0, .ref mo)]) cx.1 cx.2.1 dX12_readsLink_53 rfl hl (by decide) rfl (fun ls hl => ?_)
          refine q_ald_n cx dX12_readsLink_54 rfl (lv_at hl 3 rfl) ?_
          refine q_cVi (As := []) (rest := []) cx hB (fun _ h => h) hN hmo kmo (by decide) rfl (r_isGood1 l g hN hB.2.1 mo hmo kmo x657 (by omega) (by omega) ex657) q_cX12_130 q_dX12_isGood (by decide) rfl rfl hl.1 rfl (Nat.le_of_ble_eq_true rfl) dX12_readsLink_55 (fun y668 H locs f667 ry668 h669 hF hB => ?_)
          obtain ⟨rfl, qy668⟩ := h669
          subst qy668
          refine q_ifeq (tgt := 86) cx ⟨by decide, by decide⟩ dX12_readsLink_58 (by decide) (fun c670 => ?_) (fun c670 => ?_)
          · refine q_ald_n cx dX12_readsLink_86 rfl (lv_at hl 3 rfl) ?_
            refine q_cVi (As := []) (rest := []) cx hB (fun _ h => h) hN hmo kmo (by decide) rfl (r_isGood1 l g hN hB.2.1 mo hmo kmo x657 (by omega) (by omega) ex657) q_cX12_130 q_dX12_isGood (by decide) rfl rfl hl.1 rfl (Nat.le_of_ble_eq_true rfl) dX12_readsLink_87 (fun y672 H locs f671 ry672 h673 hF hB => ?_)
            obtain ⟨rfl, qy672⟩ := h673
            subst qy672
            refine q_ifeq (tgt := 103) cx ⟨by decide, by decide⟩ dX12_readsLink_90 (by decide) (fun c674 => ?_) (fun c674 => ?_)
            · refine q_ald_n cx dX12_readsLink_103 rfl (lv_at hl 3 rfl) ?_
              refine q_cVi (As := []) (rest := []) cx hB (fun _ h => h) hN hmo kmo (by decide) rfl (r_isGood1 l g hN hB.2.1 mo hmo kmo x657 (by omega) (by omega) ex657) q_cX12_130 q_dX12_isGood (by decide) rfl rfl hl.1 rfl (Nat.le_of_ble_eq_true rfl) dX12_readsLink_104 (fun y676 H locs f675 ry676 h677 hF hB => ?_)
              obtain ⟨rfl, qy676⟩ := h677
              subst qy676
              refine q_ifne (tgt := 111) cx ⟨by decide, by decide⟩ dX12_readsLink_107 (by decide) (fun c678 => ?_) (fun c678 => ?_)
              · exact absurd c678 (by omega)
              · refine q_vret cx hr hlk hB dX12_readsLink_110 ?_
                exact (Or.inr ⟨(q_isl ex657 (by omega)), (q_isu ex657 (by omega)), (tk_erp (tk_link_e1 (by have h7 := tk_tm_nl htm ex362; omega) (Eq.trans (Eq.symm ex384) t372) (tk_erx t646 ex657 ex659)) ex657 ex659), g647⟩)
            · exact absurd c674 (by omega)
          · exact absurd c670 (by omega)
        · exact absurd c666 (by omega)
  · refine q_ald_n cx dX12_readsLink_13 rfl (lv_at hl 1 rfl) ?_
    refine q_iconst cx dX12_readsLink_14 ?_
    refine q_cVv (As := [.int (q_i 5)]) (rest := []) cx hB (fun _ h => h) hN hmo kmo (by decide) rfl (f_mwrongk l g hN hB.2.1 mo hmo kmo 5 (by decide) (by decide) ss (by omega) (by omega) so9 (by omega) (by omega) hf1 hf4 hf2 hf3) q_cX12_137 q_dX12_wrong (by decide) rfl rfl hl.1 rfl (Nat.le_of_ble_eq_true rfl) dX12_readsLink_15 (fun H locs f679 h681 hF hB => ?_)
    obtain ⟨z682, z683⟩ := h681
    have z684 : q_is (q_z f679 mo 3) tn := Eq.trans (hF.z hmo (by rw [kmo]; rfl)) hf0
    have z685 : q_is (q_z f679 mo 5) ss := Eq.trans (hF.z hmo (by rw [kmo]; rfl)) hf1
    have z686 : q_is (q_z f679 mo 6) so9 := Eq.trans (hF.z hmo (by rw [kmo]; rfl)) hf4
    have z687 : q_is (q_z f679 sr 1) x362 := Eq.trans (hF.z hsr (by rw [ksr]; rfl)) ex362
    have z688 : q_ir (q_r f679 mo 13) sr := Eq.trans (hF.r hmo (by rw [kmo]; rfl)) hr0
    have z689 : q_ir (q_r f679 mo 18) nm := Eq.trans (hF.r hmo (by rw [kmo]; rfl)) hr1
    have z690 : q_ir (q_r f679 mo 1) bu := Eq.trans (hF.r hmo (by rw [kmo]; rfl)) hr2
    have g691 : q_gr f679 sr := q_gr_fr hgr (fun i9 _ => hF.z hsr (by rw [ksr]; rfl))
    have g692 : tk_tr f679 mo B tn := tk_tr_tr htr (hF.z hmo (by rw [kmo]; rfl)) (hF.z hmo (by rw [kmo]; rfl)) (hF.z hmo (by rw [kmo]; rfl)) (hF.z hmo (by rw [kmo]; rfl)) (hF.j hmo (by rw [kmo]; rfl))
    have g693 : tk_ub f679 bu B tn := tk_ub_tr hub (fun i9 => hF.z hbu (by rw [kbu]; rfl))
    have g694 : tk_tm f679 mo sr nm tA := tk_tm_tr htm (hF.z hmo (by rw [kmo]; rfl)) (fun i9 h9 k9 => hF.z hsr (by rw [ksr]; exact q_inWr rfl h9 k9)) (fun i9 h9 k9 => hF.z hsr (by rw [ksr]; exact q_inWr rfl h9 k9)) (fun i9 => hF.j hnm (by rw [knm]; rfl))
    refine q_ald_n cx dX12_readsLink_18 rfl (lv_at hl 1 rfl) ?_
    refine q_cVi (As := []) (rest := []) cx hB (fun _ h => h) hN hmo kmo (by decide) rfl (r_isGood1 l g hN hB.2.1 mo hmo kmo 5 (by decide) (by decide) z682) q_cX12_130 q_dX12_isGood (by decide) rfl rfl hl.1 rfl (Nat.le_of_ble_eq_true rfl) dX12_readsLink_19 (fun y696 H locs f695 ry696 h697 hF hB => ?_)
    obtain ⟨rfl, qy696⟩ := h697
    subst qy696
    refine q_ifeq (tgt := 29) cx ⟨by decide, by decide⟩ dX12_readsLink_22 (by decide) (fun c698 => ?_) (fun c698 => ?_)
    · refine q_ald_n cx dX12_readsLink_29 rfl (lv_at hl 1 rfl) ?_
      refine q_cVi (As := []) (rest := []) cx hB (fun _ h => h) hN hmo kmo (by decide) rfl (r_told1 l g hN hB.2.1 mo hmo kmo 5 (by decide) (by decide) z682) q_cX12_213 q_dX12_told (by decide) rfl rfl hl.1 rfl (Nat.le_of_ble_eq_true rfl) dX12_readsLink_30 (fun y700 H locs f699 ry700 h701 hF hB => ?_)
      obtain ⟨rfl, qy700⟩ := h701
      subst qy700
      refine lv_istore_n (lv' := [(2, .int (q_i (-1))), (1, .int (q_i x362)), (0, .ref mo)]) cx.1 cx.2.1 dX12_readsLink_33 rfl hl (by decide) rfl (fun ls hl => ?_)
      refine q_ald_n cx dX12_readsLink_34 rfl (lv_at hl 2 rfl) ?_
      refine q_cVv (As := []) (rest := []) cx hB (fun _ h => h) hN hmo kmo (by decide) rfl (r_mustBeWord1 l g hN hB.2.1 mo hmo kmo 5 (by decide) (by decide) z682) q_cX12_175 q_dX12_mustBeWord (by decide) rfl rfl hl.1 rfl (Nat.le_of_ble_eq_true rfl) dX12_readsLink_35 (fun H locs f702 h704 hF hB => ?_)
      obtain rfl := h704
      refine q_ald_n cx dX12_readsLink_38 rfl (lv_at hl 2 rfl) ?_
      refine q_cVi (As := []) (rest := []) cx hB (fun _ h => h) hN hmo kmo (by decide) rfl (r_isGood1 l g hN hB.2.1 mo hmo kmo 5 (by decide) (by decide) z682) q_cX12_130 q_dX12_isGood (by decide) rfl rfl hl.1 rfl (Nat.le_of_ble_eq_true rfl) dX12_readsLink_39 (fun y706 H locs f705 ry706 h707 hF hB => ?_)
      obtain ⟨rfl, qy706⟩ := h707
      subst qy706
      refine q_ifeq (tgt := 52) cx ⟨by decide, by decide⟩ dX12_readsLink_42 (by decide) (fun c708 => ?_) (fun c708 => ?_)
      · refine q_iconst cx dX12_readsLink_52 ?_
        refine lv_istore_n (lv' := [(3, .int (q_i (-1))), (2, .int (q_i (-1))), (1, .int (q_i x362)), (0, .ref mo)]) cx.1 cx.2.1 dX12_readsLink_53 rfl hl (by decide) rfl (fun ls hl => ?_)
        refine q_ald_n cx dX12_readsLink_54 rfl (lv_at hl 3 rfl) ?_
        refine q_cVi (As := []) (rest := []) cx hB (fun _ h => h) hN hmo kmo (by decide) rfl (r_isGood1 l g hN hB.2.1 mo hmo kmo 5 (by decide) (by decide) z682) q_cX12_130 q_dX12_isGood (by decide) rfl rfl hl.1 rfl (Nat.le_of_ble_eq_true rfl) dX12_readsLink_55 (fun y710 H locs f709 ry710 h711 hF hB => ?_)
        obtain ⟨rfl, qy710⟩ := h711
        subst qy710
        refine q_ifeq (tgt := 86) cx ⟨by decide, by decide⟩ dX12_readsLink_58 (by decide) (fun c712 => ?_) (fun c712 => ?_)
        · refine q_ald_n cx dX12_readsLink_86 rfl (lv_at hl 3 rfl) ?_
          refine q_cVi (As := []) (rest := []) cx hB (fun _ h => h) hN hmo kmo (by decide) rfl (r_isGood1 l g hN hB.2.1 mo hmo kmo 5 (by decide) (by decide) z682) q_cX12_130 q_dX12_isGood (by decide) rfl rfl hl.1 rfl (Nat.le_of_ble_eq_true rfl) dX12_readsLink_87 (fun y714 H locs f713 ry714 h715 hF hB => ?_)
          obtain ⟨rfl, qy714⟩ := h715
          subst qy714
          refine q_ifeq (tgt := 103) cx ⟨by decide, by decide⟩ dX12_readsLink_90 (by decide) (fun c716 => ?_) (fun c716 => ?_)
          · refine q_ald_n cx dX12_readsLink_103 rfl (lv_at hl 3 rfl) ?_
            refine q_cVi (As := []) (rest := []) cx hB (fun _ h => h) hN hmo kmo (by decide) rfl (r_isGood1 l g hN hB.2.1 mo hmo kmo 5 (by decide) (by decide) z682) q_cX12_130 q_dX12_isGood (by decide) rfl rfl hl.1 rfl (Nat.le_of_ble_eq_true rfl) dX12_readsLink_104 (fun y718 H locs f717 ry718 h719 hF hB => ?_)
            obtain ⟨rfl, qy718⟩ := h719
            subst qy718
            refine q_ifne (tgt := 111) cx ⟨by decide, by decide⟩ dX12_readsLink_107 (by decide) (fun c720 => ?_) (fun c720 => ?_)
            · exact absurd c720 (by omega)
            · refine q_vret cx hr hlk hB dX12_readsLink_110 ?_
              exact (Or.inr ⟨(q_isl z682 (by omega)), (q_isu z682 (by omega)), (tk_link_e5 (by have h7 := tk_tm_nl htm ex362; omega) z682 z683), g692⟩)
          · exact absurd c716 (by omega)
        · exact absurd c712 (by omega)
      · exact absurd c708 (by omega)
    · exact absurd c698 (by omega)
