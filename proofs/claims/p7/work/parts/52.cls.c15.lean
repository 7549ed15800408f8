set_option maxHeartbeats 4000000 in
set_option maxRecDepth 100000 in
theorem g_X2_takeBack (l : Launch) (g : q_G) {K : Nat → Nat} {L : List Nat} (hN : L.Nodup) {f : Nat → va_E} (hT : q_Ty g K L f) (v : Nat) (hv : v ∈ L) (kv : K v = 2) (p0 : Nat) (hp0 : p0 ∈ L) (kp0 : K p0 = 10) : q_Ct l g K L yX2_takeBack cX2_takeBack 2 (some .boolean) 2 43 [.ref v, .ref p0] f [(2, 1, 2), (3, 0, 4), (4, 0, 7), (5, 0, 8), (10, 3, 12)] (q_Pi (fun (z : Int) (f1 : Nat → va_E) => 0 ≤ z ∧ z ≤ 1)) := by
  refine q_ofb (by decide +kernel) hN hT (Nat.le_of_ble_eq_true rfl) ?_
  intro p e s m below meth c ls cx hr hlk hB hl
  have hl : lv_has ls 2 [(0, .ref v), (1, .ref p0)] := hl
  obtain ⟨H, hH⟩ : ∃ H : Heap, H = s.heap := ⟨_, rfl⟩
  obtain ⟨locs, hlocs⟩ : ∃ z : List Loc, z = [] := ⟨_, rfl⟩
  rw [← hH, ← hlocs] at hB
  rw [← hH, ← hlocs]
  refine q_ald_n cx dX2_takeBack_0 rfl (lv_at hl 0 rfl) ?_
  obtain ⟨x72, ex72⟩ : ∃ zz, q_is (q_z f v 2) zz := ⟨_, q_isr _⟩
  refine q_gX2_16 cx hB hv kv ex72 dX2_takeBack_1 (fun lb73 ub73 => ?_)
  refine q_ifne (tgt := 9) cx ⟨by omega, by omega⟩ dX2_takeBack_4 (by decide) (fun c74 => ?_) (fun c74 => ?_)
  · refine q_ald_n cx dX2_takeBack_9 rfl (lv_at hl 0 rfl) ?_
    refine q_ald_n cx dX2_takeBack_10 rfl (lv_at hl 0 rfl) ?_
    obtain ⟨x75, ex75⟩ : ∃ zz, q_is (q_z f v 1) zz := ⟨_, q_isr _⟩
    refine q_gX2_20 cx hB hv kv ex75 dX2_takeBack_11 (fun lb76 ub76 => ?_)
    refine q_ifle (tgt := 38) cx ⟨by omega, by omega⟩ dX2_takeBack_14 (by decide) (fun c77 => ?_) (fun c77 => ?_)
    · refine q_ald_n cx dX2_takeBack_38 rfl (lv_at hl 0 rfl) ?_
      obtain ⟨p78, ep78⟩ : ∃ zz, q_ir (q_r f v 0) zz := ⟨_, q_irr _⟩
      refine q_gX2_11 cx hB hv kv ep78 dX2_takeBack_39 (fun hb79 kb79 => ?_)
      refine q_alen (n := 6) cx hB hb79 kb79 (by decide) rfl 8 rfl rfl dX2_takeBack_42 ?_
      refine q_iconst cx dX2_takeBack_43 ?_
      refine q_isub cx dX2_takeBack_44 ?_
      refine q_pX2_20 cx hB hv kv ⟨by decide, by decide⟩ (by decide) (by decide) rfl dX2_takeBack_45 (fun H locs f80 ef80 z81 hB => ?_)
      have z82 : q_ir (q_r f80 v 0) p78 := by rw [ef80, q_setr (Or.inr (by decide))]; exact ep78
      refine q_ald_n cx dX2_takeBack_48 rfl (lv_at hl 1 rfl) ?_
      refine q_ald_n cx dX2_takeBack_49 rfl (lv_at hl 0 rfl) ?_
      refine q_gX2_11 cx hB hv kv z82 dX2_takeBack_50 (fun hb83 kb83 => ?_)
      refine q_ald_n cx dX2_takeBack_53 rfl (lv_at hl 0 rfl) ?_
      refine q_gX2_20 cx hB hv kv z81 dX2_takeBack_54 (fun lb84 ub84 => ?_)
      obtain ⟨p85, ep85⟩ : ∃ zz, q_ir (q_r f80 p78 (Int.toNat (6 - 1))) zz := ⟨_, q_irr _⟩
      refine q_aald (k2 := 16) (n := 6) cx hB hb79 kb79 (by decide) rfl 8 rfl (by decide) rfl (by decide) (by decide) (by decide) rfl ep85 dX2_takeBack_57 (fun hb86 kb86 => ?_)
      refine q_cVv (As := [.ref p85]) (rest := []) cx hB (fun _ h => h) hN hp0 kp0 (by decide) rfl (g_X10_copyFrom_04 l g hN hB.2.1 p0 hp0 kp0 p85 hb86 kb86) q_cX2_23 q_dX10_copyFrom (by decide) rfl rfl hl.1 rfl (Nat.le_of_ble_eq_true rfl) dX2_takeBack_58 (fun H locs f87 h89 hF hB => ?_)
      have z90 : q_is (q_z f87 v 1) (6 - 1) := Eq.trans (hF.z hv (by rw [kv]; rfl)) z81
      have z91 : q_ir (q_r f87 v 0) p78 := Eq.trans (hF.r hv (by rw [kv]; rfl)) z82
      refine q_ald_n cx dX2_takeBack_61 rfl (lv_at hl 0 rfl) ?_
      refine lv_dup cx.1 cx.2.1 dX2_takeBack_62 rfl ?_
      obtain ⟨x92, ex92⟩ : ∃ zz, q_is (q_z f87 v 2) zz := ⟨_, q_isr _⟩
      refine q_gX2_16 cx hB hv kv ex92 dX2_takeBack_63 (fun lb93 ub93 => ?_)
      refine q_iconst cx dX2_takeBack_66 ?_
      refine q_isub cx dX2_takeBack_67 ?_
      refine q_any (fun y94 ry94 ey94 => ?_)
      refine q_pX2_16 cx hB hv kv ⟨by omega, by omega⟩ (by omega) (by omega) rfl dX2_takeBack_68 (fun H locs f95 ef95 z96 hB => ?_)
      have z97 : q_is (q_z f95 v 1) (6 - 1) := by rw [ef95, q_setz (Or.inr (by decide))]; exact z90
      have z98 : q_ir (q_r f95 v 0) p78 := by rw [ef95, q_setr (Or.inr (by decide))]; exact z91
      refine q_iconst cx dX2_takeBack_71 ?_
      refine q_zret cx hr hlk hB dX2_takeBack_72 (by decide) (by decide) ?_
      exact ⟨(by decide), (by decide)⟩
    · refine q_ald_n cx dX2_takeBack_17 rfl (lv_at hl 0 rfl) ?_
      refine q_gX2_20 cx hB hv kv ex75 dX2_takeBack_18 (fun lb99 ub99 => ?_)
      refine q_ald_n cx dX2_takeBack_21 rfl (lv_at hl 0 rfl) ?_
      obtain ⟨p100, ep100⟩ : ∃ zz, q_ir (q_r f v 0) zz := ⟨_, q_irr _⟩
      refine q_gX2_11 cx hB hv kv ep100 dX2_takeBack_22 (fun hb101 kb101 => ?_)
      refine q_alen (n := 6) cx hB hb101 kb101 (by decide) rfl 8 rfl rfl dX2_takeBack_25 ?_
      refine q_icgt (tgt := 38) cx ⟨by omega, by omega⟩ ⟨by decide, by decide⟩ dX2_takeBack_26 (by decide) (fun c102 => ?_) (fun c102 => ?_)
      · refine q_ald_n cx dX2_takeBack_38 rfl (lv_at hl 0 rfl) ?_
        refine q_gX2_11 cx hB hv kv ep100 dX2_takeBack_39 (fun hb103 kb103 => ?_)
        refine q_alen (n := 6) cx hB hb101 kb101 (by decide) rfl 8 rfl rfl dX2_takeBack_42 ?_
        refine q_iconst cx dX2_takeBack_43 ?_
        refine q_isub cx dX2_takeBack_44 ?_
        refine q_pX2_20 cx hB hv kv ⟨by decide, by decide⟩ (by decide) (by decide) rfl dX2_takeBack_45 (fun H locs f104 ef104 z105 hB => ?_)
        have z106 : q_ir (q_r f104 v 0) p100 := by rw [ef104, q_setr (Or.inr (by decide))]; exact ep100
        refine q_ald_n cx dX2_takeBack_48 rfl (lv_at hl 1 rfl) ?_
        refine q_ald_n cx dX2_takeBack_49 rfl (lv_at hl 0 rfl) ?_
        refine q_gX2_11 cx hB hv kv z106 dX2_takeBack_50 (fun hb107 kb107 => ?_)
        refine q_ald_n cx dX2_takeBack_53 rfl (lv_at hl 0 rfl) ?_
        refine q_gX2_20 cx hB hv kv z105 dX2_takeBack_54 (fun lb108 ub108 => ?_)
        obtain ⟨p109, ep109⟩ : ∃ zz, q_ir (q_r f104 p100 (Int.toNat (6 - 1))) zz := ⟨_, q_irr _⟩
        refine q_aald (k2 := 16) (n := 6) cx hB hb101 kb101 (by decide) rfl 8 rfl (by decide) rfl (by decide) (by decide) (by decide) rfl ep109 dX2_takeBack_57 (fun hb110 kb110 => ?_)
        refine q_cVv (As := [.ref p109]) (rest := []) cx hB (fun _ h => h) hN hp0 kp0 (by decide) rfl (g_X10_copyFrom_04 l g hN hB.2.1 p0 hp0 kp0 p109 hb110 kb110) q_cX2_23 q_dX10_copyFrom (by decide) rfl rfl hl.1 rfl (Nat.le_of_ble_eq_true rfl) dX2_takeBack_58 (fun H locs f111 h113 hF hB => ?_)
        have z114 : q_is (q_z f111 v 1) (6 - 1) := Eq.trans (hF.z hv (by rw [kv]; rfl)) z105
        have z115 : q_ir (q_r f111 v 0) p100 := Eq.trans (hF.r hv (by rw [kv]; rfl)) z106
        refine q_ald_n cx dX2_takeBack_61 rfl (lv_at hl 0 rfl) ?_
        refine lv_dup cx.1 cx.2.1 dX2_takeBack_62 rfl ?_
        obtain ⟨x116, ex116⟩ : ∃ zz, q_is (q_z f111 v 2) zz := ⟨_, q_isr _⟩
        refine q_gX2_16 cx hB hv kv ex116 dX2_takeBack_63 (fun lb117 ub117 => ?_)
        refine q_iconst cx dX2_takeBack_66 ?_
        refine q_isub cx dX2_takeBack_67 ?_
        refine q_any (fun y118 ry118 ey118 => ?_)
        refine q_pX2_16 cx hB hv kv ⟨by omega, by omega⟩ (by omega) (by omega) rfl dX2_takeBack_68 (fun H locs f119 ef119 z120 hB => ?_)
        have z121 : q_is (q_z f119 v 1) (6 - 1) := by rw [ef119, q_setz (Or.inr (by decide))]; exact z114
        have z122 : q_ir (q_r f119 v 0) p100 := by rw [ef119, q_setr (Or.inr (by decide))]; exact z115
        refine q_iconst cx dX2_takeBack_71 ?_
        refine q_zret cx hr hlk hB dX2_takeBack_72 (by decide) (by decide) ?_
        exact ⟨(by decide), (by decide)⟩
      · refine q_ald_n cx dX2_takeBack_29 rfl (lv_at hl 0 rfl) ?_
        refine q_gX2_20 cx hB hv kv ex75 dX2_takeBack_30 (fun lb123 ub123 => ?_)
        refine q_iconst cx dX2_takeBack_33 ?_
        refine q_isub cx dX2_takeBack_34 ?_
        refine lv_goto (tgt := 45) cx.1 cx.2.1 dX2_takeBack_35 (by decide) ?_
        refine q_pX2_20 cx hB hv kv ⟨by omega, by omega⟩ (by omega) (by omega) rfl dX2_takeBack_45 (fun H locs f124 ef124 z125 hB => ?_)
        have z126 : q_ir (q_r f124 v 0) p100 := by rw [ef124, q_setr (Or.inr (by decide))]; exact ep100
        refine q_ald_n cx dX2_takeBack_48 rfl (lv_at hl 1 rfl) ?_
        refine q_ald_n cx dX2_takeBack_49 rfl (lv_at hl 0 rfl) ?_
        refine q_gX2_11 cx hB hv kv z126 dX2_takeBack_50 (fun hb127 kb127 => ?_)
        refine q_ald_n cx dX2_takeBack_53 rfl (lv_at hl 0 rfl) ?_
        refine q_gX2_20 cx hB hv kv z125 dX2_takeBack_54 (fun lb128 ub128 => ?_)
        obtain ⟨p129, ep129⟩ : ∃ zz, q_ir (q_r f124 p100 (Int.toNat (x75 - 1))) zz := ⟨_, q_irr _⟩
        refine q_aald (k2 := 16) (n := 6) cx hB hb101 kb101 (by decide) rfl 8 rfl (by decide) rfl (by omega) (by omega) (by decide) rfl ep129 dX2_takeBack_57 (fun hb130 kb130 => ?_)
        refine q_cVv (As := [.ref p129]) (rest := []) cx hB (fun _ h => h) hN hp0 kp0 (by decide) rfl (g_X10_copyFrom_04 l g hN hB.2.1 p0 hp0 kp0 p129 hb130 kb130) q_cX2_23 q_dX10_copyFrom (by decide) rfl rfl hl.1 rfl (Nat.le_of_ble_eq_true rfl) dX2_takeBack_58 (fun H locs f131 h133 hF hB => ?_)
        have z134 : q_is (q_z f131 v 1) (x75 - 1) := Eq.trans (hF.z hv (by rw [kv]; rfl)) z125
        have z135 : q_ir (q_r f131 v 0) p100 := Eq.trans (hF.r hv (by rw [kv]; rfl)) z126
        refine q_ald_n cx dX2_takeBack_61 rfl (lv_at hl 0 rfl) ?_
        refine lv_dup cx.1 cx.2.1 dX2_takeBack_62 rfl ?_
        obtain ⟨x136, ex136⟩ : ∃ zz, q_is (q_z f131 v 2) zz := ⟨_, q_isr _⟩
        refine q_gX2_16 cx hB hv kv ex136 dX2_takeBack_63 (fun lb137 ub137 => ?_)
        refine q_iconst cx dX2_takeBack_66 ?_
        refine q_isub cx dX2_takeBack_67 ?_
        refine q_any (fun y138 ry138 ey138 => ?_)
        refine q_pX2_16 cx hB hv kv ⟨by omega, by omega⟩ (by omega) (by omega) rfl dX2_takeBack_68 (fun H locs f139 ef139 z140 hB => ?_)
        have z141 : q_is (q_z f139 v 1) (x75 - 1) := by rw [ef139, q_setz (Or.inr (by decide))]; exact z134
        have z142 : q_ir (q_r f139 v 0) p100 := by rw [ef139, q_setr (Or.inr (by decide))]; exact z135
        refine q_iconst cx dX2_takeBack_71 ?_
        refine q_zret cx hr hlk hB dX2_takeBack_72 (by decide) (by decide) ?_
        exact ⟨(by decide), (by decide)⟩
  · refine q_iconst cx dX2_takeBack_7 ?_
    refine q_zret cx hr hlk hB dX2_takeBack_8 (by decide) (by decide) ?_
    exact ⟨(by decide), (by decide)⟩
set_option maxHeartbeats 4000000 in
set_option maxRecDepth 100000 in
theorem g_X3_figure (l : Launch) (g : q_G) {K : Nat → Nat} {L : List Nat} (hN : L.Nodup) {f : Nat → va_E} (hT : q_Ty g K L f) (v : Nat) (hv : v ∈ L) (kv : K v = 3) (p0 : Int) (lp0 : (-2147483648) ≤ p0) (up0 : p0 ≤ 2147483647) : q_Ct l g K L yX3_figure cX3_figure 2 (some .int) 0 0 [.ref v, .int (q_i p0)] f [] (q_Pi (fun (z : Int) (f1 : Nat → va_E) => f = f1)) := by
  refine q_ofb (by decide +kernel) hN hT (Nat.le_of_ble_eq_true rfl) ?_
  intro p e s m below meth c ls cx hr hlk hB hl
  have hl : lv_has ls 2 [(0, .ref v), (1, .int (q_i p0))] := hl
  obtain ⟨H, hH⟩ : ∃ H : Heap, H = s.heap := ⟨_, rfl⟩
  obtain ⟨locs, hlocs⟩ : ∃ z : List Loc, z = [] := ⟨_, rfl⟩
  rw [← hH, ← hlocs] at hB
  rw [← hH, ← hlocs]
  refine q_ild_n cx dX3_figure_0 rfl (lv_at hl 1 rfl) ?_
  by_cases c17 : p0 = 0
  · refine lv_tableIn (tgt := 32) cx.1 cx.2.1 dX3_figure_1 (by rw [q_toInt ⟨by omega, by omega⟩]; omega) (by rw [q_toInt ⟨by omega, by omega⟩]; omega) (off := 31) (by rw [q_toInt ⟨by omega, by omega⟩, c17]; rfl) (by decide) ?_
    refine q_ald_n cx dX3_figure_32 rfl (lv_at hl 0 rfl) ?_
    obtain ⟨x18, ex18⟩ : ∃ zz, q_is (q_z f v 0) zz := ⟨_, q_isr _⟩
    refine q_gX3_7 cx hB hv kv ex18 dX3_figure_33 (fun lb19 ub19 => ?_)
    refine q_iret cx hr hlk hB dX3_figure_36 ⟨by omega, by omega⟩ ?_
    exact rfl
  by_cases c20 : p0 = 1
  · refine lv_tableIn (tgt := 37) cx.1 cx.2.1 dX3_figure_1 (by rw [q_toInt ⟨by omega, by omega⟩]; omega) (by rw [q_toInt ⟨by omega, by omega⟩]; omega) (off := 36) (by rw [q_toInt ⟨by omega, by omega⟩, c20]; rfl) (by decide) ?_
    refine q_ald_n cx dX3_figure_37 rfl (lv_at hl 0 rfl) ?_
    obtain ⟨x21, ex21⟩ : ∃ zz, q_is (q_z f v 1) zz := ⟨_, q_isr _⟩
    refine q_gX3_13 cx hB hv kv ex21 dX3_figure_38 (fun lb22 ub22 => ?_)
    refine q_iret cx hr hlk hB dX3_figure_41 ⟨by omega, by omega⟩ ?_
    exact rfl
  by_cases c23 : p0 = 2
  · refine lv_tableIn (tgt := 42) cx.1 cx.2.1 dX3_figure_1 (by rw [q_toInt ⟨by omega, by omega⟩]; omega) (by rw [q_toInt ⟨by omega, by omega⟩]; omega) (off := 41) (by rw [q_toInt ⟨by omega, by omega⟩, c23]; rfl) (by decide) ?_
    refine q_ald_n cx dX3_figure_42 rfl (lv_at hl 0 rfl) ?_
    obtain ⟨x24, ex24⟩ : ∃ zz, q_is (q_z f v 2) zz := ⟨_, q_isr _⟩
    refine q_gX3_16 cx hB hv kv ex24 dX3_figure_43 (fun lb25 ub25 => ?_)
    refine q_iret cx hr hlk hB dX3_figure_46 ⟨by omega, by omega⟩ ?_
    exact rfl
  by_cases c26 : p0 = 3
  · refine lv_tableIn (tgt := 47) cx.1 cx.2.1 dX3_figure_1 (by rw [q_toInt ⟨by omega, by omega⟩]; omega) (by rw [q_toInt ⟨by omega, by omega⟩]; omega) (off := 46) (by rw [q_toInt ⟨by omega, by omega⟩, c26]; rfl) (by decide) ?_
    refine q_ald_n cx dX3_figure_47 rfl (lv_at hl 0 rfl) ?_
    obtain ⟨x27, ex27⟩ : ∃ zz, q_is (q_z f v 3) zz := ⟨_, q_isr _⟩
    refine q_gX3_19 cx hB hv kv ex27 dX3_figure_48 (fun lb28 ub28 => ?_)
    refine q_iret cx hr hlk hB dX3_figure_51 ⟨by omega, by omega⟩ ?_
    exact rfl
  refine lv_tableOut (tgt := 52) cx.1 cx.2.1 dX3_figure_1 (by rw [q_toInt ⟨by omega, by omega⟩]; omega) (by decide) ?_
  refine q_ald_n cx dX3_figure_52 rfl (lv_at hl 0 rfl) ?_
  obtain ⟨x29, ex29⟩ : ∃ zz, q_is (q_z f v 4) zz := ⟨_, q_isr _⟩
  refine q_gX3_22 cx hB hv kv ex29 dX3_figure_53 (fun lb30 ub30 => ?_)
  refine q_iret cx hr hlk hB dX3_figure_56 ⟨by omega, by omega⟩ ?_
  exact rfl
set_option maxHeartbeats 4000000 in
set_option maxRecDepth 100000 in
theorem g_X3_figure_1 (l : Launch) (g : q_G) {K : Nat → Nat} {L : List Nat} (hN : L.Nodup) {f : Nat → va_E} (hT : q_Ty g K L f) (v : Nat) (hv : v ∈ L) (kv : K v = 21) (p0 : Int) (lp0 : (-2147483648) ≤ p0) (up0 : p0 ≤ 2147483647) : q_Ct l g K L yX3_figure cX3_figure 2 (some .int) 0 0 [.ref v, .int (q_i p0)] f [] (q_Pi (fun (z : Int) (f1 : Nat → va_E) => f = f1)) := by
  refine q_ofb (by decide +kernel) hN hT (Nat.le_of_ble_eq_true rfl) ?_
  intro p e s m below meth c ls cx hr hlk hB hl
  have hl : lv_has ls 2 [(0, .ref v), (1, .int (q_i p0))] := hl
  obtain ⟨H, hH⟩ : ∃ H : Heap, H = s.heap := ⟨_, rfl⟩
  obtain ⟨locs, hlocs⟩ : ∃ z : List Loc, z = [] := ⟨_, rfl⟩
  rw [← hH, ← hlocs] at hB
  rw [← hH, ← hlocs]
  refine q_ild_n cx dX3_figure_0 rfl (lv_at hl 1 rfl) ?_
  by_cases c17 : p0 = 0
  · refine lv_tableIn (tgt := 32) cx.1 cx.2.1 dX3_figure_1 (by rw [q_toInt ⟨by omega, by omega⟩]; omega) (by rw [q_toInt ⟨by omega, by omega⟩]; omega) (off := 31) (by rw [q_toInt ⟨by omega, by omega⟩, c17]; rfl) (by decide) ?_
    refine q_ald_n cx dX3_figure_32 rfl (lv_at hl 0 rfl) ?_
    obtain ⟨x18, ex18⟩ : ∃ zz, q_is (q_z f v 0) zz := ⟨_, q_isr _⟩
    refine q_gX3_7_21 cx hB hv kv ex18 dX3_figure_33 (fun lb19 ub19 => ?_)
    refine q_iret cx hr hlk hB dX3_figure_36 ⟨by omega, by omega⟩ ?_
    exact rfl
  by_cases c20 : p0 = 1
  · refine lv_tableIn (tgt := 37) cx.1 cx.2.1 dX3_figure_1 (by rw [q_toInt ⟨by omega, by omega⟩]; omega) (by rw [q_toInt ⟨by omega, by omega⟩]; omega) (off := 36) (by rw [q_toInt ⟨by omega, by omega⟩, c20]; rfl) (by decide) ?_
    refine q_ald_n cx dX3_figure_37 rfl (lv_at hl 0 rfl) ?_
    obtain ⟨x21, ex21⟩ : ∃ zz, q_is (q_z f v 1) zz := ⟨_, q_isr _⟩
    refine q_gX3_13_21 cx hB hv kv ex21 dX3_figure_38 (fun lb22 ub22 => ?_)
    refine q_iret cx hr hlk hB dX3_figure_41 ⟨by omega, by omega⟩ ?_
    exact rfl
  by_cases c23 : p0 = 2
  · refine lv_tableIn (tgt := 42) cx.1 cx.2.1 dX3_figure_1 (by rw [q_toInt ⟨by omega, by omega⟩]; omega) (by rw [q_toInt ⟨by omega, by omega⟩]; omega) (off := 41) (by rw [q_toInt ⟨by omega, by omega⟩, c23]; rfl) (by decide) ?_
    refine q_ald_n cx dX3_figure_42 rfl (lv_at hl 0 rfl) ?_
    obtain ⟨x24, ex24⟩ : ∃ zz, q_is (q_z f v 2) zz := ⟨_, q_isr _⟩
    refine q_gX3_16_21 cx hB hv kv ex24 dX3_figure_43 (fun lb25 ub25 => ?_)
    refine q_iret cx hr hlk hB dX3_figure_46 ⟨by omega, by omega⟩ ?_
    exact rfl
  by_cases c26 : p0 = 3
  · refine lv_tableIn (tgt := 47) cx.1 cx.2.1 dX3_figure_1 (by rw [q_toInt ⟨by omega, by omega⟩]; omega) (by rw [q_toInt ⟨by omega, by omega⟩]; omega) (off := 46) (by rw [q_toInt ⟨by omega, by omega⟩, c26]; rfl) (by decide) ?_
    refine q_ald_n cx dX3_figure_47 rfl (lv_at hl 0 rfl) ?_
    obtain ⟨x27, ex27⟩ : ∃ zz, q_is (q_z f v 3) zz := ⟨_, q_isr _⟩
    refine q_gX3_19_21 cx hB hv kv ex27 dX3_figure_48 (fun lb28 ub28 => ?_)
    refine q_iret cx hr hlk hB dX3_figure_51 ⟨by omega, by omega⟩ ?_
    exact rfl
  refine lv_tableOut (tgt := 52) cx.1 cx.2.1 dX3_figure_1 (by rw [q_toInt ⟨by omega, by omega⟩]; omega) (by decide) ?_
  refine q_ald_n cx dX3_figure_52 rfl (lv_at hl 0 rfl) ?_
  obtain ⟨x29, ex29⟩ : ∃ zz, q_is (q_z f v 4) zz := ⟨_, q_isr _⟩
  refine q_gX3_22_21 cx hB hv kv ex29 dX3_figure_53 (fun lb30 ub30 => ?_)
  refine q_iret cx hr hlk hB dX3_figure_56 ⟨by omega, by omega⟩ ?_
  exact rfl
set_option maxHeartbeats 4000000 in
set_option maxRecDepth 100000 in
theorem g_X3_figure_2 (l : Launch) (g : q_G) {K : Nat → Nat} {L : List Nat} (hN : L.Nodup) {f : Nat → va_E} (hT : q_Ty g K L f) (v : Nat) (hv : v ∈ L) (kv : K v = 22) (p0 : Int) (lp0 : (-2147483648) ≤ p0) (up0 : p0 ≤ 2147483647) : q_Ct l g K L yX3_figure cX3_figure 2 (some .int) 0 0 [.ref v, .int (q_i p0)] f [] (q_Pi (fun (z : Int) (f1 : Nat → va_E) => f = f1)) := by
  refine q_ofb (by decide +kernel) hN hT (Nat.le_of_ble_eq_true rfl) ?_
  intro p e s m below meth c ls cx hr hlk hB hl
  have hl : lv_has ls 2 [(0, .ref v), (1, .int (q_i p0))] := hl
  obtain ⟨H, hH⟩ : ∃ H : Heap, H = s.heap := ⟨_, rfl⟩
  obtain ⟨locs, hlocs⟩ : ∃ z : List Loc, z = [] := ⟨_, rfl⟩
  rw [← hH, ← hlocs] at hB
  rw [← hH, ← hlocs]
  refine q_ild_n cx dX3_figure_0 rfl (lv_at hl 1 rfl) ?_
  by_cases c17 : p0 = 0
  · refine lv_tableIn (tgt := 32) cx.1 cx.2.1 dX3_figure_1 (by rw [q_toInt ⟨by omega, by omega⟩]; omega) (by rw [q_toInt ⟨by omega, by omega⟩]; omega) (off := 31) (by rw [q_toInt ⟨by omega, by omega⟩, c17]; rfl) (by decide) ?_
    refine q_ald_n cx dX3_figure_32 rfl (lv_at hl 0 rfl) ?_
    obtain ⟨x18, ex18⟩ : ∃ zz, q_is (q_z f v 0) zz := ⟨_, q_isr _⟩
    refine q_gX3_7_22 cx hB hv kv ex18 dX3_figure_33 (fun lb19 ub19 => ?_)
    refine q_iret cx hr hlk hB dX3_figure_36 ⟨by omega, by omega⟩ ?_
    exact rfl
  by_cases c20 : p0 = 1
  · refine lv_tableIn (tgt := 37) cx.1 cx.2.1 dX3_figure_1 (by rw [q_toInt ⟨by omega, by omega⟩]; omega) (by rw [q_toInt ⟨by omega, by omega⟩]; omega) (off := 36) (by rw [q_toInt ⟨by omega, by omega⟩, c20]; rfl) (by decide) ?_
    refine q_ald_n cx dX3_figure_37 rfl (lv_at hl 0 rfl) ?_
    obtain ⟨x21, ex21⟩ : ∃ zz, q_is (q_z f v 1) zz := ⟨_, q_isr _⟩
    refine q_gX3_13_22 cx hB hv kv ex21 dX3_figure_38 (fun lb22 ub22 => ?_)
    refine q_iret cx hr hlk hB dX3_figure_41 ⟨by omega, by omega⟩ ?_
    exact rfl
  by_cases c23 : p0 = 2
  · refine lv_tableIn (tgt := 42) cx.1 cx.2.1 dX3_figure_1 (by rw [q_toInt ⟨by omega, by omega⟩]; omega) (by rw [q_toInt ⟨by omega, by omega⟩]; omega) (off := 41) (by rw [q_toInt ⟨by omega, by omega⟩, c23]; rfl) (by decide) ?_
    refine q_ald_n cx dX3_figure_42 rfl (lv_at hl 0 rfl) ?_
    obtain ⟨x24, ex24⟩ : ∃ zz, q_is (q_z f v 2) zz := ⟨_, q_isr _⟩
    refine q_gX3_16_22 cx hB hv kv ex24 dX3_figure_43 (fun lb25 ub25 => ?_)
    refine q_iret cx hr hlk hB dX3_figure_46 ⟨by omega, by omega⟩ ?_
    exact rfl
  by_cases c26 : p0 = 3
  · refine lv_tableIn (tgt := 47) cx.1 cx.2.1 dX3_figure_1 (by rw [q_toInt ⟨by omega, by omega⟩]; omega) (by rw [q_toInt ⟨by omega, by omega⟩]; omega) (off := 46) (by rw [q_toInt ⟨by omega, by omega⟩, c26]; rfl) (by decide) ?_
    refine q_ald_n cx dX3_figure_47 rfl (lv_at hl 0 rfl) ?_
    obtain ⟨x27, ex27⟩ : ∃ zz, q_is (q_z f v 3) zz := ⟨_, q_isr _⟩
    refine q_gX3_19_22 cx hB hv kv ex27 dX3_figure_48 (fun lb28 ub28 => ?_)
    refine q_iret cx hr hlk hB dX3_figure_51 ⟨by omega, by omega⟩ ?_
    exact rfl
  refine lv_tableOut (tgt := 52) cx.1 cx.2.1 dX3_figure_1 (by rw [q_toInt ⟨by omega, by omega⟩]; omega) (by decide) ?_
  refine q_ald_n cx dX3_figure_52 rfl (lv_at hl 0 rfl) ?_
  obtain ⟨x29, ex29⟩ : ∃ zz, q_is (q_z f v 4) zz := ⟨_, q_isr _⟩
  refine q_gX3_22_22 cx hB hv kv ex29 dX3_figure_53 (fun lb30 ub30 => ?_)
  refine q_iret cx hr hlk hB dX3_figure_56 ⟨by omega, by omega⟩ ?_
  exact rfl
set_option maxHeartbeats 4000000 in
set_option maxRecDepth 100000 in
theorem g_X3_figure_3 (l : Launch) (g : q_G) {K : Nat → Nat} {L : List Nat} (hN : L.Nodup) {f : Nat → va_E} (hT : q_Ty g K L f) (v : Nat) (hv : v ∈ L) (kv : K v = 23) (p0 : Int) (lp0 : (-2147483648) ≤ p0) (up0 : p0 ≤ 2147483647) : q_Ct l g K L yX3_figure cX3_figure 2 (some .int) 0 0 [.ref v, .int (q_i p0)] f [] (q_Pi (fun (z : Int) (f1 : Nat → va_E) => f = f1)) := by
  refine q_ofb (by decide +kernel) hN hT (Nat.le_of_ble_eq_true rfl) ?_
  intro p e s m below meth c ls cx hr hlk hB hl
  have hl : lv_has ls 2 [(0, .ref v), (1, .int (q_i p0))] := hl
  obtain ⟨H, hH⟩ : ∃ H : Heap, H = s.heap := ⟨_, rfl⟩
  obtain ⟨locs, hlocs⟩ : ∃ z : List Loc, z = [] := ⟨_, rfl⟩
  rw [← hH, ← hlocs] at hB
  rw [← hH, ← hlocs]
  refine q_ild_n cx dX3_figure_0 rfl (lv_at hl 1 rfl) ?_
  by_cases c17 : p0 = 0
  · refine lv_tableIn (tgt := 32) cx.1 cx.2.1 dX3_figure_1 (by rw [q_toInt ⟨by omega, by omega⟩]; omega) (by rw [q_toInt ⟨by omega, by omega⟩]; omega) (off := 31) (by rw [q_toInt ⟨by omega, by omega⟩, c17]; rfl) (by decide) ?_
    refine q_ald_n cx dX3_figure_32 rfl (lv_at hl 0 rfl) ?_
    obtain ⟨x18, ex18⟩ : ∃ zz, q_is (q_z f v 0) zz := ⟨_, q_isr _⟩
    refine q_gX3_7_23 cx hB hv kv ex18 dX3_figure_33 (fun lb19 ub19 => ?_)
    refine q_iret cx hr hlk hB dX3_figure_36 ⟨by omega, by omega⟩ ?_
    exact rfl
  by_cases c20 : p0 = 1
  · refine lv_tableIn (tgt := 37) cx.1 cx.2.1 dX3_figure_1 (by rw [q_toInt ⟨by omega, by omega⟩]; omega) (by rw [q_toInt ⟨by omega, by omega⟩]; omega) (off := 36) (by rw [q_toInt ⟨by omega, by omega⟩, c20]; rfl) (by decide) ?_
    refine q_ald_n cx dX3_figure_37 rfl (lv_at hl 0 rfl) ?_
    obtain ⟨x21, ex21⟩ : ∃ zz, q_is (q_z f v 1) zz := ⟨_, q_isr _⟩
    refine q_gX3_13_23 cx hB hv kv ex21 dX3_figure_38 (fun lb22 ub22 => ?_)
    refine q_iret cx hr hlk hB dX3_figure_41 ⟨by omega, by omega⟩ ?_
    exact rfl
  by_cases c23 : p0 = 2
  · refine lv_tableIn (tgt := 42) cx.1 cx.2.1 dX3_figure_1 (by rw [q_toInt ⟨by omega, by omega⟩]; omega) (by rw [q_toInt ⟨by omega, by omega⟩]; omega) (off := 41) (by rw [q_toInt ⟨by omega, by omega⟩, c23]; rfl) (by decide) ?_
    refine q_ald_n cx dX3_figure_42 rfl (lv_at hl 0 rfl) ?_
    obtain ⟨x24, ex24⟩ : ∃ zz, q_is (q_z f v 2) zz := ⟨_, q_isr _⟩
    refine q_gX3_16_23 cx hB hv kv ex24 dX3_figure_43 (fun lb25 ub25 => ?_)
    refine q_iret cx hr hlk hB dX3_figure_46 ⟨by omega, by omega⟩ ?_
    exact rfl
  by_cases c26 : p0 = 3
  · refine lv_tableIn (tgt := 47) cx.1 cx.2.1 dX3_figure_1 (by rw [q_toInt ⟨by omega, by omega⟩]; omega) (by rw [q_toInt ⟨by omega, by omega⟩]; omega) (off := 46) (by rw [q_toInt ⟨by omega, by omega⟩, c26]; rfl) (by decide) ?_
    refine q_ald_n cx dX3_figure_47 rfl (lv_at hl 0 rfl) ?_
    obtain ⟨x27, ex27⟩ : ∃ zz, q_is (q_z f v 3) zz := ⟨_, q_isr _⟩
    refine q_gX3_19_23 cx hB hv kv ex27 dX3_figure_48 (fun lb28 ub28 => ?_)
    refine q_iret cx hr hlk hB dX3_figure_51 ⟨by omega, by omega⟩ ?_
    exact rfl
  refine lv_tableOut (tgt := 52) cx.1 cx.2.1 dX3_figure_1 (by rw [q_toInt ⟨by omega, by omega⟩]; omega) (by decide) ?_
  refine q_ald_n cx dX3_figure_52 rfl (lv_at hl 0 rfl) ?_
  obtain ⟨x29, ex29⟩ : ∃ zz, q_is (q_z f v 4) zz := ⟨_, q_isr _⟩
  refine q_gX3_22_23 cx hB hv kv ex29 dX3_figure_53 (fun lb30 ub30 => ?_)
  refine q_iret cx hr hlk hB dX3_figure_56 ⟨by omega, by omega⟩ ?_
  exact rfl
set_option maxHeartbeats 4000000 in
set_option maxRecDepth 100000 in
theorem g_X3_figure_4 (l : Launch) (g : q_G) {K : Nat → Nat} {L : List Nat} (hN : L.Nodup) {f : Nat → va_E} (hT : q_Ty g K L f) (v : Nat) (hv : v ∈ L) (kv : K v = 24) (p0 : Int) (lp0 : (-2147483648) ≤ p0) (up0 : p0 ≤ 2147483647) : q_Ct l g K L yX3_figure cX3_figure 2 (some .int) 0 0 [.ref v, .int (q_i p0)] f [] (q_Pi (fun (z : Int) (f1 : Nat → va_E) => f = f1)) := by
  refine q_ofb (by decide +kernel) hN hT (Nat.le_of_ble_eq_true rfl) ?_
  intro p e s m below meth c ls cx hr hlk hB hl
  have hl : lv_has ls 2 [(0, .ref v), (1, .int (q_i p0))] := hl
  obtain ⟨H, hH⟩ : ∃ H : Heap, H = s.heap := ⟨_, rfl⟩
  obtain ⟨locs, hlocs⟩ : ∃ z : List Loc, z = [] := ⟨_, rfl⟩
  rw [← hH, ← hlocs] at hB
  rw [← hH, ← hlocs]
  refine q_ild_n cx dX3_figure_0 rfl (lv_at hl 1 rfl) ?_
  by_cases c17 : p0 = 0
  · refine lv_tableIn (tgt := 32) cx.1 cx.2.1 dX3_figure_1 (by rw [q_toInt ⟨by omega, by omega⟩]; omega) (by rw [q_toInt ⟨by omega, by omega⟩]; omega) (off := 31) (by rw [q_toInt ⟨by omega, by omega⟩, c17]; rfl) (by decide) ?_
    refine q_ald_n cx dX3_figure_32 rfl (lv_at hl 0 rfl) ?_
    obtain ⟨x18, ex18⟩ : ∃ zz, q_is (q_z f v 0) zz := ⟨_, q_isr _⟩
    refine q_gX3_7_24 cx hB hv kv ex18 dX3_figure_33 (fun lb19 ub19 => ?_)
    refine q_iret cx hr hlk hB dX3_figure_36 ⟨by omega, by omega⟩ ?_
    exact rfl
  by_cases c20 : p0 = 1
  · refine lv_tableIn (tgt := 37) cx.1 cx.2.1 dX3_figure_1 (by rw [q_toInt ⟨by omega, by omega⟩]; omega) (by rw [q_toInt ⟨by omega, by omega⟩]; omega) (off := 36) (by rw [q_toInt ⟨by omega, by omega⟩, c20]; rfl) (by decide) ?_
    refine q_ald_n cx dX3_figure_37 rfl (lv_at hl 0 rfl) ?_
    obtain ⟨x21, ex21⟩ : ∃ zz, q_is (q_z f v 1) zz := ⟨_, q_isr _⟩
    refine q_gX3_13_24 cx hB hv kv ex21 dX3_figure_38 (fun lb22 ub22 => ?_)
    refine q_iret cx hr hlk hB dX3_figure_41 ⟨by omega, by omega⟩ ?_
    exact rfl
  by_cases c23 : p0 = 2
  · refine lv_tableIn (tgt := 42) cx.1 cx.2.1 dX3_figure_1 (by rw [q_toInt ⟨by omega, by omega⟩]; omega) (by rw [q_toInt ⟨by omega, by omega⟩]; omega) (off := 41) (by rw [q_toInt ⟨by omega, by omega⟩, c23]; rfl) (by decide) ?_
    refine q_ald_n cx dX3_figure_42 rfl (lv_at hl 0 rfl) ?_
    obtain ⟨x24, ex24⟩ : ∃ zz, q_is (q_z f v 2) zz := ⟨_, q_isr _⟩
    refine q_gX3_16_24 cx hB hv kv ex24 dX3_figure_43 (fun lb25 ub25 => ?_)
    refine q_iret cx hr hlk hB dX3_figure_46 ⟨by omega, by omega⟩ ?_
    exact rfl
  by_cases c26 : p0 = 3
  · refine lv_tableIn (tgt := 47) cx.1 cx.2.1 dX3_figure_1 (by rw [q_toInt ⟨by omega, by omega⟩]; omega) (by rw [q_toInt ⟨by omega, by omega⟩]; omega) (off := 46) (by rw [q_toInt ⟨by omega, by omega⟩, c26]; rfl) (by decide) ?_
    refine q_ald_n cx dX3_figure_47 rfl (lv_at hl 0 rfl) ?_
    obtain ⟨x27, ex27⟩ : ∃ zz, q_is (q_z f v 3) zz := ⟨_, q_isr _⟩
    refine q_gX3_19_24 cx hB hv kv ex27 dX3_figure_48 (fun lb28 ub28 => ?_)
    refine q_iret cx hr hlk hB dX3_figure_51 ⟨by omega, by omega⟩ ?_
    exact rfl
  refine lv_tableOut (tgt := 52) cx.1 cx.2.1 dX3_figure_1 (by rw [q_toInt ⟨by omega, by omega⟩]; omega) (by decide) ?_
  refine q_ald_n cx dX3_figure_52 rfl (lv_at hl 0 rfl) ?_
  obtain ⟨x29, ex29⟩ : ∃ zz, q_is (q_z f v 4) zz := ⟨_, q_isr _⟩
  refine q_gX3_22_24 cx hB hv kv ex29 dX3_figure_53 (fun lb30 ub30 => ?_)
  refine q_iret cx hr hlk hB dX3_figure_56 ⟨by omega, by omega⟩ ?_
  exact rfl
set_option maxHeartbeats 4000000 in
set_option maxRecDepth 100000 in
theorem g_X4_figure (l : Launch) (g : q_G) {K : Nat → Nat} {L : List Nat} (hN : L.Nodup) {f : Nat → va_E} (hT : q_Ty g K L f) (v : Nat) (hv : v ∈ L) (kv : K v = 4) (p0 : Int) (lp0 : (-2147483648) ≤ p0) (up0 : p0 ≤ 2147483647) : q_Ct l g K L yX4_figure cX4_figure 2 (some .int) 0 0 [.ref v, .int (q_i p0)] f [] (q_Pi (fun (z : Int) (f1 : Nat → va_E) => f = f1)) := by
  refine q_ofb (by decide +kernel) hN hT (Nat.le_of_ble_eq_true rfl) ?_
  intro p e s m below meth c ls cx hr hlk hB hl
  have hl : lv_has ls 2 [(0, .ref v), (1, .int (q_i p0))] := hl
  have J81 : ∀ (t81_0 : Int) (lt81_0 : 0 ≤ t81_0) (ut81_0 : t81_0 ≤ 1) (blp0 : 5 ≤ p0) (bup0 : p0 ≤ 5) (H : Heap) (locs : List Loc) (hB : q_B g K L (fun q => q ∈ L) [] f f s H locs) (ls : Array Slot) (hl : lv_has ls 2 []), W p l e { frames := 0, cells := 0, slots := 0, locals := 0 } s m ([.ref v, .int (q_i p0)] : List Value).toArray below meth c H locs 0 0 (MQ below (q_Q g K L [] f (q_Pi (fun (z : Int) (f1 : Nat → va_E) => f = f1))) ([.ref v, .int (q_i p0)] : List Value).toArray s 0 0 (fun q => q ∈ L)) (F0 m 81 ls [.int (q_i t81_0)]) := by
    intro t81_0 lt81_0 ut81_0 blp0 bup0 H locs hB ls hl
    refine q_iret cx hr hlk hB dX4_figure_81 ⟨by omega, by omega⟩ ?_
    exact rfl
  obtain ⟨H, hH⟩ : ∃ H : Heap, H = s.heap := ⟨_, rfl⟩
  obtain ⟨locs, hlocs⟩ : ∃ z : List Loc, z = [] := ⟨_, rfl⟩
  rw [← hH, ← hlocs] at hB
  rw [← hH, ← hlocs]
  refine q_ild_n cx dX4_figure_0 rfl (lv_at hl 1 rfl) ?_
  by_cases c27 : p0 = 0
  · refine lv_tableIn (tgt := 44) cx.1 cx.2.1 dX4_figure_1 (by rw [q_toInt ⟨by omega, by omega⟩]; omega) (by rw [q_toInt ⟨by omega, by omega⟩]; omega) (off := 43) (by rw [q_toInt ⟨by omega, by omega⟩, c27]; rfl) (by decide) ?_
    refine q_ald_n cx dX4_figure_44 rfl (lv_at hl 0 rfl) ?_
    obtain ⟨x28, ex28⟩ : ∃ zz, q_is (q_z f v 0) zz := ⟨_, q_isr _⟩
    refine q_gX4_7 cx hB hv kv ex28 dX4_figure_45 (fun lb29 ub29 => ?_)
    refine q_iret cx hr hlk hB dX4_figure_48 ⟨by omega, by omega⟩ ?_
    exact rfl
  by_cases c30 : p0 = 1
  · refine lv_tableIn (tgt := 49) cx.1 cx.2.1 dX4_figure_1 (by rw [q_toInt ⟨by omega, by omega⟩]; omega) (by rw [q_toInt ⟨by omega, by omega⟩]; omega) (off := 48) (by rw [q_toInt ⟨by omega, by omega⟩, c30]; rfl) (by decide) ?_
    refine q_ald_n cx dX4_figure_49 rfl (lv_at hl 0 rfl) ?_
    obtain ⟨x31, ex31⟩ : ∃ zz, q_is (q_z f v 1) zz := ⟨_, q_isr _⟩
    refine q_gX4_13 cx hB hv kv ex31 dX4_figure_50 (fun lb32 ub32 => ?_)
    refine q_iret cx hr hlk hB dX4_figure_53 ⟨by omega, by omega⟩ ?_
    exact rfl
  by_cases c33 : p0 = 2
  · refine lv_tableIn (tgt := 54) cx.1 cx.2.1 dX4_figure_1 (by rw [q_toInt ⟨by omega, by omega⟩]; omega) (by rw [q_toInt ⟨by omega, by omega⟩]; omega) (off := 53) (by rw [q_toInt ⟨by omega, by omega⟩, c33]; rfl) (by decide) ?_
    refine q_ald_n cx dX4_figure_54 rfl (lv_at hl 0 rfl) ?_
    obtain ⟨x34, ex34⟩ : ∃ zz, q_is (q_z f v 2) zz := ⟨_, q_isr _⟩
    refine q_gX4_16 cx hB hv kv ex34 dX4_figure_55 (fun lb35 ub35 => ?_)
    refine q_iret cx hr hlk hB dX4_figure_58 ⟨by omega, by omega⟩ ?_
    exact rfl
  by_cases c36 : p0 = 3
  · refine lv_tableIn (tgt := 59) cx.1 cx.2.1 dX4_figure_1 (by rw [q_toInt ⟨by omega, by omega⟩]; omega) (by rw [q_toInt ⟨by omega, by omega⟩]; omega) (off := 58) (by rw [q_toInt ⟨by omega, by omega⟩, c36]; rfl) (by decide) ?_
    refine q_ald_n cx dX4_figure_59 rfl (lv_at hl 0 rfl) ?_
    obtain ⟨x37, ex37⟩ : ∃ zz, q_is (q_z f v 3) zz := ⟨_, q_isr _⟩
    refine q_gX4_19 cx hB hv kv ex37 dX4_figure_60 (fun lb38 ub38 => ?_)
    refine q_iret cx hr hlk hB dX4_figure_63 ⟨by omega, by omega⟩ ?_
    exact rfl
  by_cases c39 : p0 = 4
  · refine lv_tableIn (tgt := 64) cx.1 cx.2.1 dX4_figure_1 (by rw [q_toInt ⟨by omega, by omega⟩]; omega) (by rw [q_toInt ⟨by omega, by omega⟩]; omega) (off := 63) (by rw [q_toInt ⟨by omega, by omega⟩, c39]; rfl) (by decide) ?_
    refine q_ald_n cx dX4_figure_64 rfl (lv_at hl 0 rfl) ?_
    obtain ⟨x40, ex40⟩ : ∃ zz, q_is (q_z f v 4) zz := ⟨_, q_isr _⟩
    refine q_gX4_22 cx hB hv kv ex40 dX4_figure_65 (fun lb41 ub41 => ?_)
    refine q_iret cx hr hlk hB dX4_figure_68 ⟨by omega, by omega⟩ ?_
    exact rfl
  by_cases c42 : p0 = 5
  · refine lv_tableIn (tgt := 69) cx.1 cx.2.1 dX4_figure_1 (by rw [q_toInt ⟨by omega, by omega⟩]; omega) (by rw [q_toInt ⟨by omega, by omega⟩]; omega) (off := 68) (by rw [q_toInt ⟨by omega, by omega⟩, c42]; rfl) (by decide) ?_
    refine q_ald_n cx dX4_figure_69 rfl (lv_at hl 0 rfl) ?_
    obtain ⟨x43, ex43⟩ : ∃ zz, q_is (q_z f v 7) zz := ⟨_, q_isr _⟩
    refine q_gX4_31 cx hB hv kv ex43 dX4_figure_70 (fun lb44 ub44 => ?_)
    refine q_ifeq (tgt := 80) cx ⟨by omega, by omega⟩ dX4_figure_73 (by decide) (fun c45 => ?_) (fun c45 => ?_)
    · refine q_iconst cx dX4_figure_80 ?_
      exact J81 0 (by decide) (by decide) (by omega) (by omega) H locs hB ls (lv_sub hl [] rfl)
    · refine q_iconst cx dX4_figure_76 ?_
      refine lv_goto (tgt := 81) cx.1 cx.2.1 dX4_figure_77 (by decide) ?_
      exact J81 1 (by decide) (by decide) (by omega) (by omega) H locs hB ls (lv_sub hl [] rfl)
  by_cases c46 : p0 = 6
  · refine lv_tableIn (tgt := 82) cx.1 cx.2.1 dX4_figure_1 (by rw [q_toInt ⟨by omega, by omega⟩]; omega) (by rw [q_toInt ⟨by omega, by omega⟩]; omega) (off := 81) (by rw [q_toInt ⟨by omega, by omega⟩, c46]; rfl) (by decide) ?_
    refine q_ald_n cx dX4_figure_82 rfl (lv_at hl 0 rfl) ?_
    obtain ⟨x47, ex47⟩ : ∃ zz, q_is (q_z f v 5) zz := ⟨_, q_isr _⟩
    refine q_gX4_25 cx hB hv kv ex47 dX4_figure_83 (fun lb48 ub48 => ?_)
    refine q_iret cx hr hlk hB dX4_figure_86 ⟨by omega, by omega⟩ ?_
    exact rfl
  refine lv_tableOut (tgt := 87) cx.1 cx.2.1 dX4_figure_1 (by rw [q_toInt ⟨by omega, by omega⟩]; omega) (by decide) ?_
  refine q_ald_n cx dX4_figure_87 rfl (lv_at hl 0 rfl) ?_
  obtain ⟨x49, ex49⟩ : ∃ zz, q_is (q_z f v 6) zz := ⟨_, q_isr _⟩
  refine q_gX4_28 cx hB hv kv ex49 dX4_figure_88 (fun lb50 ub50 => ?_)
  refine q_iret cx hr hlk hB dX4_figure_91 ⟨by omega, by omega⟩ ?_
  exact rfl
set_option maxHeartbeats 4000000 in
set_option maxRecDepth 100000 in
theorem g_X4_figure_1 (l : Launch) (g : q_G) {K : Nat → Nat} {L : List Nat} (hN : L.Nodup) {f : Nat → va_E} (hT : q_Ty g K L f) (v : Nat) (hv : v ∈ L) (kv : K v = 25) (p0 : Int) (lp0 : (-2147483648) ≤ p0) (up0 : p0 ≤ 2147483647) : q_Ct l g K L yX4_figure cX4_figure 2 (some .int) 0 0 [.ref v, .int (q_i p0)] f [] (q_Pi (fun (z : Int) (f1 : Nat → va_E) => f = f1)) := by
  refine q_ofb (by decide +kernel) hN hT (Nat.le_of_ble_eq_true rfl) ?_
  intro p e s m below meth c ls cx hr hlk hB hl
  have hl : lv_has ls 2 [(0, .ref v), (1, .int (q_i p0))] := hl
  have J81 : ∀ (t81_0 : Int) (lt81_0 : 0 ≤ t81_0) (ut81_0 : t81_0 ≤ 1) (blp0 : 5 ≤ p0) (bup0 : p0 ≤ 5) (H : Heap) (locs : List Loc) (hB : q_B g K L (fun q => q ∈ L) [] f f s H locs) (ls : Array Slot) (hl : lv_has ls 2 []), W p l e { frames := 0, cells := 0, slots := 0, locals := 0 } s m ([.ref v, .int (q_i p0)] : List Value).toArray below meth c H locs 0 0 (MQ below (q_Q g K L [] f (q_Pi (fun (z : Int) (f1 : Nat → va_E) => f = f1))) ([.ref v, .int (q_i p0)] : List Value).toArray s 0 0 (fun q => q ∈ L)) (F0 m 81 ls [.int (q_i t81_0)]) := by
    intro t81_0 lt81_0 ut81_0 blp0 bup0 H locs hB ls hl
    refine q_iret cx hr hlk hB dX4_figure_81 ⟨by omega, by omega⟩ ?_
    exact rfl
  obtain ⟨H, hH⟩ : ∃ H : Heap, H = s.heap := ⟨_, rfl⟩
  obtain ⟨locs, hlocs⟩ : ∃ z : List Loc, z = [] := ⟨_, rfl⟩
  rw [← hH, ← hlocs] at hB
  rw [← hH, ← hlocs]
  refine q_ild_n cx dX4_figure_0 rfl (lv_at hl 1 rfl) ?_
  by_cases c27 : p0 = 0
  · refine lv_tableIn (tgt := 44) cx.1 cx.2.1 dX4_figure_1 (by rw [q_toInt ⟨by omega, by omega⟩]; omega) (by rw [q_toInt ⟨by omega, by omega⟩]; omega) (off := 43) (by rw [q_toInt ⟨by omega, by omega⟩, c27]; rfl) (by decide) ?_
    refine q_ald_n cx dX4_figure_44 rfl (lv_at hl 0 rfl) ?_
    obtain ⟨x28, ex28⟩ : ∃ zz, q_is (q_z f v 0) zz := ⟨_, q_isr _⟩
    refine q_gX4_7_25 cx hB hv kv ex28 dX4_figure_45 (fun lb29 ub29 => ?_)
    refine q_iret cx hr hlk hB dX4_figure_48 ⟨by omega, by omega⟩ ?_
    exact rfl
  by_cases c30 : p0 = 1
  · refine lv_tableIn (tgt := 49) cx.1 cx.2.1 dX4_figure_1 (by rw [q_toInt ⟨by omega, by omega⟩]; omega) (by rw [q_toInt ⟨by omega, by omega⟩]; omega) (off := 48) (by rw [q_toInt ⟨by omega, by omega⟩, c30]; rfl) (by decide) ?_
    refine q_ald_n cx dX4_figure_49 rfl (lv_at hl 0 rfl) ?_
    obtain ⟨x31, ex31⟩ : ∃ zz, q_is (q_z f v 1) zz := ⟨_, q_isr _⟩
    refine q_gX4_13_25 cx hB hv kv ex31 dX4_figure_50 (fun lb32 ub32 => ?_)
    refine q_iret cx hr hlk hB dX4_figure_53 ⟨by omega, by omega⟩ ?_
    exact rfl
  by_cases c33 : p0 = 2
  · refine lv_tableIn (tgt := 54) cx.1 cx.2.1 dX4_figure_1 (by rw [q_toInt ⟨by omega, by omega⟩]; omega) (by rw [q_toInt ⟨by omega, by omega⟩]; omega) (off := 53) (by rw [q_toInt ⟨by omega, by omega⟩, c33]; rfl) (by decide) ?_
    refine q_ald_n cx dX4_figure_54 rfl (lv_at hl 0 rfl) ?_
    obtain ⟨x34, ex34⟩ : ∃ zz, q_is (q_z f v 2) zz := ⟨_, q_isr _⟩
    refine q_gX4_16_25 cx hB hv kv ex34 dX4_figure_55 (fun lb35 ub35 => ?_)
    refine q_iret cx hr hlk hB dX4_figure_58 ⟨by omega, by omega⟩ ?_
    exact rfl
  by_cases c36 : p0 = 3
  · refine lv_tableIn (tgt := 59) cx.1 cx.2.1 dX4_figure_1 (by rw [q_toInt ⟨by omega, by omega⟩]; omega) (by rw [q_toInt ⟨by omega, by omega⟩]; omega) (off := 58) (by rw [q_toInt ⟨by omega, by omega⟩, c36]; rfl) (by decide) ?_
    refine q_ald_n cx dX4_figure_59 rfl (lv_at hl 0 rfl) ?_
    obtain ⟨x37, ex37⟩ : ∃ zz, q_is (q_z f v 3) zz := ⟨_, q_isr _⟩
    refine q_gX4_19_25 cx hB hv kv ex37 dX4_figure_60 (fun lb38 ub38 => ?_)
    refine q_iret cx hr hlk hB dX4_figure_63 ⟨by omega, by omega⟩ ?_
    exact rfl
  by_cases c39 : p0 = 4
  · refine lv_tableIn (tgt := 64) cx.1 cx.2.1 dX4_figure_1 (by rw [q_toInt ⟨by omega, by omega⟩]; omega) (by rw [q_toInt ⟨by omega, by omega⟩]; omega) (off := 63) (by rw [q_toInt ⟨by omega, by omega⟩, c39]; rfl) (by decide) ?_
    refine q_ald_n cx dX4_figure_64 rfl (lv_at hl 0 rfl) ?_
    obtain ⟨x40, ex40⟩ : ∃ zz, q_is (q_z f v 4) zz := ⟨_, q_isr _⟩
    refine q_gX4_22_25 cx hB hv kv ex40 dX4_figure_65 (fun lb41 ub41 => ?_)
    refine q_iret cx hr hlk hB dX4_figure_68 ⟨by omega, by omega⟩ ?_
    exact rfl
  by_cases c42 : p0 = 5
  · refine lv_tableIn (tgt := 69) cx.1 cx.2.1 dX4_figure_1 (by rw [q_toInt ⟨by omega, by omega⟩]; omega) (by rw [q_toInt ⟨by omega, by omega⟩]; omega) (off := 68) (by rw [q_toInt ⟨by omega, by omega⟩, c42]; rfl) (by decide) ?_
    refine q_ald_n cx dX4_figure_69 rfl (lv_at hl 0 rfl) ?_
    obtain ⟨x43, ex43⟩ : ∃ zz, q_is (q_z f v 7) zz := ⟨_, q_isr _⟩
    refine q_gX4_31_25 cx hB hv kv ex43 dX4_figure_70 (fun lb44 ub44 => ?_)
    refine q_ifeq (tgt := 80) cx ⟨by omega, by omega⟩ dX4_figure_73 (by decide) (fun c45 => ?_) (fun c45 => ?_)
    · refine q_iconst cx dX4_figure_80 ?_
      exact J81 0 (by decide) (by decide) (by omega) (by omega) H locs hB ls (lv_sub hl [] rfl)
    · refine q_iconst cx dX4_figure_76 ?_
      refine lv_goto (tgt := 81) cx.1 cx.2.1 dX4_figure_77 (by decide) ?_
      exact J81 1 (by decide) (by decide) (by omega) (by omega) H locs hB ls (lv_sub hl [] rfl)
  by_cases c46 : p0 = 6
  · refine lv_tableIn (tgt := 82) cx.1 cx.2.1 dX4_figure_1 (by rw [q_toInt ⟨by omega, by omega⟩]; omega) (by rw [q_toInt ⟨by omega, by omega⟩]; omega) (off := 81) (by rw [q_toInt ⟨by omega, by omega⟩, c46]; rfl) (by decide) ?_
    refine q_ald_n cx dX4_figure_82 rfl (lv_at hl 0 rfl) ?_
    obtain ⟨x47, ex47⟩ : ∃ zz, q_is (q_z f v 5) zz := ⟨_, q_isr _⟩
    refine q_gX4_25_25 cx hB hv kv ex47 dX4_figure_83 (fun lb48 ub48 => ?_)
    refine q_iret cx hr hlk hB dX4_figure_86 ⟨by omega, by omega⟩ ?_
    exact rfl
  refine lv_tableOut (tgt := 87) cx.1 cx.2.1 dX4_figure_1 (by rw [q_toInt ⟨by omega, by omega⟩]; omega) (by decide) ?_
  refine q_ald_n cx dX4_figure_87 rfl (lv_at hl 0 rfl) ?_
  obtain ⟨x49, ex49⟩ : ∃ zz, q_is (q_z f v 6) zz := ⟨_, q_isr _⟩
  refine q_gX4_28_25 cx hB hv kv ex49 dX4_figure_88 (fun lb50 ub50 => ?_)
  refine q_iret cx hr hlk hB dX4_figure_91 ⟨by omega, by omega⟩ ?_
  exact rfl
set_option maxHeartbeats 4000000 in
set_option maxRecDepth 100000 in
theorem g_X4_figure_2 (l : Launch) (g : q_G) {K : Nat → Nat} {L : List Nat} (hN : L.Nodup) {f : Nat → va_E} (hT : q_Ty g K L f) (v : Nat) (hv : v ∈ L) (kv : K v = 26) (p0 : Int) (lp0 : (-2147483648) ≤ p0) (up0 : p0 ≤ 2147483647) : q_Ct l g K L yX4_figure cX4_figure 2 (some .int) 0 0 [.ref v, .int (q_i p0)] f [] (q_Pi (fun (z : Int) (f1 : Nat → va_E) => f = f1)) := by
  refine q_ofb (by decide +kernel) hN hT (Nat.le_of_ble_eq_true rfl) ?_
  intro p e s m below meth c ls cx hr hlk hB hl
  have hl : lv_has ls 2 [(0, .ref v), (1, .int (q_i p0))] := hl
  have J81 : ∀ (t81_0 : Int) (lt81_0 : 0 ≤ t81_0) (ut81_0 : t81_0 ≤ 1) (blp0 : 5 ≤ p0) (bup0 : p0 ≤ 5) (H : Heap) (locs : List Loc) (hB : q_B g K L (fun q => q ∈ L) [] f f s H locs) (ls : Array Slot) (hl : lv_has ls 2 []), W p l e { frames := 0, cells := 0, slots := 0, locals := 0 } s m ([.ref v, .int (q_i p0)] : List Value).toArray below meth c H locs 0 0 (MQ below (q_Q g K L [] f (q_Pi (fun (z : Int) (f1 : Nat → va_E) => f = f1))) ([.ref v, .int (q_i p0)] : List Value).toArray s 0 0 (fun q => q ∈ L)) (F0 m 81 ls [.int (q_i t81_0)]) := by
    intro t81_0 lt81_0 ut81_0 blp0 bup0 H locs hB ls hl
    refine q_iret cx hr hlk hB dX4_figure_81 ⟨by omega, by omega⟩ ?_
    exact rfl
  obtain ⟨H, hH⟩ : ∃ H : Heap, H = s.heap := ⟨_, rfl⟩
  obtain ⟨locs, hlocs⟩ : ∃ z : List Loc, z = [] := ⟨_, rfl⟩
  rw [← hH, ← hlocs] at hB
  rw [← hH, ← hlocs]
  refine q_ild_n cx dX4_figure_0 rfl (lv_at hl 1 rfl) ?_
  by_cases c27 : p0 = 0
  · refine lv_tableIn (tgt := 44) cx.1 cx.2.1 dX4_figure_1 (by rw [q_toInt ⟨by omega, by omega⟩]; omega) (by rw [q_toInt ⟨by omega, by omega⟩]; omega) (off := 43) (by rw [q_toInt ⟨by omega, by omega⟩, c27]; rfl) (by decide) ?_
    refine q_ald_n cx dX4_figure_44 rfl (lv_at hl 0 rfl) ?_
    obtain ⟨x28, ex28⟩ : ∃ zz, q_is (q_z f v 0) zz := ⟨_, q_isr _⟩
    refine q_gX4_7_26 cx hB hv kv ex28 dX4_figure_45 (fun lb29 ub29 => ?_)
    refine q_iret cx hr hlk hB dX4_figure_48 ⟨by omega, by omega⟩ ?_
    exact rfl
  by_cases c30 : p0 = 1
  · refine lv_tableIn (tgt := 49) cx.1 cx.2.1 dX4_figure_1 (by rw [q_toInt ⟨by omega, by omega⟩]; omega) (by rw [q_toInt ⟨by omega, by omega⟩]; omega) (off := 48) (by rw [q_toInt ⟨by omega, by omega⟩, c30]; rfl) (by decide) ?_
    refine q_ald_n cx dX4_figure_49 rfl (lv_at hl 0 rfl) ?_
    obtain ⟨x31, ex31⟩ : ∃ zz, q_is (q_z f v 1) zz := ⟨_, q_isr _⟩
    refine q_gX4_13_26 cx hB hv kv ex31 dX4_figure_50 (fun lb32 ub32 => ?_)
    refine q_iret cx hr hlk hB dX4_figure_53 ⟨by omega, by omega⟩ ?_
    exact rfl
  by_cases c33 : p0 = 2
  · refine lv_tableIn (tgt := 54) cx.1 cx.2.1 dX4_figure_1 (by rw [q_toInt ⟨by omega, by omega⟩]; omega) (by rw [q_toInt ⟨by omega, by omega⟩]; omega) (off := 53) (by rw [q_toInt ⟨by omega, by omega⟩, c33]; rfl) (by decide) ?_
    refine q_ald_n cx dX4_figure_54 rfl (lv_at hl 0 rfl) ?_
    obtain ⟨x34, ex34⟩ : ∃ zz, q_is (q_z f v 2) zz := ⟨_, q_isr _⟩
    refine q_gX4_16_26 cx hB hv kv ex34 dX4_figure_55 (fun lb35 ub35 => ?_)
    refine q_iret cx hr hlk hB dX4_figure_58 ⟨by omega, by omega⟩ ?_
    exact rfl
  by_cases c36 : p0 = 3
  · refine lv_tableIn (tgt := 59) cx.1 cx.2.1 dX4_figure_1 (by rw [q_toInt ⟨by omega, by omega⟩]; omega) (by rw [q_toInt ⟨by omega, by omega⟩]; omega) (off := 58) (by rw [q_toInt ⟨by omega, by omega⟩, c36]; rfl) (by decide) ?_
    refine q_ald_n cx dX4_figure_59 rfl (lv_at hl 0 rfl) ?_
    obtain ⟨x37, ex37⟩ : ∃ zz, q_is (q_z f v 3) zz := ⟨_, q_isr _⟩
    refine q_gX4_19_26 cx hB hv kv ex37 dX4_figure_60 (fun lb38 ub38 => ?_)
    refine q_iret cx hr hlk hB dX4_figure_63 ⟨by omega, by omega⟩ ?_
    exact rfl
  by_cases c39 : p0 = 4
  · refine lv_tableIn (tgt := 64) cx.1 cx.2.1 dX4_figure_1 (by rw [q_toInt ⟨by omega, by omega⟩]; omega) (by rw [q_toInt ⟨by omega, by omega⟩]; omega) (off := 63) (by rw [q_toInt ⟨by omega, by omega⟩, c39]; rfl) (by decide) ?_
    refine q_ald_n cx dX4_figure_64 rfl (lv_at hl 0 rfl) ?_
    obtain ⟨x40, ex40⟩ : ∃ zz, q_is (q_z f v 4) zz := ⟨_, q_isr _⟩
    refine q_gX4_22_26 cx hB hv kv ex40 dX4_figure_65 (fun lb41 ub41 => ?_)
    refine q_iret cx hr hlk hB dX4_figure_68 ⟨by omega, by omega⟩ ?_
    exact rfl
  by_cases c42 : p0 = 5
  · refine lv_tableIn (tgt := 69) cx.1 cx.2.1 dX4_figure_1 (by rw [q_toInt ⟨by omega, by omega⟩]; omega) (by rw [q_toInt ⟨by omega, by omega⟩]; omega) (off := 68) (by rw [q_toInt ⟨by omega, by omega⟩, c42]; rfl) (by decide) ?_
    refine q_ald_n cx dX4_figure_69 rfl (lv_at hl 0 rfl) ?_
    obtain ⟨x43, ex43⟩ : ∃ zz, q_is (q_z f v 7) zz := ⟨_, q_isr _⟩
    refine q_gX4_31_26 cx hB hv kv ex43 dX4_figure_70 (fun lb44 ub44 => ?_)
    refine q_ifeq (tgt := 80) cx ⟨by omega, by omega⟩ dX4_figure_73 (by decide) (fun c45 => ?_) (fun c45 => ?_)
    · refine q_iconst cx dX4_figure_80 ?_
      exact J81 0 (by decide) (by decide) (by omega) (by omega) H locs hB ls (lv_sub hl [] rfl)
    · refine q_iconst cx dX4_figure_76 ?_
      refine lv_goto (tgt := 81) cx.1 cx.2.1 dX4_figure_77 (by decide) ?_
      exact J81 1 (by decide) (by decide) (by omega) (by omega) H locs hB ls (lv_sub hl [] rfl)
  by_cases c46 : p0 = 6
  · refine lv_tableIn (tgt := 82) cx.1 cx.2.1 dX4_figure_1 (by rw [q_toInt ⟨by omega, by omega⟩]; omega) (by rw [q_toInt ⟨by omega, by omega⟩]; omega) (off := 81) (by rw [q_toInt ⟨by omega, by omega⟩, c46]; rfl) (by decide) ?_
    refine q_ald_n cx dX4_figure_82 rfl (lv_at hl 0 rfl) ?_
    obtain ⟨x47, ex47⟩ : ∃ zz, q_is (q_z f v 5) zz := ⟨_, q_isr _⟩
    refine q_gX4_25_26 cx hB hv kv ex47 dX4_figure_83 (fun lb48 ub48 => ?_)
    refine q_iret cx hr hlk hB dX4_figure_86 ⟨by omega, by omega⟩ ?_
    exact rfl
  refine lv_tableOut (tgt := 87) cx.1 cx.2.1 dX4_figure_1 (by rw [q_toInt ⟨by omega, by omega⟩]; omega) (by decide) ?_
  refine q_ald_n cx dX4_figure_87 rfl (lv_at hl 0 rfl) ?_
  obtain ⟨x49, ex49⟩ : ∃ zz, q_is (q_z f v 6) zz := ⟨_, q_isr _⟩
  refine q_gX4_28_26 cx hB hv kv ex49 dX4_figure_88 (fun lb50 ub50 => ?_)
  refine q_iret cx hr hlk hB dX4_figure_91 ⟨by omega, by omega⟩ ?_
  exact rfl
set_option maxHeartbeats 4000000 in
set_option maxRecDepth 100000 in
theorem g_X4_figure_3 (l : Launch) (g : q_G) {K : Nat → Nat} {L : List Nat} (hN : L.Nodup) {f : Nat → va_E} (hT : q_Ty g K L f) (v : Nat) (hv : v ∈ L) (kv : K v = 27) (p0 : Int) (lp0 : (-2147483648) ≤ p0) (up0 : p0 ≤ 2147483647) : q_Ct l g K L yX4_figure cX4_figure 2 (some .int) 0 0 [.ref v, .int (q_i p0)] f [] (q_Pi (fun (z : Int) (f1 : Nat → va_E) => f = f1)) := by
  refine q_ofb (by decide +kernel) hN hT (Nat.le_of_ble_eq_true rfl) ?_
  intro p e s m below meth c ls cx hr hlk hB hl
  have hl : lv_has ls 2 [(0, .ref v), (1, .int (q_i p0))] := hl
  have J81 : ∀ (t81_0 : Int) (lt81_0 : 0 ≤ t81_0) (ut81_0 : t81_0 ≤ 1) (blp0 : 5 ≤ p0) (bup0 : p0 ≤ 5) (H : Heap) (locs : List Loc) (hB : q_B g K L (fun q => q ∈ L) [] f f s H locs) (ls : Array Slot) (hl : lv_has ls 2 []), W p l e { frames := 0, cells := 0, slots := 0, locals := 0 } s m ([.ref v, .int (q_i p0)] : List Value).toArray below meth c H locs 0 0 (MQ below (q_Q g K L [] f (q_Pi (fun (z : Int) (f1 : Nat → va_E) => f = f1))) ([.ref v, .int (q_i p0)] : List Value).toArray s 0 0 (fun q => q ∈ L)) (F0 m 81 ls [.int (q_i t81_0)]) := by
    intro t81_0 lt81_0 ut81_0 blp0 bup0 H locs hB ls hl
    refine q_iret cx hr hlk hB dX4_figure_81 ⟨by omega, by omega⟩ ?_
    exact rfl
  obtain ⟨H, hH⟩ : ∃ H : Heap, H = s.heap := ⟨_, rfl⟩
  obtain ⟨locs, hlocs⟩ : ∃ z : List Loc, z = [] := ⟨_, rfl⟩
  rw [← hH, ← hlocs] at hB
  rw [← hH, ← hlocs]
  refine q_ild_n cx dX4_figure_0 rfl (lv_at hl 1 rfl) ?_
  by_cases c27 : p0 = 0
  · refine lv_tableIn (tgt := 44) cx.1 cx.2.1 dX4_figure_1 (by rw [q_toInt ⟨by omega, by omega⟩]; omega) (by rw [q_toInt ⟨by omega, by omega⟩]; omega) (off := 43) (by rw [q_toInt ⟨by omega, by omega⟩, c27]; rfl) (by decide) ?_
    refine q_ald_n cx dX4_figure_44 rfl (lv_at hl 0 rfl) ?_
    obtain ⟨x28, ex28⟩ : ∃ zz, q_is (q_z f v 0) zz := ⟨_, q_isr _⟩
    refine q_gX4_7_27 cx hB hv kv ex28 dX4_figure_45 (fun lb29 ub29 => ?_)
    refine q_iret cx hr hlk hB dX4_figure_48 ⟨by omega, by omega⟩ ?_
    exact rfl
  by_cases c30 : p0 = 1
  · refine lv_tableIn (tgt := 49) cx.1 cx.2.1 dX4_figure_1 (by rw [q_toInt ⟨by omega, by omega⟩]; omega) (by rw [q_toInt ⟨by omega, by omega⟩]; omega) (off := 48) (by rw [q_toInt ⟨by omega, by omega⟩, c30]; rfl) (by decide) ?_
    refine q_ald_n cx dX4_figure_49 rfl (lv_at hl 0 rfl) ?_
    obtain ⟨x31, ex31⟩ : ∃ zz, q_is (q_z f v 1) zz := ⟨_, q_isr _⟩
    refine q_gX4_13_27 cx hB hv kv ex31 dX4_figure_50 (fun lb32 ub32 => ?_)
    refine q_iret cx hr hlk hB dX4_figure_53 ⟨by omega, by omega⟩ ?_
    exact rfl
  by_cases c33 : p0 = 2
  · refine lv_tableIn (tgt := 54) cx.1 cx.2.1 dX4_figure_1 (by rw [q_toInt ⟨by omega, by omega⟩]; omega) (by rw [q_toInt ⟨by omega, by omega⟩]; omega) (off := 53) (by rw [q_toInt ⟨by omega, by omega⟩, c33]; rfl) (by decide) ?_
    refine q_ald_n cx dX4_figure_54 rfl (lv_at hl 0 rfl) ?_
    obtain ⟨x34, ex34⟩ : ∃ zz, q_is (q_z f v 2) zz := ⟨_, q_isr _⟩
    refine q_gX4_16_27 cx hB hv kv ex34 dX4_figure_55 (fun lb35 ub35 => ?_)
    refine q_iret cx hr hlk hB dX4_figure_58 ⟨by omega, by omega⟩ ?_
    exact rfl
  by_cases c36 : p0 = 3
  · refine lv_tableIn (tgt := 59) cx.1 cx.2.1 dX4_figure_1 (by rw [q_toInt ⟨by omega, by omega⟩]; omega) (by rw [q_toInt ⟨by omega, by omega⟩]; omega) (off := 58) (by rw [q_toInt ⟨by omega, by omega⟩, c36]; rfl) (by decide) ?_
    refine q_ald_n cx dX4_figure_59 rfl (lv_at hl 0 rfl) ?_
    obtain ⟨x37, ex37⟩ : ∃ zz, q_is (q_z f v 3) zz := ⟨_, q_isr _⟩
    refine q_gX4_19_27 cx hB hv kv ex37 dX4_figure_60 (fun lb38 ub38 => ?_)
    refine q_iret cx hr hlk hB dX4_figure_63 ⟨by omega, by omega⟩ ?_
    exact rfl
  by_cases c39 : p0 = 4
  · refine lv_tableIn (tgt := 64) cx.1 cx.2.1 dX4_figure_1 (by rw [q_toInt ⟨by omega, by omega⟩]; omega) (by rw [q_toInt ⟨by omega, by omega⟩]; omega) (off := 63) (by rw [q_toInt ⟨by omega, by omega⟩, c39]; rfl) (by decide) ?_
    refine q_ald_n cx dX4_figure_64 rfl (lv_at hl 0 rfl) ?_
    obtain ⟨x40, ex40⟩ : ∃ zz, q_is (q_z f v 4) zz := ⟨_, q_isr _⟩
    refine q_gX4_22_27 cx hB hv kv ex40 dX4_figure_65 (fun lb41 ub41 => ?_)
    refine q_iret cx hr hlk hB dX4_figure_68 ⟨by omega, by omega⟩ ?_
    exact rfl
  by_cases c42 : p0 = 5
  · refine lv_tableIn (tgt := 69) cx.1 cx.2.1 dX4_figure_1 (by rw [q_toInt ⟨by omega, by omega⟩]; omega) (by rw [q_toInt ⟨by omega, by omega⟩]; omega) (off := 68) (by rw [q_toInt ⟨by omega, by omega⟩, c42]; rfl) (by decide) ?_
    refine q_ald_n cx dX4_figure_69 rfl (lv_at hl 0 rfl) ?_
    obtain ⟨x43, ex43⟩ : ∃ zz, q_is (q_z f v 7) zz := ⟨_, q_isr _⟩
    refine q_gX4_31_27 cx hB hv kv ex43 dX4_figure_70 (fun lb44 ub44 => ?_)
    refine q_ifeq (tgt := 80) cx ⟨by omega, by omega⟩ dX4_figure_73 (by decide) (fun c45 => ?_) (fun c45 => ?_)
    · refine q_iconst cx dX4_figure_80 ?_
      exact J81 0 (by decide) (by decide) (by omega) (by omega) H locs hB ls (lv_sub hl [] rfl)
    · refine q_iconst cx dX4_figure_76 ?_
      refine lv_goto (tgt := 81) cx.1 cx.2.1 dX4_figure_77 (by decide) ?_
      exact J81 1 (by decide) (by decide) (by omega) (by omega) H locs hB ls (lv_sub hl [] rfl)
  by_cases c46 : p0 = 6
  · refine lv_tableIn (tgt := 82) cx.1 cx.2.1 dX4_figure_1 (by rw [q_toInt ⟨by omega, by omega⟩]; omega) (by rw [q_toInt ⟨by omega, by omega⟩]; omega) (off := 81) (by rw [q_toInt ⟨by omega, by omega⟩, c46]; rfl) (by decide) ?_
    refine q_ald_n cx dX4_figure_82 rfl (lv_at hl 0 rfl) ?_
    obtain ⟨x47, ex47⟩ : ∃ zz, q_is (q_z f v 5) zz := ⟨_, q_isr _⟩
    refine q_gX4_25_27 cx hB hv kv ex47 dX4_figure_83 (fun lb48 ub48 => ?_)
    refine q_iret cx hr hlk hB dX4_figure_86 ⟨by omega, by omega⟩ ?_
    exact rfl
  refine lv_tableOut (tgt := 87) cx.1 cx.2.1 dX4_figure_1 (by rw [q_toInt ⟨by omega, by omega⟩]; omega) (by decide) ?_
  refine q_ald_n cx dX4_figure_87 rfl (lv_at hl 0 rfl) ?_
  obtain ⟨x49, ex49⟩ : ∃ zz, q_is (q_z f v 6) zz := ⟨_, q_isr _⟩
  refine q_gX4_28_27 cx hB hv kv ex49 dX4_figure_88 (fun lb50 ub50 => ?_)
  refine q_iret cx hr hlk hB dX4_figure_91 ⟨by omega, by omega⟩ ?_
  exact rfl
