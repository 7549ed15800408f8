/-! a contract says less (not seen by Lean yet) -/
theorem q_Ct_mono {l : Launch} {g : q_G} {K : Nat → Nat} {L : List Nat} {y : MethodName} {cc : ByteArray} {mL : Nat} {ret : Option FieldType} {fr lo : Nat} {As : List Value} {f : Nat → va_E} {w : q_Ws} {Po Po2 : Option Value → (Nat → va_E) → Prop} (h : q_Ct l g K L y cc mL ret fr lo As f w Po) (hP : ∀ r f1, q_Fr w K L f f1 → Po r f1 → Po2 r f1) : q_Ct l g K L y cc mL ret fr lo As f w Po2 := by
  intro p e ha hc hk s m args below h1 h2 h3 h4
  obtain ⟨n, o, a, b, c, ⟨⟨r, f1, ho, hp, ht, hf, hu⟩, hF⟩, hL⟩ := h p e ha hc hk s m args below h1 h2 h3 h4
  exact ⟨n, o, a, b, c, ⟨⟨r, f1, ho, hP r f1 hf hp, ht, hf, hu⟩, hF⟩, hL⟩
/-- what stands in the fields of a token -/
theorem tk_tc_k {f : Nat → va_E} {so : Nat} {B : Nat → Int} {n s x : Int} (h : tk_tc f so B n) (h8 : q_is (q_z f so 8) s) (h6 : q_is (q_z f so 6) x) : x = tk_k B n s := by
  have h8 : q_z f so 8 = s := h8
  have h6 : q_z f so 6 = x := h6
  have := h.2.2.1
  rw [h8, h6] at this
  exact this
theorem tk_tc_n {f : Nat → va_E} {so : Nat} {B : Nat → Int} {n s : Int} (h : tk_tc f so B n) (h8 : q_is (q_z f so 8) s) : q_z f so 9 = tk_n B n s ∧ 0 ≤ s ∧ s ≤ n ∧ s ≤ tk_n B n s ∧ tk_n B n s ≤ n := by
  have h8 : q_z f so 8 = s := h8
  obtain ⟨a0, a1, -, a2, -, -⟩ := h
  rw [h8] at a0 a1 a2
  have h1 := tk_n_le (B := B) a1
  exact ⟨a2, a0, a1, h1.1, h1.2⟩
theorem tk_tc_w {f : Nat → va_E} {so : Nat} {B : Nat → Int} {n s : Int} (h : tk_tc f so B n) (h8 : q_is (q_z f so 8) s) (hk : tk_k B n s = 1) : q_j f so 4 = tk_cw (tk_w B n s) := by
  have h8 : q_z f so 8 = s := h8
  have := h.2.2.2.2.1
  rw [h8] at this
  exact this hk
theorem tk_tc_v {f : Nat → va_E} {so : Nat} {B : Nat → Int} {n s x : Int} (h : tk_tc f so B n) (h8 : q_is (q_z f so 8) s) (hk : tk_k B n s = 2) (h7 : q_is (q_z f so 7) x) : x = tk_v B n s := by
  have h8 : q_z f so 8 = s := h8
  have h7 : q_z f so 7 = x := h7
  have := h.2.2.2.2.2
  rw [h8, h7] at this
  exact this hk
/-! what is taken -/
theorem tk_mk_ok {B : Nat → Int} {n q s x : Int} (h : tk_k B n s = q) (e : x = tk_nx B n s) : tk_mk B n q s = tk_ok x := by
  unfold tk_mk; rw [if_pos h, e]
theorem tk_mk_er {B : Nat → Int} {n q s a b : Int} (h : tk_k B n s ≠ q) (ha : q_is a 1) (hb : q_is b s) : tk_mk B n q s = tk_er a b := by
  have ha : a = 1 := ha
  have hb : b = s := hb
  unfold tk_mk; rw [if_neg h, ha, hb]
theorem tk_nm_ok {B : Nat → Int} {n lo hi s k v x : Int} (hk : k = tk_k B n s) (h2 : k = 2) (hv : v = tk_v B n s) (h3 : lo ≤ v) (h4 : v ≤ hi) (e : x = tk_nx B n s) : tk_nm B n lo hi s = tk_ok x := by
  unfold tk_nm; rw [if_pos (hk.symm.trans h2), ← hv, if_pos ⟨h3, h4⟩, e]
theorem tk_nm_er1 {B : Nat → Int} {n lo hi s k a b : Int} (hk : k = tk_k B n s) (h2 : ¬ k = 2) (ha : q_is a 1) (hb : q_is b s) : tk_nm B n lo hi s = tk_er a b := by
  have ha : a = 1 := ha
  have hb : b = s := hb
  unfold tk_nm; rw [if_neg (fun h => h2 (hk.trans h)), ha, hb]
theorem tk_nm_er2 {B : Nat → Int} {n lo hi s k v a b : Int} (hk : k = tk_k B n s) (h2 : k = 2) (hv : v = tk_v B n s) (h3 : ¬ (lo ≤ v ∧ v ≤ hi)) (ha : q_is a 2) (hb : q_is b s) : tk_nm B n lo hi s = tk_er a b := by
  have ha : a = 2 := ha
  have hb : b = s := hb
  unfold tk_nm; rw [if_pos (hk.symm.trans h2), ← hv, if_neg h3, ha, hb]
theorem tk_wd_ok {B : Nat → Int} {n s x : Int} {w : List Int} (h : tk_isw9 B n w s) (e : x = tk_nx B n s) : tk_wd B n w s = tk_ok x := by
  have h : tk_k B n s = 1 ∧ tk_w B n s = w := h
  unfold tk_wd; rw [if_pos h, e]
theorem tk_wd_er {B : Nat → Int} {n s a b : Int} {w : List Int} (h : ¬ tk_isw9 B n w s) (ha : q_is a 1) (hb : q_is b s) : tk_wd B n w s = tk_er a b := by
  have ha : a = 1 := ha
  have hb : b = s := hb
  have h : ¬ (tk_k B n s = 1 ∧ tk_w B n s = w) := h
  unfold tk_wd; rw [if_neg h, ha, hb]
/-! words, letter by letter -/
theorem tk_w_isw {B : Nat → Int} {n s : Int} (h : 0 ≤ s) : tk_isw (tk_w B n s) := ⟨(tk_w_ok h).2, (tk_w_ok h).1⟩
theorem q_i_inj9 {a b : Int} (ha : -2147483648 ≤ a ∧ a ≤ 2147483647) (hb : -2147483648 ≤ b ∧ b ≤ 2147483647) (h : q_i a = q_i b) : a = b := by
  have h := congrArg Int32.toInt h
  unfold q_i at h
  rw [Int32.toInt_ofInt, Int32.toInt_ofInt] at h
  have e1 : Int.bmod a Int32.size = a := by
    show Int.bmod a 4294967296 = a
    rw [Int.bmod_eq_of_le] <;> omega
  have e2 : Int.bmod b Int32.size = b := by
    show Int.bmod b 4294967296 = b
    rw [Int.bmod_eq_of_le] <;> omega
  omega
theorem tk_getD_le {l : List Int} (h : tk_isw l) (i : Nat) : 0 ≤ l.getD i 0 ∧ l.getD i 0 ≤ 122 := by
  rw [List.getD_eq_getElem?_getD]
  by_cases hi : i < l.length
  · rw [List.getElem?_eq_getElem hi]
    have := h.2 l[i] (List.getElem_mem hi)
    show 0 ≤ l[i] ∧ l[i] ≤ 122
    omega
  · rw [List.getElem?_eq_none (by omega)]
    exact ⟨Int.le_refl _, by decide⟩
theorem tk_getD_pos {l : List Int} (h : tk_isw l) {i : Nat} (hi : i < l.length) : 97 ≤ l.getD i 0 := by
  rw [List.getD_eq_getElem?_getD, List.getElem?_eq_getElem hi]
  exact (h.2 l[i] (List.getElem_mem hi)).1
theorem tk_getD_out {l : List Int} {i : Nat} (hi : l.length ≤ i) : l.getD i 0 = 0 := by
  rw [List.getD_eq_getElem?_getD, List.getElem?_eq_none hi]
  rfl
theorem tk_letter9 {w : Int64} {wl : List Int} {p y : Int} {j1 j2 : Int64} {c : Int64} (hw : w = tk_cw wl) (hv : tk_isw wl) (h0 : 0 ≤ p) (h7 : p ≤ 7) (hc : c = q_l 255) (e1 : j1 = w >>> ((q_i (8 * p)).toInt64 &&& 63)) (e2 : j2 = j1 &&& c) (e3 : j2.toInt32 = q_i y) (hy : -2147483648 ≤ y ∧ y ≤ 2147483647) : y = wl.getD (Int.toNat p) 0 := by
  obtain ⟨k, rfl⟩ : ∃ k : Nat, p = (k : Int) := ⟨p.toNat, by omega⟩
  have h := tk_letter hv.2 hv.1 (i := k) (by omega)
  have hb := tk_getD_le hv k
  rw [← hw, ← e1, ← hc, ← e2, e3] at h
  show y = wl.getD k 0
  exact q_i_inj9 hy (by omega) h
theorem tk_is8 {l m : List Int} (hl : tk_isw l) (hm : tk_isw m) (e0 : l.getD 0 0 = m.getD 0 0) (e1 : l.getD 1 0 = m.getD 1 0) (e2 : l.getD 2 0 = m.getD 2 0) (e3 : l.getD 3 0 = m.getD 3 0) (e4 : l.getD 4 0 = m.getD 4 0) (e5 : l.getD 5 0 = m.getD 5 0) (e6 : l.getD 6 0 = m.getD 6 0) (e7 : l.getD 7 0 = m.getD 7 0) : l = m := by
  have key : ∀ i : Nat, i < 8 → l.getD i 0 = m.getD i 0 := by
    intro i hi
    match i, hi with
    | 0, _ => exact e0
    | 1, _ => exact e1
    | 2, _ => exact e2
    | 3, _ => exact e3
    | 4, _ => exact e4
    | 5, _ => exact e5
    | 6, _ => exact e6
    | 7, _ => exact e7
  have hlen : l.length = m.length := by
    rcases Nat.lt_trichotomy l.length m.length with h | h | h
    · have h1 := key l.length (by have := hm.1; omega)
      have h2 := tk_getD_pos hm h
      rw [tk_getD_out (Nat.le_refl _)] at h1
      omega
    · exact h
    · have h1 := key m.length (by have := hl.1; omega)
      have h2 := tk_getD_pos hl h
      rw [tk_getD_out (l := m) (Nat.le_refl _)] at h1
      omega
  refine List.ext_getElem hlen fun i h1 h2 => ?_
  have h := key i (by have := hl.1; omega)
  rw [List.getD_eq_getElem?_getD, List.getD_eq_getElem?_getD, List.getElem?_eq_getElem h1, List.getElem?_eq_getElem h2] at h
  exact h
