/-! rows over the world -/
theorem q_plget {L : List Nat} {f : Nat → va_E} {a : Nat} (h : a ∈ L) : ∃ k : Nat, (va_pl L f)[k]? = some (a, f a) := va_pl_get (X := []) h
theorem q_plset {A : Nat → Prop} {L : List Nat} {f : Nat → va_E} {a k : Nat} {e : va_E} (hD : va_D A (va_pl L f)) (h : a ∈ L) (hk : (va_pl L f)[k]? = some (a, f a)) : (va_pl L f).set k (a, e) = va_pl L (va_up f a e) := va_pl_set (X := []) hD h hk
theorem q_Fr_set {w : q_Ws} {K : Nat → Nat} {L : List Nat} {f0 f : Nat → va_E} {a i : Nat} {v : Value} (h : q_Fr w K L f0 f) (hi : q_inW w (K a) i = true) : q_Fr w K L f0 (q_set f a i v) := by
  intro b hb j hj
  refine (q_set_ne ?_).trans (h b hb j hj)
  by_cases q : b = a
  · subst q
    right
    intro q2
    subst q2
    rw [hi] at hj
    cases hj
  · exact Or.inl q
section QH
variable {p : Program} {l : Launch} {e : Env} {R : Room} {s : State} {m : MethodId} {args : Array Value} {below : List Frame} {meth : Method} {c : Code} {H : Heap} {locs : List Loc} {cells slots : Nat} {Q : State → Prop}
variable {cc : ByteArray} {pc nL : Nat} {ls : Array Slot} {rest : List Value} {own C ref : String} {T : u_T} {N index a k j : Nat}
variable {g : q_G} {K : Nat → Nat} {L : List Nat} {A : Nat → Prop} {w : q_Ws} {f0 f : Nat → va_E}
theorem q_getv (cx : CallFix p m c cc nL s args q_al own) (hB : q_B g K L A w f0 f s H locs) (ha : a ∈ L) {fs : List Value} (hf : f a = .inr (q_ck k, fs)) (hcl : vwCl[q_ck k]? = some (C, T, N)) (hin : ∀ w ∈ u_ws C T N, w ∈ q_al) (hjN : j < N) (hlink : Cond.fieldLink own index (T j).1 (T j).2.1 (T j).2.2.1 ∈ q_al) {v : Value} (hv : fs[j]? = some v) (hdg : decode cc pc = .ok (.getfield index, 3))
    (kk : W p l e R s m args below meth c H locs cells slots Q (F0 m (pc + 3) ls (v :: rest))) : W p l e R s m args below meth c H locs cells slots Q (F0 m pc ls (.ref a :: rest)) := by
  obtain ⟨⟨hP, hD, hK, hS⟩, -, -⟩ := hB
  obtain ⟨q0, hq⟩ := q_plget (f := f) ha
  rw [hf] at hq
  exact va_get cx.1 cx.2.1 cx.2.2.2.2 hin cx.2.2.2.1 hK hP q0 hq hcl j hjN (cx.2.2.2.2 _ hlink) (fun _ h => h) hv hdg kk
theorem q_geti {lo hi x : Int} (cx : CallFix p m c cc nL s args q_al own) (hB : q_B g K L A w f0 f s H locs) (ha : a ∈ L) (hk : K a = k) (h20 : k < 100) (hj : (q_ft k)[j]? = some (0, lo, hi)) (hcl : vwCl[q_ck k]? = some (C, T, N)) (hin : ∀ w ∈ u_ws C T N, w ∈ q_al) (hjN : j < N) (hlink : Cond.fieldLink own index (T j).1 (T j).2.1 (T j).2.2.1 ∈ q_al) (hv : q_z f a j = x) (hdg : decode cc pc = .ok (.getfield index, 3))
    (kk : lo ≤ x → x ≤ hi → W p l e R s m args below meth c H locs cells slots Q (F0 m (pc + 3) ls (.int (q_i x) :: rest))) : W p l e R s m args below meth c H locs cells slots Q (F0 m pc ls (.ref a :: rest)) := by
  obtain ⟨fs, h1, h2, h3, h4, h5⟩ := q_fi hB.2.1 ha hk h20 hj
  rw [hv] at h3 h4 h5
  exact q_getv cx hB ha h1 hcl hin hjN hlink h3 hdg (kk h4 h5)
theorem q_getr {k2 hi : Int} {b : Nat} (cx : CallFix p m c cc nL s args q_al own) (hB : q_B g K L A w f0 f s H locs) (ha : a ∈ L) (hk : K a = k) (h20 : k < 100) (hj : (q_ft k)[j]? = some (2, k2, hi)) (hcl : vwCl[q_ck k]? = some (C, T, N)) (hin : ∀ w ∈ u_ws C T N, w ∈ q_al) (hjN : j < N) (hlink : Cond.fieldLink own index (T j).1 (T j).2.1 (T j).2.2.1 ∈ q_al) (hv : q_r f a j = b) (hdg : decode cc pc = .ok (.getfield index, 3))
    (kk : b ∈ L → K b = k2.toNat → W p l e R s m args below meth c H locs cells slots Q (F0 m (pc + 3) ls (.ref b :: rest))) : W p l e R s m args below meth c H locs cells slots Q (F0 m pc ls (.ref a :: rest)) := by
  obtain ⟨fs, h1, h2, h3, h4, h5⟩ := q_fr hB.2.1 ha hk h20 hj
  rw [hv] at h3 h4 h5
  exact q_getv cx hB ha h1 hcl hin hjN hlink h3 hdg (kk h4 h5)
theorem q_getl {lo hi : Int} {x : Int64} (cx : CallFix p m c cc nL s args q_al own) (hB : q_B g K L A w f0 f s H locs) (ha : a ∈ L) (hk : K a = k) (h20 : k < 100) (hj : (q_ft k)[j]? = some (1, lo, hi)) (hcl : vwCl[q_ck k]? = some (C, T, N)) (hin : ∀ w ∈ u_ws C T N, w ∈ q_al) (hjN : j < N) (hlink : Cond.fieldLink own index (T j).1 (T j).2.1 (T j).2.2.1 ∈ q_al) (hv : q_j f a j = x) (hdg : decode cc pc = .ok (.getfield index, 3))
    (kk : W p l e R s m args below meth c H locs cells slots Q (F0 m (pc + 3) ls (.long x :: rest))) : W p l e R s m args below meth c H locs cells slots Q (F0 m pc ls (.ref a :: rest)) := by
  obtain ⟨fs, h1, h2, h3⟩ := q_fl hB.2.1 ha hk h20 hj
  rw [hv] at h3
  exact q_getv cx hB ha h1 hcl hin hjN hlink h3 hdg kk
theorem q_putv (cx : CallFix p m c cc nL s args q_al own) (hB : q_B g K L A w f0 f s H locs) (ha : a ∈ L) (hk : K a = k) (h20 : k < 100) {t : q_T} (hj : (q_ft k)[j]? = some t) (hcl : vwCl[q_ck k]? = some (C, T, N)) (hin : ∀ w ∈ u_ws C T N, w ∈ q_al) (ty0 : Nat → FieldType) (hty : ∀ k, k < N → parseFieldDescriptor (T k).2.2.1 = some (ty0 k)) (hnm : ∀ a, a < N → ∀ b, b < N → a ≠ b → (T a).2.1 ≠ (T b).2.1) (hjN : j < N) (hfin : (T j).2.2.2 = false) (hlink : Cond.fieldLink own index (T j).1 (T j).2.1 (T j).2.2.1 ∈ q_al) {v : Value} (hn : narrow (ty0 j) v = v) (hfit : fits (ty0 j) v = true) (hok : q_ok K L t v) (hw : q_inW w k j = true) (hdg : decode cc pc = .ok (.putfield index, 3))
    (kk : ∀ (H1 : Heap) (locs1 : List Loc) (f1 : Nat → va_E), f1 = q_set f a j v → q_v f1 a j = v → q_B g K L A w f0 f1 s H1 locs1 → W p l e R s m args below meth c H1 locs1 cells slots Q (F0 m (pc + 3) ls rest)) : W p l e R s m args below meth c H locs cells slots Q (F0 m pc ls (v :: .ref a :: rest)) := by
  obtain ⟨⟨hP, hD, hK, hS⟩, hT, hF⟩ := hB
  obtain ⟨fs, h1, h2, -⟩ := q_ty_obj hT ha hk h20
  have hl : j < fs.length := by rw [h2]; exact (List.getElem?_eq_some_iff.mp hj).1
  obtain ⟨q0, hq⟩ := q_plget (f := f) ha
  have hq2 := hq
  rw [h1] at hq2
  refine va_put cx.1 cx.2.1 cx.2.2.2.2 hin ty0 hty hnm cx.2.2.2.1 hK hP hD hS q0 hq2 hcl j hjN (cx.2.2.2.2 _ hlink) (fun _ h => h) hfin (hty j hjN) hn hfit hl hdg (fun H1 locs1 hP1 hD1 hS1 => ?_)
  have e : q_set f a j v = va_up f a (.inr (q_ck k, fs.set j v)) := by simp only [q_set, h1, q_setE]
  rw [q_plset hD ha hq, ← e] at hP1 hD1
  exact kk H1 locs1 _ rfl (q_set_eq h1 hl) ⟨⟨hP1, hD1, hK, hS1⟩, q_ty_set hT hk h20 hj hok, q_Fr_set hF (by rw [hk]; exact hw)⟩
theorem q_puti {lo hi x : Int} (cx : CallFix p m c cc nL s args q_al own) (hB : q_B g K L A w f0 f s H locs) (ha : a ∈ L) (hk : K a = k) (h20 : k < 100) (hj : (q_ft k)[j]? = some (0, lo, hi)) (hcl : vwCl[q_ck k]? = some (C, T, N)) (hin : ∀ w ∈ u_ws C T N, w ∈ q_al) (ty0 : Nat → FieldType) (hty : ∀ k, k < N → parseFieldDescriptor (T k).2.2.1 = some (ty0 k)) (hnm : ∀ a, a < N → ∀ b, b < N → a ≠ b → (T a).2.1 ≠ (T b).2.1) (hjN : j < N) (hfin : (T j).2.2.2 = false) (hlink : Cond.fieldLink own index (T j).1 (T j).2.1 (T j).2.2.1 ∈ q_al) (hn : narrow (ty0 j) (.int (q_i x)) = .int (q_i x)) (hfit : fits (ty0 j) (.int (q_i x)) = true) (hr : q_R x) (h1 : lo ≤ x) (h2 : x ≤ hi) (hw : q_inW w k j = true) (hdg : decode cc pc = .ok (.putfield index, 3))
    (kk : ∀ (H1 : Heap) (locs1 : List Loc) (f1 : Nat → va_E), f1 = q_set f a j (.int (q_i x)) → q_z f1 a j = x → q_B g K L A w f0 f1 s H1 locs1 → W p l e R s m args below meth c H1 locs1 cells slots Q (F0 m (pc + 3) ls rest)) : W p l e R s m args below meth c H locs cells slots Q (F0 m pc ls (.int (q_i x) :: .ref a :: rest)) :=
  q_putv cx hB ha hk h20 hj hcl hin ty0 hty hnm hjN hfin hlink hn hfit ⟨_, rfl, by rw [q_toInt hr]; exact h1, by rw [q_toInt hr]; exact h2⟩ hw hdg (fun H1 locs1 f1 e1 e2 hB1 => kk H1 locs1 f1 e1 (by rw [q_z, e2]; exact q_toInt hr) hB1)
theorem q_putr {k2 hi : Int} {b : Nat} (cx : CallFix p m c cc nL s args q_al own) (hB : q_B g K L A w f0 f s H locs) (ha : a ∈ L) (hk : K a = k) (h20 : k < 100) (hj : (q_ft k)[j]? = some (2, k2, hi)) (hcl : vwCl[q_ck k]? = some (C, T, N)) (hin : ∀ w ∈ u_ws C T N, w ∈ q_al) (ty0 : Nat → FieldType) (hty : ∀ k, k < N → parseFieldDescriptor (T k).2.2.1 = some (ty0 k)) (hnm : ∀ a, a < N → ∀ b, b < N → a ≠ b → (T a).2.1 ≠ (T b).2.1) (hjN : j < N) (hfin : (T j).2.2.2 = false) (hlink : Cond.fieldLink own index (T j).1 (T j).2.1 (T j).2.2.1 ∈ q_al) (hn : narrow (ty0 j) (.ref b) = .ref b) (hfit : fits (ty0 j) (.ref b) = true) (h1 : b ∈ L) (h2 : K b = k2.toNat) (hw : q_inW w k j = true) (hdg : decode cc pc = .ok (.putfield index, 3))
    (kk : ∀ (H1 : Heap) (locs1 : List Loc) (f1 : Nat → va_E), f1 = q_set f a j (.ref b) → q_r f1 a j = b → q_B g K L A w f0 f1 s H1 locs1 → W p l e R s m args below meth c H1 locs1 cells slots Q (F0 m (pc + 3) ls rest)) : W p l e R s m args below meth c H locs cells slots Q (F0 m pc ls (.ref b :: .ref a :: rest)) :=
  q_putv cx hB ha hk h20 hj hcl hin ty0 hty hnm hjN hfin hlink hn hfit ⟨_, rfl, h1, h2⟩ hw hdg (fun H1 locs1 f1 e1 e2 hB1 => kk H1 locs1 f1 e1 (by rw [q_r, e2]; rfl) hB1)
theorem q_putl {lo hi : Int} {x : Int64} (cx : CallFix p m c cc nL s args q_al own) (hB : q_B g K L A w f0 f s H locs) (ha : a ∈ L) (hk : K a = k) (h20 : k < 100) (hj : (q_ft k)[j]? = some (1, lo, hi)) (hcl : vwCl[q_ck k]? = some (C, T, N)) (hin : ∀ w ∈ u_ws C T N, w ∈ q_al) (ty0 : Nat → FieldType) (hty : ∀ k, k < N → parseFieldDescriptor (T k).2.2.1 = some (ty0 k)) (hnm : ∀ a, a < N → ∀ b, b < N → a ≠ b → (T a).2.1 ≠ (T b).2.1) (hjN : j < N) (hfin : (T j).2.2.2 = false) (hlink : Cond.fieldLink own index (T j).1 (T j).2.1 (T j).2.2.1 ∈ q_al) (hn : narrow (ty0 j) (.long x) = .long x) (hfit : fits (ty0 j) (.long x) = true) (hw : q_inW w k j = true) (hdg : decode cc pc = .ok (.putfield index, 3))
    (kk : ∀ (H1 : Heap) (locs1 : List Loc) (f1 : Nat → va_E), f1 = q_set f a j (.long x) → q_j f1 a j = x → q_B g K L A w f0 f1 s H1 locs1 → W p l e R s m args below meth c H1 locs1 cells slots Q (F0 m (pc + 3) ls rest)) : W p l e R s m args below meth c H locs cells slots Q (F0 m pc ls (.long x :: .ref a :: rest)) :=
  q_putv cx hB ha hk h20 hj hcl hin ty0 hty hnm hjN hfin hlink hn hfit ⟨_, rfl⟩ hw hdg (fun H1 locs1 f1 e1 e2 hB1 => kk H1 locs1 f1 e1 (by rw [q_j, e2]; rfl) hB1)
/-! arrays -/
theorem q_alen {n : Nat} (cx : CallFix p m c cc nL s args q_al own) (hB : q_B g K L A w f0 f s H locs) (ha : a ∈ L) (hk : K a = k) (h20 : ¬ k < 100) (hn : (q_at k).2 = n) (t0 : Nat) (ht0 : (q_at k).1 = t0) {ty : FieldType} (htt : (q_tys g)[t0]? = some (g.2 t0, ty)) (hdg : decode cc pc = .ok (.arraylength, 1))
    (kk : W p l e R s m args below meth c H locs cells slots Q (F0 m (pc + 1) ls (.int (q_i n) :: rest))) : W p l e R s m args below meth c H locs cells slots Q (F0 m pc ls (.ref a :: rest)) := by
  obtain ⟨⟨hP, hD, hK, hS⟩, hT, -⟩ := hB
  obtain ⟨h, h1, -, -⟩ := q_ty_arr hT ha hk h20
  obtain ⟨q0, hq⟩ := q_plget (f := f) ha
  rw [h1, hn, ht0] at hq
  exact va_alen cx.1 cx.2.1 hK hP q0 t0 hq htt (show Int32.ofNat n = q_i n from Int32.ofInt_eq_ofNat.symm) hdg kk
/-- an array of references read -/
theorem q_aald {k2 hi i : Int} {n : Nat} {b : Nat} {Ce : String} (cx : CallFix p m c cc nL s args q_al own) (hB : q_B g K L A w f0 f s H locs) (ha : a ∈ L) (hk : K a = k) (h20 : ¬ k < 100) (hn : (q_at k).2 = n) (t0 : Nat) (ht0 : (q_at k).1 = t0) (h4 : 3 ≤ t0) (htt : (q_tys g)[t0]? = some (g.2 t0, .object Ce)) (hi0 : 0 ≤ i) (hi1 : i < n) (hnn : n ≤ 2147483647) (he : q_et k i.toNat = (2, k2, hi)) (hv : q_r f a i.toNat = b) (hdg : decode cc pc = .ok (.aaload, 1))
    (kk : b ∈ L → K b = k2.toNat → W p l e R s m args below meth c H locs cells slots Q (F0 m (pc + 1) ls (.ref b :: rest))) : W p l e R s m args below meth c H locs cells slots Q (F0 m pc ls (.int (q_i i) :: .ref a :: rest)) := by
  obtain ⟨⟨hP, hD, hK, hS⟩, hT, -⟩ := hB
  obtain ⟨h, h1, h2, h3⟩ := q_ty_arr hT ha hk h20
  have hx : ∃ x, h = .inr (.inr (.inr (.inr x))) := by
    rw [ht0] at h2
    match t0, h4, h2 with
    | t + 3, _, h2 => exact h2
  obtain ⟨x, rfl⟩ := hx
  have hr : q_R i := ⟨by omega, by omega⟩
  have h5 := h3 i.toNat (by rw [hn]; omega)
  rw [he] at h5
  obtain ⟨y, h6, h7, h8⟩ := h5
  have e1 : va_rf (x i.toNat) = .ref y := by
    have : q_v f a i.toNat = va_rf (x i.toNat) := by simp only [q_v, h1, q_vE]
    rw [← this]; exact h6
  have e2 : q_r f a i.toNat = y := by simp only [q_r, h6, q_rv]
  rw [hv] at e2
  subst e2
  obtain ⟨q0, hq⟩ := q_plget (f := f) ha
  rw [h1, hn, ht0] at hq
  refine va_aldq cx.1 cx.2.1 hK hP q0 t0 hq htt (q_in hi0 hi1 hnn) hdg ?_
  rw [q_nat hr, e1]
  exact kk h7 h8
theorem q_iald {lo hi i x : Int} {n : Nat} (cx : CallFix p m c cc nL s args q_al own) (hB : q_B g K L A w f0 f s H locs) (ha : a ∈ L) (hk : K a = k) (h20 : ¬ k < 100) (hn : (q_at k).2 = n) (ht0 : (q_at k).1 = 1) (hi0 : 0 ≤ i) (hi1 : i < n) (hnn : n ≤ 2147483647) (he : q_et k i.toNat = (0, lo, hi)) (hv : q_z f a i.toNat = x) (hdg : decode cc pc = .ok (.iaload, 1))
    (kk : lo ≤ x → x ≤ hi → W p l e R s m args below meth c H locs cells slots Q (F0 m (pc + 1) ls (.int (q_i x) :: rest))) : W p l e R s m args below meth c H locs cells slots Q (F0 m pc ls (.int (q_i i) :: .ref a :: rest)) := by
  obtain ⟨⟨hP, hD, hK, hS⟩, hT, -⟩ := hB
  obtain ⟨h, h1, h2, h3⟩ := q_ty_arr hT ha hk h20
  rw [ht0] at h2
  obtain ⟨y, rfl⟩ := h2
  have hr : q_R i := ⟨by omega, by omega⟩
  have h5 := h3 i.toNat (by rw [hn]; omega)
  rw [he] at h5
  obtain ⟨z, h6, h7, h8⟩ := h5
  have e0 : q_v f a i.toNat = .int (y i.toNat) := by simp only [q_v, h1, q_vE]
  have e1 : y i.toNat = z := by
    rw [e0] at h6
    cases h6
    rfl
  have e2 : q_z f a i.toNat = z.toInt := by simp only [q_z, h6, q_iv]
  rw [hv] at e2
  obtain ⟨q0, hq⟩ := q_plget (f := f) ha
  rw [h1, hn, ht0] at hq
  refine va_iald cx.1 cx.2.1 hK hP q0 1 hq rfl (q_in hi0 hi1 hnn) hdg ?_
  rw [q_nat hr, e1, ← q_of z, ← e2]
  exact kk (by rw [e2]; exact h7) (by rw [e2]; exact h8)
theorem q_bald {lo hi i x : Int} {n : Nat} (cx : CallFix p m c cc nL s args q_al own) (hB : q_B g K L A w f0 f s H locs) (ha : a ∈ L) (hk : K a = k) (h20 : ¬ k < 100) (hn : (q_at k).2 = n) (ht0 : (q_at k).1 = 0) (hi0 : 0 ≤ i) (hi1 : i < n) (hnn : n ≤ 2147483647) (he : q_et k i.toNat = (0, lo, hi)) (hv : q_z f a i.toNat = x) (hdg : decode cc pc = .ok (.baload, 1))
    (kk : lo ≤ x → x ≤ hi → W p l e R s m args below meth c H locs cells slots Q (F0 m (pc + 1) ls (.int (q_i x) :: rest))) : W p l e R s m args below meth c H locs cells slots Q (F0 m pc ls (.int (q_i i) :: .ref a :: rest)) := by
  obtain ⟨⟨hP, hD, hK, hS⟩, hT, -⟩ := hB
  obtain ⟨h, h1, h2, h3⟩ := q_ty_arr hT ha hk h20
  rw [ht0] at h2
  obtain ⟨y, rfl⟩ := h2
  have hr : q_R i := ⟨by omega, by omega⟩
  have h5 := h3 i.toNat (by rw [hn]; omega)
  rw [he] at h5
  obtain ⟨z, h6, h7, h8⟩ := h5
  have e0 : q_v f a i.toNat = .int (y i.toNat) := by simp only [q_v, h1, q_vE]
  have e1 : y i.toNat = z := by
    rw [e0] at h6
    cases h6
    rfl
  have e2 : q_z f a i.toNat = z.toInt := by simp only [q_z, h6, q_iv]
  rw [hv] at e2
  obtain ⟨q0, hq⟩ := q_plget (f := f) ha
  rw [h1, hn, ht0] at hq
  refine va_bald cx.1 cx.2.1 hK hP q0 0 hq rfl (q_in hi0 hi1 hnn) hdg ?_
  rw [q_nat hr, e1, ← q_of z, ← e2]
  exact kk (by rw [e2]; exact h7) (by rw [e2]; exact h8)
theorem q_iast {lo hi i x : Int} {n : Nat} (cx : CallFix p m c cc nL s args q_al own) (hB : q_B g K L A w f0 f s H locs) (ha : a ∈ L) (hk : K a = k) (h20 : ¬ k < 100) (hn : (q_at k).2 = n) (ht0 : (q_at k).1 = 1) (hi0 : 0 ≤ i) (hi1 : i < n) (hnn : n ≤ 2147483647) (he : q_et k i.toNat = (0, lo, hi)) (hr : q_R x) (hx1 : lo ≤ x) (hx2 : x ≤ hi) (hw : q_inW w k i.toNat = true) (hdg : decode cc pc = .ok (.iastore, 1))
    (kk : ∀ (H1 : Heap) (locs1 : List Loc) (f1 : Nat → va_E), f1 = q_set f a i.toNat (.int (q_i x)) → q_z f1 a i.toNat = x → q_B g K L A w f0 f1 s H1 locs1 → W p l e R s m args below meth c H1 locs1 cells slots Q (F0 m (pc + 1) ls rest)) : W p l e R s m args below meth c H locs cells slots Q (F0 m pc ls (.int (q_i x) :: .int (q_i i) :: .ref a :: rest)) := by
  obtain ⟨⟨hP, hD, hK, hS⟩, hT, hF⟩ := hB
  obtain ⟨h, h1, h2, h3⟩ := q_ty_arr hT ha hk h20
  rw [ht0] at h2
  obtain ⟨y, rfl⟩ := h2
  have hri : q_R i := ⟨by omega, by omega⟩
  obtain ⟨q0, hq⟩ := q_plget (f := f) ha
  have hq2 := hq
  rw [h1, hn, ht0] at hq2
  refine va_iast cx.1 cx.2.1 hK hP hD hS q0 1 hq2 rfl (q_in hi0 hi1 hnn) hdg (fun H1 locs1 hP1 hD1 hS1 => ?_)
  rw [q_nat hri] at hP1 hD1
  have e : q_set f a i.toNat (.int (q_i x)) = va_up f a (.inl (g.2 1, n, .inl (upd y i.toNat (q_i x)))) := by simp only [q_set, h1, q_setE, hn, ht0]
  rw [q_plset hD ha hq, ← e] at hP1 hD1
  refine kk H1 locs1 _ rfl ?_ ⟨⟨hP1, hD1, hK, hS1⟩, q_ty_seta hT hk h20 (Or.inr (Or.inl ht0)) (by rw [he]; exact ⟨_, rfl, by rw [q_toInt hr]; exact hx1, by rw [q_toInt hr]; exact hx2⟩), q_Fr_set hF (by rw [hk]; exact hw)⟩
  rw [e]
  simp only [q_z, q_v, va_up_self, q_vE, upd, if_true, q_iv]
  exact q_toInt hr
end QH
/-! contracts -/
def q_Q (g : q_G) (K : Nat → Nat) (L : List Nat) (w : q_Ws) (f : Nat → va_E) (Po : Option Value → (Nat → va_E) → Prop) : Array Value → State → Outcome → State → Prop := fun _ st o t => (∃ (r : Option Value) (f1 : Nat → va_E), o = .returned r ∧ Po r f1 ∧ q_Ty g K L f1 ∧ q_Fr w K L f f1 ∧ q_U g L f1 t) ∧ va_F (fun q => q ∈ L) st t
def q_Ct (l : Launch) (g : q_G) (K : Nat → Nat) (L : List Nat) (y : MethodName) (cc : ByteArray) (mL : Nat) (ret : Option FieldType) (fr lo : Nat) (As : List Value) (f : Nat → va_E) (w : q_Ws) (Po : Option Value → (Nat → va_E) → Prop) : Prop :=
  Met l y (.code y cc mL ret :: q_al) { frames := fr, cells := 0, slots := 0, locals := lo } (va_Pc As (q_U g L f)) (q_Q g K L w f Po) 0 0 (fun q => q ∈ L)
def q_Pi (P : Int → (Nat → va_E) → Prop) : Option Value → (Nat → va_E) → Prop := fun r f => ∃ z : Int, r = some (.int (q_i z)) ∧ q_R z ∧ P z f
def q_Pv (P : (Nat → va_E) → Prop) : Option Value → (Nat → va_E) → Prop := fun r f => r = none ∧ P f
def q_Pr (P : Nat → (Nat → va_E) → Prop) : Option Value → (Nat → va_E) → Prop := fun r f => ∃ a : Nat, r = some (.ref a) ∧ P a f
def q_Pl (P : Int64 → (Nat → va_E) → Prop) : Option Value → (Nat → va_E) → Prop := fun r f => ∃ x : Int64, r = some (.long x) ∧ P x f
theorem q_nodup_D {L : List Nat} {f : Nat → va_E} {A : Nat → Prop} (h : L.Nodup) (hA : ∀ a ∈ L, A a) : va_D A (va_pl L f) := by
  have key : ∀ (k : Nat) (q : Nat × va_E), (va_pl L f)[k]? = some q → L[k]? = some q.1 := by
    intro k q hk
    simp only [va_pl, List.getElem?_map] at hk
    cases hb : L[k]? with
    | none => rw [hb] at hk; cases hk
    | some b =>
      rw [hb] at hk
      cases hk
      rfl
  refine ⟨fun i j x y hi hj hxy => ?_, fun k q hk => hA _ (List.mem_of_getElem? (key k q hk))⟩
  have h1 := key i x hi
  have h2 := key j y hj
  rw [hxy] at h1
  have hli := (List.getElem?_eq_some_iff.mp h1).1
  exact (List.getElem?_inj hli h).mp (h1.trans h2.symm)
theorem q_ofb {l : Launch} {g : q_G} {K : Nat → Nat} {L : List Nat} {y : MethodName} {cc : ByteArray} {mL : Nat} {ret : Option FieldType} {fr lo : Nat} {As : List Value} {f : Nat → va_E} {w : q_Ws} {Po : Option Value → (Nat → va_E) → Prop}
    (hy : plainName y.cls = true) (hN : L.Nodup) (hT : q_Ty g K L f) (hlen : (lg_sl As).length ≤ mL)
    (body : ∀ (p : Program) (e : Env) (s : State) (m : MethodId) (below : List Frame) (meth : Method) (c : Code) (ls : Array Slot), CallFix p m c cc mL s As.toArray q_al y.cls → meth.sig.returnType = ret → meth.locks = false → q_B g K L (fun q => q ∈ L) w f f s s.heap [] → lv_has ls mL (lv_args 0 As) →
      W p l e { frames := fr, cells := 0, slots := 0, locals := lo } s m As.toArray below meth c s.heap [] 0 0 (MQ below (q_Q g K L w f Po) As.toArray s 0 0 (fun q => q ∈ L)) (F0 m 0 ls [])) : q_Ct l g K L y cc mL ret fr lo As f w Po := by
  refine Met.ofW (cc := cc) (maxL := mL) (ret := ret) hy rfl ?_
  intro p e s m args below meth c s₁ B hml hv
  obtain ⟨rfl, hP, hK⟩ := hv
  have hts := atoms_spec (ws := Cond.code y cc mL ret :: q_al) B.pre
  have hl := lv_entry As (n := mL) hlen
  rw [lg_entry_eq]
  exact body p e s m below meth c _ ⟨B.exec, B.bytes, hml, findClass_of_methodNamed B.named, fun w hw => hts w (List.mem_cons_of_mem _ hw)⟩ B.returns B.notSynchronized
    ⟨⟨hP, q_nodup_D hN (fun a ha => ha), hK, va_S.rf⟩, hT, q_Fr.rf⟩ hl
section QE
variable {p : Program} {l : Launch} {e : Env} {R : Room} {s : State} {m : MethodId} {args : Array Value} {below : List Frame} {meth : Method} {c : Code} {H : Heap} {locs : List Loc} {cells slots : Nat} {Q : State → Prop}
variable {cc : ByteArray} {pc nL : Nat} {ls : Array Slot} {rest : List Value} {own : String}
variable {g : q_G} {K : Nat → Nat} {L : List Nat} {A : Nat → Prop} {w : q_Ws} {f0 f : Nat → va_E} {Po : Option Value → (Nat → va_E) → Prop}
theorem q_end (hB : q_B g K L (fun q => q ∈ L) w f0 f s H locs) {r : Option Value} (hp : Po r f) : ∀ t : State, t.heap = H → s.WarmedH t.vm → q_Q g K L w f0 Po args s (.returned r) t := by
  obtain ⟨⟨hP, hD, hK, hS⟩, hT, hF⟩ := hB
  exact fun t ht hW => ⟨⟨r, f, rfl, hp, hT, hF, by rw [q_U, ht]; exact ⟨hP, va_K.moved hW.alike hK⟩⟩, hS.F ht⟩
theorem q_iret {x : Int} (cx : CallFix p m c cc nL s args q_al own) (hr : meth.sig.returnType = some .int) (hl : meth.locks = false) (hB : q_B g K L (fun q => q ∈ L) w f0 f s H locs) (hdg : decode cc pc = .ok (.ireturn, 1)) {P : Int → (Nat → va_E) → Prop} (hx : q_R x) (hp : P x f) :
    W p l e R s m args below meth c H locs cells slots (MQ below (q_Q g K L w f0 (q_Pi P)) args s cells slots (fun q => q ∈ L)) (F0 m pc ls [.int (q_i x)]) :=
  W.iret cx.1 cx.2.1 hr (q_end hB ⟨x, rfl, hx, hp⟩) hB.1.2.2.2.2.2 hdg hl
theorem q_narz {x : Int} (h0 : 0 ≤ x) (h1 : x ≤ 1) : narrow .boolean (.int (q_i x)) = .int (q_i x) := by
  rcases (show x = 0 ∨ x = 1 by omega) with h | h <;> subst h <;> rfl
theorem q_zret {x : Int} (cx : CallFix p m c cc nL s args q_al own) (hr : meth.sig.returnType = some .boolean) (hl : meth.locks = false) (hB : q_B g K L (fun q => q ∈ L) w f0 f s H locs) (hdg : decode cc pc = .ok (.ireturn, 1)) {P : Int → (Nat → va_E) → Prop} (h0 : 0 ≤ x) (h1 : x ≤ 1) (hp : P x f) :
    W p l e R s m args below meth c H locs cells slots (MQ below (q_Q g K L w f0 (q_Pi P)) args s cells slots (fun q => q ∈ L)) (F0 m pc ls [.int (q_i x)]) :=
  W.zret cx.1 cx.2.1 hr (q_narz h0 h1) (q_end hB ⟨x, rfl, ⟨by omega, by omega⟩, hp⟩) hB.1.2.2.2.2.2 hdg hl
theorem q_vret (cx : CallFix p m c cc nL s args q_al own) (hr : meth.sig.returnType = none) (hl : meth.locks = false) (hB : q_B g K L (fun q => q ∈ L) w f0 f s H locs) (hdg : decode cc pc = .ok (.return_, 1)) {P : (Nat → va_E) → Prop} (hp : P f) :
    W p l e R s m args below meth c H locs cells slots (MQ below (q_Q g K L w f0 (q_Pv P)) args s cells slots (fun q => q ∈ L)) (F0 m pc ls []) :=
  W.vret cx.1 cx.2.1 hr (q_end hB ⟨rfl, hp⟩) hB.1.2.2.2.2.2 hdg hl
theorem q_aret {b : Nat} {rt : FieldType} (cx : CallFix p m c cc nL s args q_al own) (hr : meth.sig.returnType = some rt) (hrt : (∃ n, rt = .object n) ∨ ∃ t, rt = .array t) (hl : meth.locks = false) (hB : q_B g K L (fun q => q ∈ L) w f0 f s H locs) (hdg : decode cc pc = .ok (.areturn, 1)) {P : Nat → (Nat → va_E) → Prop} (hp : P b f) :
    W p l e R s m args below meth c H locs cells slots (MQ below (q_Q g K L w f0 (q_Pr P)) args s cells slots (fun q => q ∈ L)) (F0 m pc ls [.ref b]) :=
  W.aret cx.1 cx.2.1 hr hrt (Or.inr ⟨b, rfl⟩) (q_end hB ⟨b, rfl, hp⟩) hB.1.2.2.2.2.2 hdg hl
theorem q_lret {x : Int64} (cx : CallFix p m c cc nL s args q_al own) (hr : meth.sig.returnType = some .long) (hl : meth.locks = false) (hB : q_B g K L (fun q => q ∈ L) w f0 f s H locs) (hdg : decode cc pc = .ok (.lreturn, 1)) {P : Int64 → (Nat → va_E) → Prop} (hp : P x f) :
    W p l e R s m args below meth c H locs cells slots (MQ below (q_Q g K L w f0 (q_Pl P)) args s cells slots (fun q => q ∈ L)) (F0 m pc ls [.long x]) :=
  W.lret cx.1 cx.2.1 hr (q_end hB ⟨x, rfl, hp⟩) hB.1.2.2.2.2.2 hdg hl
/-! calls -/
theorem q_back {Qa : State → Outcome → State → Prop} {rest st0 : List Value} (hS : va_S A s.heap H locs) (hLA : ∀ q, q ∈ L → A q)
    (hr : va_Run p l e R s m args below meth c H locs cells slots 0 0 (F0 m pc ls st0) rest Qa (fun q => q ∈ L))
    (kk : ∀ (v : Option Value) (st₀ t : State) (locs1 : List Loc), st₀.heap = H → s.vm.Alike t.vm → Qa st₀ (.returned v) t → (∀ q ∈ locs1, A q.base) → W p l e R s m args below meth c t.heap locs1 cells slots Q (F0 m (pc + 3) ls (v.toList ++ rest))) : W p l e R s m args below meth c H locs cells slots Q (F0 m pc ls st0) := by
  intro T hT X
  obtain ⟨v, st₀, t, T', L', h0, X', hL, e1, e2, hq, st⟩ := hr T hT X
  obtain ⟨t2, a1, b1⟩ := kk v st₀ t (locs ++ L') h0 (by rw [← e2]; exact X'.warmed.alike) hq (fun q hq => by
      rcases List.mem_append.mp hq with h | h
      · exact hS.2.2 q h
      · exact hLA _ (hL q h)) T' e1 X'
  exact ⟨t2, st t2 a1, b1⟩
theorem q_blind {As : List Value} : FrameBlind (va_Pc As (q_U g L f)) := fun a U gf mk h => ⟨h.1, h.2.1, va_K.moved (u := U) (U := U.calling gf mk a) (Vm.Alike.refl U.vm) h.2.2⟩
theorem q_after {w' : q_Ws} {st t : State} {v : Option Value} {locs1 : List Loc} {a : Array Value} (hB : q_B g K L A w f0 f s H locs) (hLA : ∀ q, q ∈ L → A q) (hsub : q_wsub w' w = true) (hN : L.Nodup) (h0 : st.heap = H) (hvm : s.vm.Alike t.vm) (hl : ∀ q ∈ locs1, A q.base) (hq : q_Q g K L w' f Po a st (.returned v) t) :
    ∃ f1, Po v f1 ∧ q_Fr w' K L f f1 ∧ q_B g K L A w f0 f1 s t.heap locs1 := by
  obtain ⟨⟨r, f1, hr, hp, hT1, hF1, hP1, hK1⟩, hz, hk⟩ := hq
  cases hr
  obtain ⟨⟨hP, hD, hK, hS⟩, hT, hF⟩ := hB
  rw [h0] at hz hk
  refine ⟨f1, hp, hF1, ⟨hP1, q_nodup_D hN hLA, hK, Nat.le_trans hS.1 hz, fun q h1 h2 => ?_, hl⟩, hT1, hF.tr (hF1.mono hsub)⟩
  rw [hk q (Nat.lt_of_lt_of_le h1 hS.1) (fun h => h2 (hLA q h))]
  exact hS.2.1 q h1 h2
theorem q_callV {y : MethodName} {bytes : ByteArray} {maxL fr lo n index : Nat} {ret : Option FieldType} {C : String} {b k : Nat} {T : u_T} {N : Nat} {As st0 : List Value} {w' : q_Ws}
    (cx : CallFix p m c cc nL s args q_al own) (hB : q_B g K L A w f0 f s H locs) (hLA : ∀ q, q ∈ L → A q) (hN : L.Nodup) (hb : b ∈ L) (hk : K b = k) (h20 : k < 100) (hcl : vwCl[q_ck k]? = some (C, T, N))
    (hM : q_Ct l g K L y bytes maxL ret fr lo (.ref b :: As) f w' Po) (hwd : ∀ w ∈ wsV own index C y (.code y bytes maxL ret :: q_al), w ∈ q_al)
    (hd : y.cls = C ∧ y.cls ≠ "java/lang/invoke/MethodHandle" ∧ y.cls ≠ "java/lang/invoke/VarHandle" ∧ (parseMethodDescriptor y.desc).map (fun d => d.parameters.length) = some n)
    (hR : (fr + 1 ≤ R.frames ∧ 8 + (maxL + 11) + lo ≤ R.locals) ∧ cells ≤ R.cells ∧ slots ≤ R.slots) (hsub : q_wsub w' w = true) (hn : As.length = n) (hls : ls.size = nL) (hst : st0 = As.reverse ++ .ref b :: rest) (hcat : (rest.map fun v => v.category).sum ≤ 8) (hdg : decode cc pc = .ok (.invokevirtual index, 3))
    (kk : ∀ (v : Option Value) (H1 : Heap) (locs1 : List Loc) (f1 : Nat → va_E), Po v f1 → q_Fr w' K L f f1 → q_B g K L A w f0 f1 s H1 locs1 → W p l e R s m args below meth c H1 locs1 cells slots Q (F0 m (pc + 3) ls (v.toList ++ rest))) : W p l e R s m args below meth c H locs cells slots Q (F0 m pc ls st0) := by
  obtain ⟨fs, h1, -, -⟩ := q_ty_obj hB.2.1 hb hk h20
  obtain ⟨q0, hq⟩ := q_plget (f := f) hb
  rw [h1] at hq
  refine q_back hB.1.2.2.2 hLA (va_runV (As := As) (rest := rest) cx hM (cwV n cx.2.2.2.2 (q_goodA hwd) rfl rfl rfl hd hR.1) ⟨q_blind, va_recv hB.1.2.2.1 hB.1.1 hcl hq, fun U hU hW => ⟨rfl, by rw [hU]; exact hB.1.1, va_K.moved hW.alike hB.1.2.2.1⟩⟩ rfl hn hls hst (lv_room hcat) hdg ⟨hR.2.1, hR.2.2⟩) (fun v st₀ t locs1 e0 evm hq hl1 => ?_)
  obtain ⟨f1, p1, p2, p3⟩ := q_after hB hLA hsub hN e0 evm hl1 hq
  exact kk v t.heap locs1 f1 p1 p2 p3
theorem q_callS {y : MethodName} {bytes : ByteArray} {maxL fr lo n index : Nat} {ret : Option FieldType} {As st0 : List Value} {w' : q_Ws}
    (cx : CallFix p m c cc nL s args q_al own) (hB : q_B g K L A w f0 f s H locs) (hLA : ∀ q, q ∈ L → A q) (hN : L.Nodup)
    (hM : q_Ct l g K L y bytes maxL ret fr lo As f w' Po) (hwd : ∀ w ∈ va_wsS own index y (.code y bytes maxL ret :: q_al), w ∈ q_al)
    (hd : y.cls ≠ "java/lang/invoke/MethodHandle" ∧ y.cls ≠ "java/lang/invoke/VarHandle" ∧ (parseMethodDescriptor y.desc).map (fun d => d.parameters.length) = some n)
    (hR : (fr + 1 ≤ R.frames ∧ 8 + (maxL + 11) + lo ≤ R.locals) ∧ cells ≤ R.cells ∧ slots ≤ R.slots) (hsub : q_wsub w' w = true) (hn : As.length = n) (hls : ls.size = nL) (hst : st0 = As.reverse ++ rest) (hcat : (rest.map fun v => v.category).sum ≤ 8) (hdg : decode cc pc = .ok (.invokestatic index, 3))
    (kk : ∀ (v : Option Value) (H1 : Heap) (locs1 : List Loc) (f1 : Nat → va_E), Po v f1 → q_Fr w' K L f f1 → q_B g K L A w f0 f1 s H1 locs1 → W p l e R s m args below meth c H1 locs1 cells slots Q (F0 m (pc + 3) ls (v.toList ++ rest))) : W p l e R s m args below meth c H locs cells slots Q (F0 m pc ls st0) := by
  refine q_back hB.1.2.2.2 hLA (va_runS (As := As) (rest := rest) cx hM (va_cwS n cx.2.2.2.2 (q_goodA hwd) rfl rfl rfl hd hR.1) ⟨q_blind, fun U hU hW => ⟨rfl, by rw [hU]; exact hB.1.1, va_K.moved hW.alike hB.1.2.2.1⟩⟩ rfl hn hls hst (lv_room hcat) hdg ⟨hR.2.1, hR.2.2⟩) (fun v st₀ t locs1 e0 evm hq hl1 => ?_)
  obtain ⟨f1, p1, p2, p3⟩ := q_after hB hLA hsub hN e0 evm hl1 hq
  exact kk v t.heap locs1 f1 p1 p2 p3
end QE
