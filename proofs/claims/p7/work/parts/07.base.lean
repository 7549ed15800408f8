/-! an iinc that may wrap; a division -/
section Q12
variable {p : Program} {l : Launch} {e : Env} {R : Room} {s : State} {m : MethodId} {args : Array Value} {below : List Frame} {meth : Method} {c : Code} {H : Heap} {locs : List Loc} {cells slots : Nat} {Q : State → Prop}
variable {cc : ByteArray} {pc nL : Nat} {ls : Array Slot} {rest : List Value} {own : String}
theorem q_wrap (x : Int) : ∃ z : Int, q_R z ∧ q_i x = q_i z := ⟨(q_i x).toInt, q_rng _, (q_of _).symm⟩
end Q12
/-! places and what they hold, said so that arithmetic does not look at it -/
theorem q_isb {a x lo hi : Int} (h : q_is a x) (t : lo ≤ a ∧ a ≤ hi) : lo ≤ x ∧ x ≤ hi := by
  have h1 : a = x := h
  rw [← h1]
  exact t
theorem q_isl {a x lo : Int} (h : q_is a x) (t : lo ≤ x) : lo ≤ a := by
  have h1 : a = x := h
  rw [h1]
  exact t
theorem q_isu {a x hi : Int} (h : q_is a x) (t : x ≤ hi) : a ≤ hi := by
  have h1 : a = x := h
  rw [h1]
  exact t
theorem q_islt {a x lo : Int} (h : q_is a x) (t : lo < x) : lo < a := by
  have h1 : a = x := h
  rw [h1]
  exact t
theorem q_isl9 {a x lo : Int} (h : q_is a x) (t : lo ≤ a) : lo ≤ x := by
  have h1 : a = x := h
  rw [← h1]
  exact t
theorem q_islt9 {a x lo : Int} (h : q_is a x) (t : lo < a) : lo < x := by
  have h1 : a = x := h
  rw [← h1]
  exact t
theorem q_fib {g : q_G} {K : Nat → Nat} {L : List Nat} {f : Nat → va_E} (hT : q_Ty g K L f) {a k j : Nat} {lo hi : Int} (ha : a ∈ L) (hk : K a = k) (hc : k < 100) (hj : (q_ft k)[j]? = some (0, lo, hi)) : lo ≤ q_z f a j ∧ q_z f a j ≤ hi := by
  obtain ⟨_, _, _, _, h1, h2⟩ := q_fi hT ha hk hc hj
  exact ⟨h1, h2⟩
/-! the reference's present row: what it holds, as a predicate of the cells -/
def q_gr (f : Nat → va_E) (a : Nat) : Prop := ∀ i : Nat, i < 658 → (q_eg i).2.1 ≤ q_z f a i ∧ q_z f a i ≤ (q_eg i).2.2
theorem q_kne {K : Nat → Nat} {a b k k2 : Nat} (h : k ≠ k2) (ha : K a = k) (hb : K b = k2) (e : a = b) : False := by
  subst e
  exact h (ha.symm.trans hb)
theorem q_gr_ne {f f1 : Nat → va_E} {a b i : Nat} {v : Value} (h : q_gr f a) (e : f1 = q_set f b i v) (hne : a = b → False) : q_gr f1 a := by
  intro j hj
  rw [e, q_setz (Or.inl hne)]
  exact h j hj
theorem q_gr_fr {f f1 : Nat → va_E} {a : Nat} (h : q_gr f a) (e : ∀ i : Nat, i < 658 → q_z f1 a i = q_z f a i) : q_gr f1 a := by
  intro j hj
  rw [e j hj]
  exact h j hj
theorem q_gr_put {f f1 : Nat → va_E} {a i : Nat} {v : Value} {x lo hi : Int} (h : q_gr f a) (e : f1 = q_set f a i v) (z : q_z f1 a i = x) (he : q_eg i = (0, lo, hi)) (h1 : lo ≤ x) (h2 : x ≤ hi) : q_gr f1 a := by
  intro j hj
  by_cases q : j = i
  · subst q
    rw [he, z]
    exact ⟨h1, h2⟩
  · rw [e, q_setz (Or.inr q)]
    exact h j hj
theorem q_gr_at {f : Nat → va_E} {a i : Nat} {lo hi : Int} (h : q_gr f a) (hi9 : i < 658) (he : q_eg i = (0, lo, hi)) : lo ≤ q_z f a i ∧ q_z f a i ≤ hi := by
  have h1 := h i hi9
  rw [he] at h1
  exact h1
theorem q_egn {i n : Int} {w : Nat} (h0 : 0 ≤ n) (h1 : n ≤ 9) (e : i = 10 + 8 * n + w) (hw : w < 8) : q_eg i.toNat = q_rn.getD w (0, 0, 0) := by
  unfold q_eg
  rw [if_neg (by omega), if_pos (by omega)]
  rw [show (i.toNat - 10) % 8 = w by omega]
theorem q_egl {i n : Int} {w : Nat} (h0 : 0 ≤ n) (h1 : n ≤ 15) (e : i = 90 + 5 * n + w) (hw : w < 5) : q_eg i.toNat = q_rl.getD w (0, 0, 0) := by
  unfold q_eg
  rw [if_neg (by omega), if_neg (by omega), if_pos (by omega)]
  rw [show (i.toNat - 90) % 5 = w by omega]
theorem q_egm {i n : Int} {w : Nat} (h0 : 0 ≤ n) (h1 : n ≤ 60) (e : i = 170 + 8 * n + w) (hw : w < 8) : q_eg i.toNat = q_rm.getD w (0, 0, 0) := by
  unfold q_eg
  rw [if_neg (by omega), if_neg (by omega), if_neg (by omega)]
  rw [show (i.toNat - 170) % 8 = w by omega]
theorem q_ai {g : q_G} {K : Nat → Nat} {L : List Nat} {f : Nat → va_E} (hT : q_Ty g K L f) {a k i n : Nat} {lo hi : Int} (ha : a ∈ L) (hk : K a = k) (hc : ¬ k < 100) (hn : (q_at k).2 = n) (hi9 : i < n) (he : q_et k i = (0, lo, hi)) : lo ≤ q_z f a i ∧ q_z f a i ≤ hi := by
  obtain ⟨h, h1, h2, h3⟩ := q_ty_arr hT ha hk hc
  have h4 := h3 i (by rw [hn]; exact hi9)
  rw [he] at h4
  obtain ⟨x, h5, h6, h7⟩ := h4
  rw [q_z, h5]
  exact ⟨h6, h7⟩
theorem q_ewz (i : Nat) : q_et 151 i = (0, (q_ew i).2.1, (q_ew i).2.2) := by
  show q_ew i = _
  unfold q_ew
  split
  · rfl
  · split <;> rfl
theorem q_ew0 {i : Nat} : (q_ew i).2.1 ≤ 0 ∧ 0 ≤ (q_ew i).2.2 := by
  unfold q_ew
  split
  · decide
  · split <;> decide
theorem q_ew2 {i : Nat} (h : 2 ≤ i) : q_ew i = (0, -2147483648, 2147483647) := by
  unfold q_ew
  rw [if_neg (by omega), if_neg (by omega)]
theorem q_erw (j : Nat) (x : Int) (hr : q_R x) (h : (q_er j).2.1 ≤ x ∧ x ≤ (q_er j).2.2) : (q_ew j).2.1 ≤ x ∧ x ≤ (q_ew j).2.2 := by
  by_cases h0 : j = 0
  · subst h0; exact h
  · by_cases h1 : j = 1
    · subst h1; exact h
    · rw [q_ew2 (by omega)]; exact hr
theorem q_ewr {p j : Nat} {x : Int} (hp : j < 658) (hj : j = p % 658) (hr : q_R x) (h1 : (q_er (p % 658)).2.1 ≤ x) (h2 : x ≤ (q_er (p % 658)).2.2) : (q_ew j).2.1 ≤ x ∧ x ≤ (q_ew j).2.2 := by
  subst hj
  exact q_erw _ x hr ⟨h1, h2⟩
theorem q_sR {g : q_G} {K : Nat → Nat} {L : List Nat} {f : Nat → va_E} {a i : Nat} (hT : q_Ty g K L f) (ha : a ∈ L) (hk : K a = 151) (hi : i < 658) : q_R (q_z f a i) := by
  obtain ⟨h, h1, h2, h3⟩ := q_ty_arr hT ha hk (by decide)
  have h4 := h3 i hi
  rw [q_ewz] at h4
  obtain ⟨x, h5, -, -⟩ := h4
  rw [q_z, h5]
  exact q_rng x
section Q20
variable {p : Program} {l : Launch} {e : Env} {R : Room} {s : State} {m : MethodId} {args : Array Value} {below : List Frame} {meth : Method} {c : Code} {H : Heap} {locs : List Loc} {cells slots : Nat} {Q : State → Prop}
variable {cc : ByteArray} {pc nL : Nat} {ls : Array Slot} {rest : List Value} {own : String} {a k : Nat}
variable {g : q_G} {K : Nat → Nat} {L : List Nat} {A : Nat → Prop} {w : q_Ws} {f0 f : Nat → va_E}
theorem q_sald {i x : Int} (cx : CallFix p m c cc nL s args q_al own) (hB : q_B g K L A w f0 f s H locs) (ha : a ∈ L) (hk : K a = 151) (hi0 : 0 ≤ i) (hi1 : i < 658) (hv : q_z f a i.toNat = x) (hdg : decode cc pc = .ok (.iaload, 1))
    (kk : q_R x → W p l e R s m args below meth c H locs cells slots Q (F0 m (pc + 1) ls (.int (q_i x) :: rest))) : W p l e R s m args below meth c H locs cells slots Q (F0 m pc ls (.int (q_i i) :: .ref a :: rest)) := by
  have hR := q_sR hB.2.1 ha hk (i := i.toNat) (by omega)
  rw [hv] at hR
  exact q_iald (n := 658) cx hB ha hk (by decide) rfl rfl hi0 hi1 (by decide) (q_ewz _) hv hdg (fun _ _ => kk hR)
theorem q_sastr {i x : Int} (cx : CallFix p m c cc nL s args q_al own) (hB : q_B g K L A w f0 f s H locs) (ha : a ∈ L) (hk : K a = 151) (hi0 : 0 ≤ i) (hi1 : i < 658) (hxr : q_R x) (hx : (q_ew i.toNat).2.1 ≤ x ∧ x ≤ (q_ew i.toNat).2.2) (hw : q_inW w 151 i.toNat = true) (hdg : decode cc pc = .ok (.iastore, 1))
    (kk : ∀ (H1 : Heap) (locs1 : List Loc) (f1 : Nat → va_E), f1 = q_set f a i.toNat (.int (q_i x)) → q_z f1 a i.toNat = x → q_B g K L A w f0 f1 s H1 locs1 → W p l e R s m args below meth c H1 locs1 cells slots Q (F0 m (pc + 1) ls rest)) : W p l e R s m args below meth c H locs cells slots Q (F0 m pc ls (.int (q_i x) :: .int (q_i i) :: .ref a :: rest)) :=
  q_iast (n := 658) cx hB ha hk (by decide) rfl rfl hi0 hi1 (by decide) (q_ewz _) hxr hx.1 hx.2 hw hdg kk
theorem q_sast {i x : Int} (cx : CallFix p m c cc nL s args q_al own) (hB : q_B g K L A w f0 f s H locs) (ha : a ∈ L) (hk : K a = 151) (hi0 : 2 ≤ i) (hi1 : i < 658) (hxr : q_R x) (hw : q_inW w 151 i.toNat = true) (hdg : decode cc pc = .ok (.iastore, 1))
    (kk : ∀ (H1 : Heap) (locs1 : List Loc) (f1 : Nat → va_E), f1 = q_set f a i.toNat (.int (q_i x)) → q_z f1 a i.toNat = x → q_B g K L A w f0 f1 s H1 locs1 → W p l e R s m args below meth c H1 locs1 cells slots Q (F0 m (pc + 1) ls rest)) : W p l e R s m args below meth c H locs cells slots Q (F0 m pc ls (.int (q_i x) :: .int (q_i i) :: .ref a :: rest)) :=
  q_sastr cx hB ha hk (by omega) hi1 hxr (by rw [q_ew2 (by omega)]; exact hxr) hw hdg kk
end Q20
theorem q_rest {f : Nat → va_E} {a i : Nat} (h : q_gr f a) (h3 : q_z f a 3 ≤ 9999) (h4 : q_z f a 4 ≤ 60) (hi : i < 658) : (q_er (i % 658)).2.1 ≤ q_z f a i ∧ q_z f a i ≤ (q_er (i % 658)).2.2 := by
  have h1 := h i hi
  rw [Nat.mod_eq_of_lt hi]
  by_cases a3 : i = 3
  · subst a3; exact ⟨h1.1, h3⟩
  · by_cases a4 : i = 4
    · subst a4; exact ⟨h1.1, h4⟩
    · by_cases a2 : i = 2
      · subst a2; exact ⟨Int.le_trans (by decide) h1.1, h1.2⟩
      · have e : q_er i = q_eg i := by
          unfold q_er q_eg
          by_cases h9 : i < 10
          · rw [if_pos h9, if_pos h9]
            rcases (show i = 0 ∨ i = 1 ∨ i = 5 ∨ i = 6 ∨ i = 7 ∨ i = 8 ∨ i = 9 by omega) with rfl | rfl | rfl | rfl | rfl | rfl | rfl <;> rfl
          · rw [if_neg h9, if_neg h9]
        rw [e]
        exact h1
theorem q_zat {f : Nat → va_E} {a : Nat} {x i j : Int} (h : q_z f a (Int.toNat i) = x) (e : j = i) : x = q_z f a (Int.toNat j) := by rw [e]; exact h.symm
def k_nin (lo hi x : Int) : Prop := x < lo ∨ hi < x
/-- a token was taken: the text is at its end, or further on -/
def k_po (so at9 p : Int) : Prop := so = 0 ∨ p < at9
theorem k_po_mono {so at9 p q : Int} (h : k_po so at9 q) (hp : p ≤ q) : k_po so at9 p := h.elim Or.inl (fun h => Or.inr (by omega))
theorem k_po_lt {so at9 p : Int} (h : k_po so at9 p) (hs : so ≠ 0) : p < at9 := h.resolve_left hs
theorem k_po_is {a b x y p : Int} (h6 : q_is a x) (h4 : q_is b y) (t : k_po x y p) : k_po a b p := by
  have e6 : a = x := h6
  have e4 : b = y := h4
  rw [e6, e4]
  exact t
theorem k_po_si {a b x y p : Int} (h6 : q_is a x) (h4 : q_is b y) (t : k_po a b p) : k_po x y p := by
  have e6 : a = x := h6
  have e4 : b = y := h4
  rw [← e6, ← e4]
  exact t
theorem k_ne0 {a x : Int} (h : q_is a x) (t : q_is a 3) : x ≠ 0 := by
  have e1 : a = x := h
  have e2 : a = 3 := t
  omega
theorem q_egw {i n w : Int} (h0 : 0 ≤ n) (h1 : n ≤ 9) (h2 : 0 ≤ w) (h3 : w ≤ 1) (e : i = 8 * n + w + 16) : q_eg i.toNat = (0, -2147483648, 2147483647) := by
  rcases (show w = 0 ∨ w = 1 by omega) with rfl | rfl
  · exact q_egn (w := 6) h0 h1 (by omega) (by decide)
  · exact q_egn (w := 7) h0 h1 (by omega) (by decide)
theorem k_lt0 {f0 f : Nat → va_E} {bu : Nat} {w z lo hi : Int} (hz : z = q_z f bu (Int.toNat (w + 0))) (hf : q_z f0 bu (Int.toNat (w + 0)) = q_z f bu (Int.toNat (w + 0))) (h1 : lo ≤ z) (h2 : z ≤ hi) : lo ≤ q_z f0 bu (Int.toNat w) ∧ q_z f0 bu (Int.toNat w) ≤ hi := by
  rw [← hf, Int.add_zero] at hz
  rw [← hz]
  exact ⟨h1, h2⟩
theorem k_n1 {f0 f : Nat → va_E} {bu : Nat} {w v z lo hi : Int} (hl : lo ≤ q_z f0 bu (Int.toNat w) ∧ q_z f0 bu (Int.toNat w) ≤ hi) (hz : z = q_z f bu (Int.toNat (w + v))) (hf : q_z f0 bu (Int.toNat (w + v)) = q_z f bu (Int.toNat (w + v))) (hn : k_nin lo hi z) (hv : 0 ≤ v) : 1 ≤ v := by
  unfold k_nin at hn
  by_cases h : v = 0
  · subst h
    rw [← hf, Int.add_zero] at hz
    omega
  · omega
/-! rows copied, what can be undone, what is saved -/
theorem k_cp {f0 fk f1 : Nat → va_E} {pp qq : Nat} {a b v x : Int} (h : ∀ i : Int, 0 ≤ i → i < v → q_z fk qq (Int.toNat (b + i)) = q_z f0 pp (Int.toNat (a + i))) (e : f1 = q_set fk qq (Int.toNat (b + v)) (.int (q_i x))) (z : q_z f1 qq (Int.toNat (b + v)) = x) (hx : q_z fk pp (Int.toNat (a + v)) = x) (hf : q_z fk pp (Int.toNat (a + v)) = q_z f0 pp (Int.toNat (a + v))) (hb : 0 ≤ b) (hv : 0 ≤ v) : ∀ i : Int, 0 ≤ i → i < v + 1 → q_z f1 qq (Int.toNat (b + i)) = q_z f0 pp (Int.toNat (a + i)) := by
  intro i h0 h1
  by_cases h2 : i < v
  · rw [e, q_setz (Or.inr (by omega))]
    exact h i h0 h2
  · obtain rfl : i = v := by omega
    rw [z, ← hx, hf]
theorem k_lo {f0 fk f1 : Nat → va_E} {pa : Nat} {c j : Int} {v : Value} (h : ∀ i : Nat, (i : Int) < c → q_z fk pa i = q_z f0 pa i) (e : f1 = q_set fk pa (Int.toNat j) v) (hj : c ≤ j) (h0 : 0 ≤ c) : ∀ i : Nat, (i : Int) < c → q_z f1 pa i = q_z f0 pa i := by
  intro i hi
  rw [e, q_setz (Or.inr (by omega))]
  exact h i hi
theorem q_rowb {g : q_G} {K : Nat → Nat} {L : List Nat} {f : Nat → va_E} (hT : q_Ty g K L f) {a k i n : Nat} (ha : a ∈ L) (hk : K a = k) (hr : q_isRow k) (hn : (q_at k).2 = n) (hi : i < n) : (q_er (i % 658)).2.1 ≤ q_z f a i ∧ q_z f a i ≤ (q_er (i % 658)).2.2 := by
  have h := q_ai hT ha hk (q_rowt hr).1 hn hi (q_rowz hr).1
  rw [q_rowE (p := i) hr hn hi rfl] at h
  exact h
theorem k_grcp {g : q_G} {K : Nat → Nat} {L : List Nat} {f f1 : Nat → va_E} (hT : q_Ty g K L f) {sr a k n : Nat} {A u : Int} (ha : a ∈ L) (hk : K a = k) (hr : q_isRow k) (hn : (q_at k).2 = n) (hA : A = 658 * u) (hu : 0 ≤ u) (hun : 658 * u + 658 ≤ n) (hy : 4 ≤ q_z f a (Int.toNat (A + 2))) (h : ∀ i : Int, 0 ≤ i → i < 658 → q_z f1 sr (Int.toNat (0 + i)) = q_z f a (Int.toNat (A + i))) : q_gr f1 sr ∧ (0 ≤ q_z f1 sr 3 ∧ q_z f1 sr 3 ≤ 9999) ∧ 0 ≤ q_z f1 sr 4 ∧ q_z f1 sr 4 ≤ 60 := by
  have key : ∀ i : Nat, i < 658 → (q_er i).2.1 ≤ q_z f1 sr i ∧ q_z f1 sr i ≤ (q_er i).2.2 := by
    intro i hi
    have h1 := h (i : Int) (by omega) (by omega)
    rw [show Int.toNat (0 + (i : Int)) = i by omega] at h1
    have h2 := q_rowb hT ha hk hr hn (i := Int.toNat (A + (i : Int))) (by omega)
    rw [show Int.toNat (A + (i : Int)) % 658 = i by omega, ← h1] at h2
    exact h2
  refine ⟨fun i hi => ?_, key 3 (by decide), key 4 (by decide)⟩
  have h1 := key i hi
  by_cases a3 : i = 3
  · subst a3; exact ⟨h1.1, Int.le_trans h1.2 (by decide)⟩
  · by_cases a4 : i = 4
    · subst a4; exact ⟨h1.1, Int.le_trans h1.2 (by decide)⟩
    · by_cases a2 : i = 2
      · subst a2
        have h3 := h 2 (by decide) (by decide)
        refine ⟨?_, h1.2⟩
        have e : q_z f1 sr 2 = q_z f a (Int.toNat (A + 2)) := h3
        rw [e]
        exact hy
      · have e : q_er i = q_eg i := by
          unfold q_er q_eg
          by_cases h9 : i < 10
          · rw [if_pos h9, if_pos h9]
            rcases (show i = 0 ∨ i = 1 ∨ i = 5 ∨ i = 6 ∨ i = 7 ∨ i = 8 ∨ i = 9 by omega) with rfl | rfl | rfl | rfl | rfl | rfl | rfl <;> rfl
          · rw [if_neg h9, if_neg h9]
        rw [← e]
        exact h1
def q_pk (f : Nat → va_E) (mo pa : Nat) : Prop := ∀ j : Int, 0 ≤ j → j < q_z f mo 21 → 4 ≤ q_z f pa (Int.toNat (658 * j + 2))
theorem q_pk_tr {f f1 : Nat → va_E} {mo pa : Nat} (h : q_pk f mo pa) (h1 : q_z f1 mo 21 = q_z f mo 21) (h2 : ∀ i : Nat, q_z f1 pa i = q_z f pa i) : q_pk f1 mo pa := by
  intro j h3 h4
  rw [h2]
  exact h j h3 (by rw [← h1]; exact h4)
def q_sv (f : Nat → va_E) (mo sd : Nat) : Prop := q_z f mo 22 = 1 → 4 ≤ q_z f sd 2
theorem q_sv_tr {f f1 : Nat → va_E} {mo sd : Nat} (h : q_sv f mo sd) (h1 : q_z f1 mo 22 = q_z f mo 22) (h2 : ∀ i : Nat, q_z f1 sd i = q_z f sd i) : q_sv f1 mo sd := by
  intro h3
  rw [h2]
  exact h (by rw [← h1]; exact h3)
/-- one can be undone less -/
theorem k_pkdec {f f1 : Nat → va_E} {mo pa : Nat} {n : Int} (h : q_pk f mo pa) (hn : q_z f mo 21 = n) (h1 : q_z f1 mo 21 = n - 1) (h2 : ∀ i : Nat, q_z f1 pa i = q_z f pa i) : q_pk f1 mo pa := by
  intro j h3 h4
  rw [h2]
  exact h j h3 (by omega)
/-- one can be undone more -/
theorem k_pkinc {f f1 : Nat → va_E} {mo pa : Nat} {n : Int} (h : q_pk f mo pa) (hn : q_z f mo 21 = n) (h0 : 0 ≤ n) (h1 : q_z f1 mo 21 = n + 1) (h2 : ∀ i : Nat, (i : Int) < 658 * n → q_z f1 pa i = q_z f pa i) (hy : 4 ≤ q_z f1 pa (Int.toNat (658 * n + 2))) : q_pk f1 mo pa := by
  intro j h3 h4
  by_cases hj : j = n
  · subst hj; exact hy
  · rw [h2 _ (by omega)]
    exact h j h3 (by omega)
/-- all but the first moved down by one -/
theorem k_pksh {f f1 : Nat → va_E} {mo pa : Nat} (h : q_pk f mo pa) (hn : q_z f mo 21 = 6) (h1 : q_z f1 mo 21 = 5) (h2 : ∀ i : Int, 0 ≤ i → i < 3290 → q_z f1 pa (Int.toNat i) = q_z f pa (Int.toNat (i + 658))) : q_pk f1 mo pa := by
  intro j h3 h4
  rw [h2 (658 * j + 2) (by omega) (by omega), show 658 * j + 2 + 658 = 658 * (j + 1) + 2 by omega]
  exact h (j + 1) (by omega) (by omega)
theorem k_shb {f0 fk f1 : Nat → va_E} {pa : Nat} {v x : Int} (h : ∀ i : Int, 0 ≤ i → i < v → q_z fk pa (Int.toNat i) = q_z f0 pa (Int.toNat (i + 658))) (h9 : ∀ i : Int, v ≤ i → q_z fk pa (Int.toNat i) = q_z f0 pa (Int.toNat i)) (e : f1 = q_set fk pa (Int.toNat v) (.int (q_i x))) (z : q_z f1 pa (Int.toNat v) = x) (hx : q_z fk pa (Int.toNat (v + 658)) = x) (hv : 0 ≤ v) : (∀ i : Int, 0 ≤ i → i < v + 1 → q_z f1 pa (Int.toNat i) = q_z f0 pa (Int.toNat (i + 658))) ∧ ∀ i : Int, v + 1 ≤ i → q_z f1 pa (Int.toNat i) = q_z f0 pa (Int.toNat i) := by
  refine ⟨fun i h0 h1 => ?_, fun i h0 => ?_⟩
  · by_cases h2 : i < v
    · rw [e, q_setz (Or.inr (by omega))]
      exact h i h0 h2
    · obtain rfl : i = v := by omega
      rw [z, ← hx, h9 _ (by omega)]
  · rw [e, q_setz (Or.inr (by omega))]
    exact h9 i (by omega)
theorem k_grcl {f : Nat → va_E} {sr : Nat} (h : ∀ j : Nat, (j : Int) < 658 → q_z f sr j = 0 ∨ j = 2) (h2 : q_z f sr 2 = 12) : q_gr f sr := by
  intro i hi
  by_cases a2 : i = 2
  · subst a2; rw [h2]; decide
  · have h1 := (h i (by omega)).resolve_right a2
    rw [h1]
    have e : (q_eg i).2.1 = (q_er i).2.1 ∧ (q_eg i).2.2 = (q_er i).2.2 ∨ i = 3 ∨ i = 4 := by
      by_cases a3 : i = 3
      · exact Or.inr (Or.inl a3)
      · by_cases a4 : i = 4
        · exact Or.inr (Or.inr a4)
        · have e : q_er i = q_eg i := by
            unfold q_er q_eg
            by_cases h9 : i < 10
            · rw [if_pos h9, if_pos h9]
              rcases (show i = 0 ∨ i = 1 ∨ i = 5 ∨ i = 6 ∨ i = 7 ∨ i = 8 ∨ i = 9 by omega) with rfl | rfl | rfl | rfl | rfl | rfl | rfl <;> rfl
            · rw [if_neg h9, if_neg h9]
          rw [e]
          exact Or.inl ⟨rfl, rfl⟩
    rcases e with ⟨e1, e2⟩ | e | e
    · rw [e1, e2]; exact (q_er3 i).2
    · subst e; decide
    · subst e; decide
theorem q_tdb {x y : Int} (hx : 0 ≤ x) (hy : 0 < y) : 0 ≤ Int.tdiv x y ∧ y * Int.tdiv x y ≤ x ∧ x < y * Int.tdiv x y + y := by
  have h := Int.mul_tdiv_add_tmod x y
  have h1 := Int.tmod_lt_of_pos x hy
  have h2 := Int.tmod_nonneg y hx
  exact ⟨Int.tdiv_nonneg hx (Int.le_of_lt hy), by omega, by omega⟩
/-- the hops told to all, together -/
def q_hs (f : Nat → va_E) (a : Nat) : Int := q_z f a 0 + q_z f a 1 + q_z f a 2 + q_z f a 3 + q_z f a 4 + q_z f a 5 + q_z f a 6 + q_z f a 7 + q_z f a 8 + q_z f a 9
theorem q_hs_put {f f1 : Nat → va_E} {a : Nat} {i x : Int} {v : Value} (e : f1 = q_set f a (Int.toNat i) v) (z : q_z f1 a (Int.toNat i) = x) (h : x < q_z f a (Int.toNat i)) (h0 : 0 ≤ i) (h1 : i ≤ 9) : q_hs f1 a < q_hs f a := by
  have o : ∀ j : Nat, j ≠ Int.toNat i → q_z f1 a j = q_z f a j := fun j hj => by rw [e, q_setz (Or.inr hj)]
  unfold q_hs
  rcases (show i = 0 ∨ i = 1 ∨ i = 2 ∨ i = 3 ∨ i = 4 ∨ i = 5 ∨ i = 6 ∨ i = 7 ∨ i = 8 ∨ i = 9 by omega) with rfl | rfl | rfl | rfl | rfl | rfl | rfl | rfl | rfl | rfl
  · have h7 : q_z f1 a 0 < q_z f a 0 := by rw [show q_z f1 a 0 = x from z]; exact h
    rw [o 1 (by decide), o 2 (by decide), o 3 (by decide), o 4 (by decide), o 5 (by decide), o 6 (by decide), o 7 (by decide), o 8 (by decide), o 9 (by decide)]; omega
  · have h7 : q_z f1 a 1 < q_z f a 1 := by rw [show q_z f1 a 1 = x from z]; exact h
    rw [o 0 (by decide), o 2 (by decide), o 3 (by decide), o 4 (by decide), o 5 (by decide), o 6 (by decide), o 7 (by decide), o 8 (by decide), o 9 (by decide)]; omega
  · have h7 : q_z f1 a 2 < q_z f a 2 := by rw [show q_z f1 a 2 = x from z]; exact h
    rw [o 0 (by decide), o 1 (by decide), o 3 (by decide), o 4 (by decide), o 5 (by decide), o 6 (by decide), o 7 (by decide), o 8 (by decide), o 9 (by decide)]; omega
  · have h7 : q_z f1 a 3 < q_z f a 3 := by rw [show q_z f1 a 3 = x from z]; exact h
    rw [o 0 (by decide), o 1 (by decide), o 2 (by decide), o 4 (by decide), o 5 (by decide), o 6 (by decide), o 7 (by decide), o 8 (by decide), o 9 (by decide)]; omega
  · have h7 : q_z f1 a 4 < q_z f a 4 := by rw [show q_z f1 a 4 = x from z]; exact h
    rw [o 0 (by decide), o 1 (by decide), o 2 (by decide), o 3 (by decide), o 5 (by decide), o 6 (by decide), o 7 (by decide), o 8 (by decide), o 9 (by decide)]; omega
  · have h7 : q_z f1 a 5 < q_z f a 5 := by rw [show q_z f1 a 5 = x from z]; exact h
    rw [o 0 (by decide), o 1 (by decide), o 2 (by decide), o 3 (by decide), o 4 (by decide), o 6 (by decide), o 7 (by decide), o 8 (by decide), o 9 (by decide)]; omega
  · have h7 : q_z f1 a 6 < q_z f a 6 := by rw [show q_z f1 a 6 = x from z]; exact h
    rw [o 0 (by decide), o 1 (by decide), o 2 (by decide), o 3 (by decide), o 4 (by decide), o 5 (by decide), o 7 (by decide), o 8 (by decide), o 9 (by decide)]; omega
  · have h7 : q_z f1 a 7 < q_z f a 7 := by rw [show q_z f1 a 7 = x from z]; exact h
    rw [o 0 (by decide), o 1 (by decide), o 2 (by decide), o 3 (by decide), o 4 (by decide), o 5 (by decide), o 6 (by decide), o 8 (by decide), o 9 (by decide)]; omega
  · have h7 : q_z f1 a 8 < q_z f a 8 := by rw [show q_z f1 a 8 = x from z]; exact h
    rw [o 0 (by decide), o 1 (by decide), o 2 (by decide), o 3 (by decide), o 4 (by decide), o 5 (by decide), o 6 (by decide), o 7 (by decide), o 9 (by decide)]; omega
  · have h7 : q_z f1 a 9 < q_z f a 9 := by rw [show q_z f1 a 9 = x from z]; exact h
    rw [o 0 (by decide), o 1 (by decide), o 2 (by decide), o 3 (by decide), o 4 (by decide), o 5 (by decide), o 6 (by decide), o 7 (by decide), o 8 (by decide)]; omega
theorem q_hs_nn {g : q_G} {K : Nat → Nat} {L : List Nat} {f : Nat → va_E} {a : Nat} (hT : q_Ty g K L f) (ha : a ∈ L) (hk : K a = 159) : 0 ≤ q_hs f a := by
  have h : ∀ i : Nat, i < 10 → 0 ≤ q_z f a i := fun i hi => (q_ai (n := 10) (lo := 0) (hi := 1000) hT ha hk (by decide) rfl hi rfl).1
  have h0 := h 0 (by decide)
  have h1 := h 1 (by decide)
  have h2 := h 2 (by decide)
  have h3 := h 3 (by decide)
  have h4 := h 4 (by decide)
  have h5 := h 5 (by decide)
  have h6 := h 6 (by decide)
  have h7 := h 7 (by decide)
  have h8 := h 8 (by decide)
  have h9 := h 9 (by decide)
  unfold q_hs
  omega
theorem k_oth {f f1 : Nat → va_E} {a : Nat} {y j : Int} {v : Value} (e : f1 = q_set f a (Int.toNat y) v) (hy : y = j) (h0 : 0 ≤ y) : ∀ i : Nat, (i : Int) ≠ j → q_z f1 a i = q_z f a i := by
  intro i hi
  rw [e, q_setz (Or.inr (by omega))]
theorem k_uses {f f1 : Nat → va_E} {sr : Nat} {a b z c : Int} (t1 : c = q_z f1 sr (Int.toNat (8 * a + 12))) (hc : c = z - b) (tz : z = q_z f sr (Int.toNat (8 * a + 12))) (t2 : ∀ i : Nat, (i : Int) ≠ 8 * a + 12 → q_z f1 sr i = q_z f sr i) (hb : 0 ≤ b) : ∀ n : Int, 0 ≤ n → n ≤ 9 → q_z f sr (Int.toNat (8 * n + 12)) - b ≤ q_z f1 sr (Int.toNat (8 * n + 12)) := by
  intro n h0 h1
  by_cases h : n = a
  · subst h; omega
  · rw [t2 _ (by omega)]
    omega
theorem k_le_of_eq {x y z : Int} (h : x = y) (h2 : z ≤ y) : z ≤ x := by rw [h]; exact h2
/-- how many letters a long can hold: what is left, and the steps so far -/
def k_lb (n : Int) (x : Int64) : Prop := 0 ≤ n ∧ n ≤ 13 ∧ (0 < x.toInt → x.toInt * (32 : Int) ^ n.toNat < 9223372036854775808)
theorem k_lb0 (x : Int64) : k_lb 0 x := ⟨by decide, by decide, fun _ => by have := x.toInt_lt; simpa using this⟩
theorem k_lb13 {n : Int} {x : Int64} (h : k_lb n x) (hx : 0 < x.toInt) : n ≤ 12 := by
  obtain ⟨h0, h1, h2⟩ := h
  have h3 := h2 hx
  by_cases h4 : n ≤ 12
  · exact h4
  · obtain rfl : n = 13 := by omega
    have e : (32 : Int) ^ (13 : Int).toNat = 36893488147419103232 := by decide
    rw [e] at h3
    omega
theorem k_shr64 (a n : Int64) (k : Nat) (hs : (n.toBitVec.smod 64).toNat = k) : (a >>> n).toInt = a.toInt / 2 ^ k := by
  have h : (a >>> n).toInt = a.toInt >>> k := by
    show (a.toBitVec.sshiftRight (n.toBitVec.smod 64).toNat).toInt = _
    rw [hs, BitVec.toInt_sshiftRight]
    rfl
  rw [h, Int.shiftRight_eq_div_pow]
  rfl
theorem k_lb1 {n : Int} {x j : Int64} (h : k_lb n x) (hx : 0 < x.toInt) (e : j = x >>> ((q_i 5).toInt64 &&& 63)) : k_lb (n + 1) j ∧ n ≤ 12 := by
  have h9 := k_lb13 h hx
  obtain ⟨h0, h1, h2⟩ := h
  have h3 := h2 hx
  have ej : j.toInt = x.toInt / 32 := by
    rw [e, k_shr64 x _ 5 (by decide)]
    rfl
  refine ⟨⟨by omega, by omega, fun _ => ?_⟩, h9⟩
  rw [ej, show (n + 1).toNat = n.toNat + 1 by omega, Int.pow_succ, Int.mul_comm ((32 : Int) ^ n.toNat) 32, ← Int.mul_assoc]
  have h4 : x.toInt / 32 * 32 ≤ x.toInt := by omega
  have h5 : (0 : Int) ≤ (32 : Int) ^ n.toNat := Int.le_of_lt (Int.pow_pos (by decide))
  exact Int.lt_of_le_of_lt (Int.mul_le_mul_of_nonneg_right h4 h5) h3
theorem k_pk0 {f : Nat → va_E} {mo pa : Nat} (h : q_z f mo 21 = 0) : q_pk f mo pa := fun j h0 h1 => absurd h1 (by omega)
theorem q_tdn {x y : Int} (hx : x ≤ 0) (hy : 0 < y) : x ≤ Int.tdiv x y ∧ Int.tdiv x y ≤ 0 := by
  have h := q_tdb (x := -x) (y := y) (by omega) hy
  rw [Int.neg_tdiv] at h
  have h2 : y * -Int.tdiv x y = -(y * Int.tdiv x y) := Int.mul_neg _ _
  rw [h2] at h
  refine ⟨?_, by omega⟩
  have h3 : y * Int.tdiv x y ≤ Int.tdiv x y := by
    have h4 : (y - 1) * Int.tdiv x y ≤ 0 := Int.mul_nonpos_of_nonneg_of_nonpos (by omega) (by omega)
    rw [Int.sub_mul, Int.one_mul] at h4
    omega
  omega
