/-! quotients that are numbers -/
theorem k_rr {f : FP.Core.Fmt} {s : Bool} {n d : Nat} {e : Int} : FP.Core.roundRatio f s n d e ≠ .nan := by
  unfold FP.Core.roundRatio
  split
  · intro h; cases h
  · unfold FP.Core.roundAt FP.Core.settle FP.Core.bound
    split <;> split <;> (intro h; cases h)
theorem k_rnd {f : FP.Core.Fmt} {d : FP.Core.Datum} (h : d ≠ .nan) : FP.Core.round f d ≠ .nan := by
  cases d with
  | nan => exact absurd rfl h
  | inf s => intro h2; cases h2
  | fin s c q => exact k_rr
theorem k_quo {f : FP.Core.Fmt} {x y : FP.Core.Datum} (hx : x ≠ .nan) (hy : ∃ (t : Bool) (d : Nat) (r : Int), y = .fin t d r ∧ d ≠ 0) : FP.Core.quotient f x y ≠ .nan := by
  obtain ⟨t, d, r, rfl, hd⟩ := hy
  cases x with
  | nan => exact absurd rfl hx
  | inf s => intro h2; cases h2
  | fin s c q =>
    show (if d = 0 then (if c = 0 then FP.Core.Datum.nan else .inf (s != t)) else FP.Core.roundRatio f (s != t) c d (q - r)) ≠ .nan
    rw [if_neg hd]
    exact k_rr
def k_f64 (x : FP.Core.Datum) : Bool := match x with
  | .fin _ c _ => c != 0
  | _ => false
theorem k_f64e {x : FP.Core.Datum} (h : k_f64 x = true) : ∃ (t : Bool) (d : Nat) (r : Int), x = .fin t d r ∧ d ≠ 0 := by
  cases x with
  | nan => cases h
  | inf s => cases h
  | fin s c q => exact ⟨s, c, q, rfl, by simpa [k_f64] using h⟩
theorem k_y64 : ∀ y : Nat, y < 61 → 0 < y → k_f64 (FP.Core.val64 (FP.i2d (Int32.ofNat y))) = true := by decide +kernel
theorem k_y32 : ∀ y : Nat, y < 61 → 0 < y → k_f64 (FP.Core.val32 (FP.i2f (Int32.ofNat y))) = true := by decide +kernel
theorem k_iN {y : Int} (h : 0 ≤ y) : q_i y = Int32.ofNat y.toNat := by
  unfold q_i
  rw [← Int32.ofInt_eq_ofNat, Int.toNat_of_nonneg h]
theorem k_v64 {r : UInt64} (h : FP.Core.val64 r ≠ .nan) : vf_n64 r := by
  have h1 := (FP.Core.ne_nan r).mp h
  unfold vf_n64
  rw [UInt64.le_iff_toNat_le, UInt64.toNat_and]
  rw [show (0x7fffffffffffffff : UInt64).toNat = 2 ^ 63 - 1 from by decide, Nat.and_two_pow_sub_one_eq_mod]
  exact h1
theorem k_v32 {r : UInt32} (h : FP.Core.val32 r ≠ .nan) : vf_n32 r := by
  have h1 := (FP.Core.ne_nan32 r).mp h
  unfold vf_n32
  rw [UInt32.le_iff_toNat_le, UInt32.toNat_and]
  rw [show (0x7fffffff : UInt32).toNat = 2 ^ 31 - 1 from by decide, Nat.and_two_pow_sub_one_eq_mod]
  exact h1
theorem k_v32e {r : UInt32} (h : vf_n32 r) : FP.Core.val32 r ≠ .nan := by
  unfold vf_n32 at h
  rw [UInt32.le_iff_toNat_le, UInt32.toNat_and] at h
  rw [show (0x7fffffff : UInt32).toNat = 2 ^ 31 - 1 from by decide, Nat.and_two_pow_sub_one_eq_mod] at h
  exact (FP.Core.ne_nan32 r).mpr h
theorem k_ddiv {x y : Int} (h0 : 0 < y) (h1 : y ≤ 60) : vf_n64 (FP.ddiv (FP.i2d (q_i x)) (FP.i2d (q_i y))) := by
  refine k_v64 ?_
  have e : FP.Core.val64 (FP.ddiv (FP.i2d (q_i x)) (FP.i2d (q_i y))) = _ := FP.Core.val64_ddiv _ _
  rw [e]
  refine k_quo ?_ (k_f64e ?_)
  · have e2 : FP.Core.val64 (FP.i2d (q_i x)) = _ := FP.Core.val64_i2d _
    rw [e2]
    exact k_rnd (by intro h; cases h)
  · rw [k_iN (by omega)]
    exact k_y64 _ (by omega) (by omega)
theorem k_fdiv {x y : Int} (h0 : 0 < y) (h1 : y ≤ 60) : vf_n32 (FP.fdiv (FP.i2f (q_i x)) (FP.i2f (q_i y))) := by
  refine k_v32 ?_
  have e : FP.Core.val32 (FP.fdiv (FP.i2f (q_i x)) (FP.i2f (q_i y))) = _ := FP.Core.val32_fdiv _ _
  rw [e]
  refine k_quo ?_ (k_f64e ?_)
  · have e2 : FP.Core.val32 (FP.i2f (q_i x)) = _ := FP.Core.val32_i2f _
    rw [e2]
    exact k_rnd (by intro h; cases h)
  · rw [k_iN (by omega)]
    exact k_y32 _ (by omega) (by omega)
theorem k_f2d {x : UInt32} (h : vf_n32 x) : vf_n64 (FP.f2d x) := by
  refine k_v64 ((FP.Core.notNaN_iff _).mp ?_)
  have e : FP.Core.dIsNaN (FP.f2d x) = FP.Core.fIsNaN x := FP.f2d_nan x
  rw [e]
  exact (FP.Core.notNaN_iff32 _).mpr (k_v32e h)
theorem k_f0 : vf_n32 0 := by unfold vf_n32; decide
