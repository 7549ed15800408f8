/-! further pure rows; calls by what they answer -/
def q_l (z : Int) : Int64 := Int64.ofInt z
theorem q_lInt {z : Int} (h : q_R z) : (q_l z).toInt = z := Int64.toInt_ofInt_of_le (by omega) (by omega)
theorem q_i2lz {z : Int} (h : q_R z) : (q_i z).toInt64 = q_l z := by
  apply Int64.toInt_inj.mp
  rw [Int32.toInt_toInt64, q_toInt h, q_lInt h]
theorem q_l2iz {z : Int} : (q_l z).toInt32 = q_i z := by
  unfold q_l q_i
  exact Int64.toInt32_ofInt ..
theorem q_and {x : Int32} {m : Int} (k : Nat) (hk : k ≤ 31) (hm : (q_i m).toBitVec.toNat = 2 ^ k - 1) : ∃ z : Int, x &&& q_i m = q_i z ∧ 0 ≤ z ∧ z ≤ (2 ^ k - 1 : Nat) := by
  obtain ⟨j, h1, h2⟩ := pk_andE x k hm
  refine ⟨(j : Int), by rw [h2]; exact Int32.ofInt_eq_ofNat.symm, by omega, by omega⟩
theorem q_divz {x y : Int} (hx : q_R x) (hy : q_R y) : q_i x / q_i y = q_i (x.tdiv y) := (Int32.ofInt_tdiv hx.1 hx.2 hy.1 hy.2).symm
theorem q_tmod {x y : Int} : x - x.tdiv y * y = x.tmod y := by
  have h := Int.mul_tdiv_add_tmod x y
  have h2 : x.tdiv y * y = y * x.tdiv y := Int.mul_comm _ _
  omega
section QP3
variable {p : Program} {l : Launch} {e : Env} {R : Room} {s : State} {m : MethodId} {args : Array Value} {below : List Frame} {meth : Method} {c : Code} {H : Heap} {locs : List Loc} {cells slots : Nat} {Q : State → Prop}
variable {cc : ByteArray} {pc nL : Nat} {ls : Array Slot} {rest : List Value} {own : String}
theorem q_iand (cx : CallFix p m c cc nL s args q_al own) {x y : Int32} (hdg : decode cc pc = .ok (.iand, 1)) (k : ∀ z : Int, q_R z → x &&& y = q_i z → W p l e R s m args below meth c H locs cells slots Q (F0 m (pc + 1) ls (.int (q_i z) :: rest))) : W p l e R s m args below meth c H locs cells slots Q (F0 m pc ls (.int y :: .int x :: rest)) := lv_iand cx.1 cx.2.1 hdg (q_any k)
theorem q_iandm (cx : CallFix p m c cc nL s args q_al own) {x : Int32} {mm : Int} (n : Nat) (hn : n ≤ 31) (hm : (q_i mm).toBitVec.toNat = 2 ^ n - 1) (hdg : decode cc pc = .ok (.iand, 1)) (k : ∀ z : Int, 0 ≤ z → z ≤ (2 ^ n - 1 : Nat) → x &&& q_i mm = q_i z → W p l e R s m args below meth c H locs cells slots Q (F0 m (pc + 1) ls (.int (q_i z) :: rest))) : W p l e R s m args below meth c H locs cells slots Q (F0 m pc ls (.int (q_i mm) :: .int x :: rest)) := by
  obtain ⟨z, h1, h2, h3⟩ := q_and (x := x) n hn hm
  exact lv_iand cx.1 cx.2.1 hdg (by rw [h1]; exact k z h2 h3 h1)
theorem q_ior (cx : CallFix p m c cc nL s args q_al own) {x y : Int32} (hdg : decode cc pc = .ok (.ior, 1)) (k : ∀ z : Int, q_R z → x ||| y = q_i z → W p l e R s m args below meth c H locs cells slots Q (F0 m (pc + 1) ls (.int (q_i z) :: rest))) : W p l e R s m args below meth c H locs cells slots Q (F0 m pc ls (.int y :: .int x :: rest)) := lv_ior cx.1 cx.2.1 hdg (q_any k)
theorem q_ixor (cx : CallFix p m c cc nL s args q_al own) {x y : Int32} (hdg : decode cc pc = .ok (.ixor, 1)) (k : ∀ z : Int, q_R z → x ^^^ y = q_i z → W p l e R s m args below meth c H locs cells slots Q (F0 m (pc + 1) ls (.int (q_i z) :: rest))) : W p l e R s m args below meth c H locs cells slots Q (F0 m pc ls (.int y :: .int x :: rest)) := lv_ixor cx.1 cx.2.1 hdg (q_any k)
theorem q_ishl (cx : CallFix p m c cc nL s args q_al own) {x y : Int32} (hdg : decode cc pc = .ok (.ishl, 1)) (k : ∀ z : Int, q_R z → x <<< (y &&& 31) = q_i z → W p l e R s m args below meth c H locs cells slots Q (F0 m (pc + 1) ls (.int (q_i z) :: rest))) : W p l e R s m args below meth c H locs cells slots Q (F0 m pc ls (.int y :: .int x :: rest)) := lv_ishl cx.1 cx.2.1 hdg (q_any k)
theorem q_ishr (cx : CallFix p m c cc nL s args q_al own) {x y : Int32} (hdg : decode cc pc = .ok (.ishr, 1)) (k : ∀ z : Int, q_R z → x >>> (y &&& 31) = q_i z → W p l e R s m args below meth c H locs cells slots Q (F0 m (pc + 1) ls (.int (q_i z) :: rest))) : W p l e R s m args below meth c H locs cells slots Q (F0 m pc ls (.int y :: .int x :: rest)) := lv_ishr cx.1 cx.2.1 hdg (q_any k)
theorem q_idiv (cx : CallFix p m c cc nL s args q_al own) {x y : Int} (hx : q_R x) (hy : q_R y) (h0 : ¬ y = 0) (hdg : decode cc pc = .ok (.idiv, 1)) (k : W p l e R s m args below meth c H locs cells slots Q (F0 m (pc + 1) ls (.int (q_i (x.tdiv y)) :: rest))) : W p l e R s m args below meth c H locs cells slots Q (F0 m pc ls (.int (q_i y) :: .int (q_i x) :: rest)) :=
  lv_idiv cx.1 cx.2.1 hdg (fun h => h0 ((q_eq hy ⟨by decide, by decide⟩).mp h)) (by rw [q_divz hx hy]; exact k)
theorem q_irem (cx : CallFix p m c cc nL s args q_al own) {x y : Int} (hx : q_R x) (hy : q_R y) (h0 : 0 < y) (hdg : decode cc pc = .ok (.irem, 1)) (k : ∀ z : Int, z = x.tmod y → -y < z → z < y → (0 ≤ x → 0 ≤ z ∧ z ≤ x) → W p l e R s m args below meth c H locs cells slots Q (F0 m (pc + 1) ls (.int (q_i z) :: rest))) : W p l e R s m args below meth c H locs cells slots Q (F0 m pc ls (.int (q_i y) :: .int (q_i x) :: rest)) := by
  refine lv_irem cx.1 cx.2.1 hdg (fun h => (by omega : ¬ y = 0) ((q_eq hy ⟨by decide, by decide⟩).mp h)) ?_
  rw [q_divz hx hy, q_mul, q_sub, q_tmod]
  have h1 := Int.tmod_lt_of_pos x h0
  have h2 := Int.lt_tmod_of_pos x h0
  exact k _ rfl h2 h1 (fun hx0 => ⟨Int.tmod_nonneg _ hx0, by
    have h3 := Int.mul_tdiv_add_tmod x y
    have h4 := Int.mul_nonneg (Int.le_of_lt h0) (Int.tdiv_nonneg hx0 (Int.le_of_lt h0))
    omega⟩)
theorem q_i2l (cx : CallFix p m c cc nL s args q_al own) {x : Int} (hx : q_R x) (hdg : decode cc pc = .ok (.i2l, 1)) (k : W p l e R s m args below meth c H locs cells slots Q (F0 m (pc + 1) ls (.long (q_l x) :: rest))) : W p l e R s m args below meth c H locs cells slots Q (F0 m pc ls (.int (q_i x) :: rest)) := lv_i2l cx.1 cx.2.1 hdg (q_i2lz hx) k
theorem q_lconst (cx : CallFix p m c cc nL s args q_al own) {n : Fin 2} {z : Int} (hz : Int64.ofNat (n : Nat) = q_l z) (hdg : decode cc pc = .ok (.lconst n, 1)) (k : W p l e R s m args below meth c H locs cells slots Q (F0 m (pc + 1) ls (.long (q_l z) :: rest))) : W p l e R s m args below meth c H locs cells slots Q (F0 m pc ls rest) := lv_lconst cx.1 cx.2.1 hdg hz k
theorem q_l2i (cx : CallFix p m c cc nL s args q_al own) {x : Int64} (hdg : decode cc pc = .ok (.l2i, 1)) (k : ∀ z : Int, q_R z → x.toInt32 = q_i z → W p l e R s m args below meth c H locs cells slots Q (F0 m (pc + 1) ls (.int (q_i z) :: rest))) : W p l e R s m args below meth c H locs cells slots Q (F0 m pc ls (.long x :: rest)) := lv_l2i cx.1 cx.2.1 hdg rfl (q_any k)
theorem q_i2b (cx : CallFix p m c cc nL s args q_al own) {x : Int32} (hdg : decode cc pc = .ok (.i2b, 1)) (k : ∀ z : Int, -128 ≤ z → z ≤ 127 → x.toInt8.toInt32 = q_i z → W p l e R s m args below meth c H locs cells slots Q (F0 m (pc + 1) ls (.int (q_i z) :: rest))) : W p l e R s m args below meth c H locs cells slots Q (F0 m pc ls (.int x :: rest)) := by
  have h := k x.toInt8.toInt (by have := x.toInt8.le_toInt; omega) (by have := x.toInt8.toInt_lt; omega) (by unfold q_i; rw [Int32.ofInt_int8ToInt])
  refine lv_i2b cx.1 cx.2.1 hdg (v := q_i x.toInt8.toInt) (by unfold q_i; rw [Int32.ofInt_int8ToInt]) h
theorem q_lcmp (cx : CallFix p m c cc nL s args q_al own) {x y : Int64} (hdg : decode cc pc = .ok (.lcmp, 1)) (k : ∀ z : Int, -1 ≤ z → z ≤ 1 → (z = -1 ↔ x.toInt < y.toInt) → (z = 0 ↔ x = y) → (z = 1 ↔ y.toInt < x.toInt) → W p l e R s m args below meth c H locs cells slots Q (F0 m (pc + 1) ls (.int (q_i z) :: rest))) : W p l e R s m args below meth c H locs cells slots Q (F0 m pc ls (.long y :: .long x :: rest)) := by
  refine W.lcmp cx.1 cx.2.1 hdg ?_
  by_cases h1 : y < x
  · have e : lg_cmp x y = q_i 1 := by simp only [lg_cmp, h1, if_true]; rfl
    have h2 := Int64.lt_iff_toInt_lt.mp h1
    rw [e]
    exact k 1 (by omega) (by omega) ⟨fun h => by omega, fun h => by omega⟩ ⟨fun h => by omega, fun h => by rw [h] at h2; omega⟩ ⟨fun _ => h2, fun _ => rfl⟩
  · have h2 : x.toInt ≤ y.toInt := Int.not_lt.mp (fun h => h1 (Int64.lt_iff_toInt_lt.mpr h))
    by_cases h3 : x = y
    · have e : lg_cmp x y = q_i 0 := by simp only [lg_cmp, h1, if_false, h3]; first | rfl | simp [q_i]
      rw [e]
      exact k 0 (by omega) (by omega) ⟨fun h => by omega, fun h => by rw [h3] at h; omega⟩ ⟨fun _ => h3, fun _ => rfl⟩ ⟨fun h => by omega, fun h => by omega⟩
    · have e : lg_cmp x y = q_i (-1) := by simp only [lg_cmp, h1, if_false, h3]; first | rfl | simp [q_i]
      have h4 : ¬ x.toInt = y.toInt := fun h => h3 (Int64.toInt_inj.mp h)
      rw [e]
      exact k (-1) (by omega) (by omega) ⟨fun _ => by omega, fun _ => rfl⟩ ⟨fun h => by omega, fun h => absurd h h3⟩ ⟨fun h => by omega, fun h => by omega⟩
end QP3
section QC3
variable {p : Program} {l : Launch} {e : Env} {R : Room} {s : State} {m : MethodId} {args : Array Value} {below : List Frame} {meth : Method} {c : Code} {H : Heap} {locs : List Loc} {cells slots : Nat} {Q : State → Prop}
variable {cc : ByteArray} {pc nL : Nat} {ls : Array Slot} {rest : List Value} {own : String}
variable {g : q_G} {K : Nat → Nat} {L : List Nat} {A : Nat → Prop} {w : q_Ws} {f0 f : Nat → va_E}
variable {y : MethodName} {bytes : ByteArray} {maxL fr lo n index : Nat} {ret : Option FieldType} {C : String} {b k : Nat} {T : u_T} {N : Nat} {As st0 : List Value} {w' : q_Ws}
theorem q_cVi {P : Int → (Nat → va_E) → Prop}
    (cx : CallFix p m c cc nL s args q_al own) (hB : q_B g K L A w f0 f s H locs) (hLA : ∀ q, q ∈ L → A q) (hN : L.Nodup) (hb : b ∈ L) (hk : K b = k) (h20 : k < 100) (hcl : vwCl[q_ck k]? = some (C, T, N))
    (hM : q_Ct l g K L y bytes maxL ret fr lo (.ref b :: As) f w' (q_Pi P)) (hwd : ∀ w ∈ wsV own index C y (.code y bytes maxL ret :: q_al), w ∈ q_al)
    (hd : y.cls = C ∧ y.cls ≠ "java/lang/invoke/MethodHandle" ∧ y.cls ≠ "java/lang/invoke/VarHandle" ∧ (parseMethodDescriptor y.desc).map (fun d => d.parameters.length) = some n)
    (hR : (fr + 1 ≤ R.frames ∧ 8 + (maxL + 11) + lo ≤ R.locals) ∧ cells ≤ R.cells ∧ slots ≤ R.slots) (hsub : q_wsub w' w = true) (hn : As.length = n) (hls : ls.size = nL) (hst : st0 = As.reverse ++ .ref b :: rest) (hcat : (rest.map fun v => v.category).sum ≤ 8) (hdg : decode cc pc = .ok (.invokevirtual index, 3))
    (kk : ∀ (z : Int) (H1 : Heap) (locs1 : List Loc) (f1 : Nat → va_E), q_R z → P z f1 → q_Fr w' K L f f1 → q_B g K L A w f0 f1 s H1 locs1 → W p l e R s m args below meth c H1 locs1 cells slots Q (F0 m (pc + 3) ls (.int (q_i z) :: rest))) : W p l e R s m args below meth c H locs cells slots Q (F0 m pc ls st0) :=
  q_callV cx hB hLA hN hb hk h20 hcl hM hwd hd hR hsub hn hls hst hcat hdg (fun v H1 locs1 f1 hp hF hB1 => by obtain ⟨z, rfl, hz, hp⟩ := hp; exact kk z H1 locs1 f1 hz hp hF hB1)
theorem q_cSi {P : Int → (Nat → va_E) → Prop}
    (cx : CallFix p m c cc nL s args q_al own) (hB : q_B g K L A w f0 f s H locs) (hLA : ∀ q, q ∈ L → A q) (hN : L.Nodup)
    (hM : q_Ct l g K L y bytes maxL ret fr lo As f w' (q_Pi P)) (hwd : ∀ w ∈ va_wsS own index y (.code y bytes maxL ret :: q_al), w ∈ q_al)
    (hd : y.cls ≠ "java/lang/invoke/MethodHandle" ∧ y.cls ≠ "java/lang/invoke/VarHandle" ∧ (parseMethodDescriptor y.desc).map (fun d => d.parameters.length) = some n)
    (hR : (fr + 1 ≤ R.frames ∧ 8 + (maxL + 11) + lo ≤ R.locals) ∧ cells ≤ R.cells ∧ slots ≤ R.slots) (hsub : q_wsub w' w = true) (hn : As.length = n) (hls : ls.size = nL) (hst : st0 = As.reverse ++ rest) (hcat : (rest.map fun v => v.category).sum ≤ 8) (hdg : decode cc pc = .ok (.invokestatic index, 3))
    (kk : ∀ (z : Int) (H1 : Heap) (locs1 : List Loc) (f1 : Nat → va_E), q_R z → P z f1 → q_Fr w' K L f f1 → q_B g K L A w f0 f1 s H1 locs1 → W p l e R s m args below meth c H1 locs1 cells slots Q (F0 m (pc + 3) ls (.int (q_i z) :: rest))) : W p l e R s m args below meth c H locs cells slots Q (F0 m pc ls st0) :=
  q_callS cx hB hLA hN hM hwd hd hR hsub hn hls hst hcat hdg (fun v H1 locs1 f1 hp hF hB1 => by obtain ⟨z, rfl, hz, hp⟩ := hp; exact kk z H1 locs1 f1 hz hp hF hB1)
theorem q_cVv {P : (Nat → va_E) → Prop}
    (cx : CallFix p m c cc nL s args q_al own) (hB : q_B g K L A w f0 f s H locs) (hLA : ∀ q, q ∈ L → A q) (hN : L.Nodup) (hb : b ∈ L) (hk : K b = k) (h20 : k < 100) (hcl : vwCl[q_ck k]? = some (C, T, N))
    (hM : q_Ct l g K L y bytes maxL ret fr lo (.ref b :: As) f w' (q_Pv P)) (hwd : ∀ w ∈ wsV own index C y (.code y bytes maxL ret :: q_al), w ∈ q_al)
    (hd : y.cls = C ∧ y.cls ≠ "java/lang/invoke/MethodHandle" ∧ y.cls ≠ "java/lang/invoke/VarHandle" ∧ (parseMethodDescriptor y.desc).map (fun d => d.parameters.length) = some n)
    (hR : (fr + 1 ≤ R.frames ∧ 8 + (maxL + 11) + lo ≤ R.locals) ∧ cells ≤ R.cells ∧ slots ≤ R.slots) (hsub : q_wsub w' w = true) (hn : As.length = n) (hls : ls.size = nL) (hst : st0 = As.reverse ++ .ref b :: rest) (hcat : (rest.map fun v => v.category).sum ≤ 8) (hdg : decode cc pc = .ok (.invokevirtual index, 3))
    (kk : ∀ (H1 : Heap) (locs1 : List Loc) (f1 : Nat → va_E), P f1 → q_Fr w' K L f f1 → q_B g K L A w f0 f1 s H1 locs1 → W p l e R s m args below meth c H1 locs1 cells slots Q (F0 m (pc + 3) ls (rest))) : W p l e R s m args below meth c H locs cells slots Q (F0 m pc ls st0) :=
  q_callV cx hB hLA hN hb hk h20 hcl hM hwd hd hR hsub hn hls hst hcat hdg (fun v H1 locs1 f1 hp hF hB1 => by obtain ⟨rfl, hp⟩ := hp; exact kk H1 locs1 f1 hp hF hB1)
theorem q_cSv {P : (Nat → va_E) → Prop}
    (cx : CallFix p m c cc nL s args q_al own) (hB : q_B g K L A w f0 f s H locs) (hLA : ∀ q, q ∈ L → A q) (hN : L.Nodup)
    (hM : q_Ct l g K L y bytes maxL ret fr lo As f w' (q_Pv P)) (hwd : ∀ w ∈ va_wsS own index y (.code y bytes maxL ret :: q_al), w ∈ q_al)
    (hd : y.cls ≠ "java/lang/invoke/MethodHandle" ∧ y.cls ≠ "java/lang/invoke/VarHandle" ∧ (parseMethodDescriptor y.desc).map (fun d => d.parameters.length) = some n)
    (hR : (fr + 1 ≤ R.frames ∧ 8 + (maxL + 11) + lo ≤ R.locals) ∧ cells ≤ R.cells ∧ slots ≤ R.slots) (hsub : q_wsub w' w = true) (hn : As.length = n) (hls : ls.size = nL) (hst : st0 = As.reverse ++ rest) (hcat : (rest.map fun v => v.category).sum ≤ 8) (hdg : decode cc pc = .ok (.invokestatic index, 3))
    (kk : ∀ (H1 : Heap) (locs1 : List Loc) (f1 : Nat → va_E), P f1 → q_Fr w' K L f f1 → q_B g K L A w f0 f1 s H1 locs1 → W p l e R s m args below meth c H1 locs1 cells slots Q (F0 m (pc + 3) ls (rest))) : W p l e R s m args below meth c H locs cells slots Q (F0 m pc ls st0) :=
  q_callS cx hB hLA hN hM hwd hd hR hsub hn hls hst hcat hdg (fun v H1 locs1 f1 hp hF hB1 => by obtain ⟨rfl, hp⟩ := hp; exact kk H1 locs1 f1 hp hF hB1)
theorem q_cVr {P : Nat → (Nat → va_E) → Prop}
    (cx : CallFix p m c cc nL s args q_al own) (hB : q_B g K L A w f0 f s H locs) (hLA : ∀ q, q ∈ L → A q) (hN : L.Nodup) (hb : b ∈ L) (hk : K b = k) (h20 : k < 100) (hcl : vwCl[q_ck k]? = some (C, T, N))
    (hM : q_Ct l g K L y bytes maxL ret fr lo (.ref b :: As) f w' (q_Pr P)) (hwd : ∀ w ∈ wsV own index C y (.code y bytes maxL ret :: q_al), w ∈ q_al)
    (hd : y.cls = C ∧ y.cls ≠ "java/lang/invoke/MethodHandle" ∧ y.cls ≠ "java/lang/invoke/VarHandle" ∧ (parseMethodDescriptor y.desc).map (fun d => d.parameters.length) = some n)
    (hR : (fr + 1 ≤ R.frames ∧ 8 + (maxL + 11) + lo ≤ R.locals) ∧ cells ≤ R.cells ∧ slots ≤ R.slots) (hsub : q_wsub w' w = true) (hn : As.length = n) (hls : ls.size = nL) (hst : st0 = As.reverse ++ .ref b :: rest) (hcat : (rest.map fun v => v.category).sum ≤ 8) (hdg : decode cc pc = .ok (.invokevirtual index, 3))
    (kk : ∀ (z : Nat) (H1 : Heap) (locs1 : List Loc) (f1 : Nat → va_E), P z f1 → q_Fr w' K L f f1 → q_B g K L A w f0 f1 s H1 locs1 → W p l e R s m args below meth c H1 locs1 cells slots Q (F0 m (pc + 3) ls (.ref z :: rest))) : W p l e R s m args below meth c H locs cells slots Q (F0 m pc ls st0) :=
  q_callV cx hB hLA hN hb hk h20 hcl hM hwd hd hR hsub hn hls hst hcat hdg (fun v H1 locs1 f1 hp hF hB1 => by obtain ⟨z, rfl, hp⟩ := hp; exact kk z H1 locs1 f1 hp hF hB1)
theorem q_cSr {P : Nat → (Nat → va_E) → Prop}
    (cx : CallFix p m c cc nL s args q_al own) (hB : q_B g K L A w f0 f s H locs) (hLA : ∀ q, q ∈ L → A q) (hN : L.Nodup)
    (hM : q_Ct l g K L y bytes maxL ret fr lo As f w' (q_Pr P)) (hwd : ∀ w ∈ va_wsS own index y (.code y bytes maxL ret :: q_al), w ∈ q_al)
    (hd : y.cls ≠ "java/lang/invoke/MethodHandle" ∧ y.cls ≠ "java/lang/invoke/VarHandle" ∧ (parseMethodDescriptor y.desc).map (fun d => d.parameters.length) = some n)
    (hR : (fr + 1 ≤ R.frames ∧ 8 + (maxL + 11) + lo ≤ R.locals) ∧ cells ≤ R.cells ∧ slots ≤ R.slots) (hsub : q_wsub w' w = true) (hn : As.length = n) (hls : ls.size = nL) (hst : st0 = As.reverse ++ rest) (hcat : (rest.map fun v => v.category).sum ≤ 8) (hdg : decode cc pc = .ok (.invokestatic index, 3))
    (kk : ∀ (z : Nat) (H1 : Heap) (locs1 : List Loc) (f1 : Nat → va_E), P z f1 → q_Fr w' K L f f1 → q_B g K L A w f0 f1 s H1 locs1 → W p l e R s m args below meth c H1 locs1 cells slots Q (F0 m (pc + 3) ls (.ref z :: rest))) : W p l e R s m args below meth c H locs cells slots Q (F0 m pc ls st0) :=
  q_callS cx hB hLA hN hM hwd hd hR hsub hn hls hst hcat hdg (fun v H1 locs1 f1 hp hF hB1 => by obtain ⟨z, rfl, hp⟩ := hp; exact kk z H1 locs1 f1 hp hF hB1)
theorem q_cVl {P : Int64 → (Nat → va_E) → Prop}
    (cx : CallFix p m c cc nL s args q_al own) (hB : q_B g K L A w f0 f s H locs) (hLA : ∀ q, q ∈ L → A q) (hN : L.Nodup) (hb : b ∈ L) (hk : K b = k) (h20 : k < 100) (hcl : vwCl[q_ck k]? = some (C, T, N))
    (hM : q_Ct l g K L y bytes maxL ret fr lo (.ref b :: As) f w' (q_Pl P)) (hwd : ∀ w ∈ wsV own index C y (.code y bytes maxL ret :: q_al), w ∈ q_al)
    (hd : y.cls = C ∧ y.cls ≠ "java/lang/invoke/MethodHandle" ∧ y.cls ≠ "java/lang/invoke/VarHandle" ∧ (parseMethodDescriptor y.desc).map (fun d => d.parameters.length) = some n)
    (hR : (fr + 1 ≤ R.frames ∧ 8 + (maxL + 11) + lo ≤ R.locals) ∧ cells ≤ R.cells ∧ slots ≤ R.slots) (hsub : q_wsub w' w = true) (hn : As.length = n) (hls : ls.size = nL) (hst : st0 = As.reverse ++ .ref b :: rest) (hcat : (rest.map fun v => v.category).sum ≤ 8) (hdg : decode cc pc = .ok (.invokevirtual index, 3))
    (kk : ∀ (z : Int64) (H1 : Heap) (locs1 : List Loc) (f1 : Nat → va_E), P z f1 → q_Fr w' K L f f1 → q_B g K L A w f0 f1 s H1 locs1 → W p l e R s m args below meth c H1 locs1 cells slots Q (F0 m (pc + 3) ls (.long z :: rest))) : W p l e R s m args below meth c H locs cells slots Q (F0 m pc ls st0) :=
  q_callV cx hB hLA hN hb hk h20 hcl hM hwd hd hR hsub hn hls hst hcat hdg (fun v H1 locs1 f1 hp hF hB1 => by obtain ⟨z, rfl, hp⟩ := hp; exact kk z H1 locs1 f1 hp hF hB1)
theorem q_cSl {P : Int64 → (Nat → va_E) → Prop}
    (cx : CallFix p m c cc nL s args q_al own) (hB : q_B g K L A w f0 f s H locs) (hLA : ∀ q, q ∈ L → A q) (hN : L.Nodup)
    (hM : q_Ct l g K L y bytes maxL ret fr lo As f w' (q_Pl P)) (hwd : ∀ w ∈ va_wsS own index y (.code y bytes maxL ret :: q_al), w ∈ q_al)
    (hd : y.cls ≠ "java/lang/invoke/MethodHandle" ∧ y.cls ≠ "java/lang/invoke/VarHandle" ∧ (parseMethodDescriptor y.desc).map (fun d => d.parameters.length) = some n)
    (hR : (fr + 1 ≤ R.frames ∧ 8 + (maxL + 11) + lo ≤ R.locals) ∧ cells ≤ R.cells ∧ slots ≤ R.slots) (hsub : q_wsub w' w = true) (hn : As.length = n) (hls : ls.size = nL) (hst : st0 = As.reverse ++ rest) (hcat : (rest.map fun v => v.category).sum ≤ 8) (hdg : decode cc pc = .ok (.invokestatic index, 3))
    (kk : ∀ (z : Int64) (H1 : Heap) (locs1 : List Loc) (f1 : Nat → va_E), P z f1 → q_Fr w' K L f f1 → q_B g K L A w f0 f1 s H1 locs1 → W p l e R s m args below meth c H1 locs1 cells slots Q (F0 m (pc + 3) ls (.long z :: rest))) : W p l e R s m args below meth c H locs cells slots Q (F0 m pc ls st0) :=
  q_callS cx hB hLA hN hM hwd hd hR hsub hn hls hst hcat hdg (fun v H1 locs1 f1 hp hF hB1 => by obtain ⟨z, rfl, hp⟩ := hp; exact kk z H1 locs1 f1 hp hF hB1)
end QC3
/-! rows of arrays of longs, Math -/
theorem q_setj {f : Nat → va_E} {a i b j : Nat} {v : Value} (h : b ≠ a ∨ j ≠ i) : q_j (q_set f a i v) b j = q_j f b j := congrArg q_lv (q_set_ne h)
theorem q_Fr.j {w : q_Ws} {K : Nat → Nat} {L : List Nat} {f f1 : Nat → va_E} (h : q_Fr w K L f f1) {a i : Nat} (ha : a ∈ L) (hi : q_inW w (K a) i = false) : q_j f1 a i = q_j f a i := congrArg q_lv (h a ha i hi)
theorem q_pnil {α : Type} {P : α → Prop} : ∀ z ∈ ([] : List α), P z := fun _ h => nomatch h
theorem q_pcons {α : Type} {P : α → Prop} {a : α} {l : List α} (h : P a) (t : ∀ z ∈ l, P z) : ∀ z ∈ a :: l, P z := List.forall_mem_cons.mpr ⟨h, t⟩
theorem q_inWi {w : q_Ws} {k i lo hi : Nat} (h : w.any (fun q => q.1 == k && decide (q.2.1 ≤ lo) && decide (hi ≤ q.2.2)) = true) (h1 : lo ≤ i) (h2 : i ≤ hi) : q_inW w k i = true := by
  rw [List.any_eq_true] at h
  obtain ⟨q, hq, h3⟩ := h
  rw [q_inW, List.any_eq_true]
  refine ⟨q, hq, ?_⟩
  simp only [Bool.and_eq_true, beq_iff_eq, decide_eq_true_eq] at h3 ⊢
  omega
theorem q_xin {ws : List Cond} (h : ∀ w ∈ ws, w ∈ lw_tbl ∧ goodWord w = true) : ∀ w ∈ ws, w ∈ q_al := fun w hw => List.mem_filter.mpr (h w hw)
section Q5
variable {p : Program} {l : Launch} {e : Env} {R : Room} {s : State} {m : MethodId} {args : Array Value} {below : List Frame} {meth : Method} {c : Code} {H : Heap} {locs : List Loc} {cells slots : Nat} {Q : State → Prop}
variable {cc : ByteArray} {pc nL : Nat} {ls : Array Slot} {rest : List Value} {own : String} {index a k : Nat}
variable {g : q_G} {K : Nat → Nat} {L : List Nat} {A : Nat → Prop} {w : q_Ws} {f0 f : Nat → va_E}
theorem q_mmax {x y : Int} (cx : CallFix p m c cc nL s args q_al own) (hls : ls.size = nL) (h1 : Cond.methodLink own index Lib.Math.max.name ∈ q_al) (h2 : Cond.static Lib.Math.max.name ∈ q_al) (h3 : Cond.initialized "java/lang/Math" ∈ q_al) (h4 : Cond.code Lib.Math.max.name Lib.Math.max.code 2 (some .int) ∈ q_al)
    (hfr : 1 ≤ R.frames) (hlo : (rest.map fun v => v.category).sum + 13 ≤ R.locals) (hc : cells ≤ R.cells) (hs : slots ≤ R.slots) (hx : q_R x) (hy : q_R y) (hdg : decode cc pc = .ok (.invokestatic index, 3))
    (kk : ∀ z : Int, x ≤ z → y ≤ z → (z = x ∨ z = y) → W p l e R s m args below meth c H locs cells slots Q (F0 m (pc + 3) ls (.int (q_i z) :: rest))) : W p l e R s m args below meth c H locs cells slots Q (F0 m pc ls (.int (q_i y) :: .int (q_i x) :: rest)) := by
  refine va_mmax cx.1 cx.2.1 (cx.2.2.1.trans hls.symm) cx.2.2.2.1 (cx.2.2.2.2 _ h1) (cx.2.2.2.2 _ h2) (cx.2.2.2.2 _ h3) (cx.2.2.2.2 _ h4) hfr hlo hc hs hdg ?_
  by_cases h : q_i x < q_i y
  · rw [if_pos h]
    have := (q_lt hx hy).mp h
    exact kk y (by omega) (by omega) (Or.inr rfl)
  · rw [if_neg h]
    have : ¬ x < y := fun q => h ((q_lt hx hy).mpr q)
    exact kk x (by omega) (by omega) (Or.inl rfl)
theorem q_mmin {x y : Int} (cx : CallFix p m c cc nL s args q_al own) (hls : ls.size = nL) (h1 : Cond.methodLink own index Lib.Math.min.name ∈ q_al) (h2 : Cond.static Lib.Math.min.name ∈ q_al) (h3 : Cond.initialized "java/lang/Math" ∈ q_al) (h4 : Cond.code Lib.Math.min.name Lib.Math.min.code 2 (some .int) ∈ q_al)
    (hfr : 1 ≤ R.frames) (hlo : (rest.map fun v => v.category).sum + 13 ≤ R.locals) (hc : cells ≤ R.cells) (hs : slots ≤ R.slots) (hx : q_R x) (hy : q_R y) (hdg : decode cc pc = .ok (.invokestatic index, 3))
    (kk : ∀ z : Int, z ≤ x → z ≤ y → (z = x ∨ z = y) → W p l e R s m args below meth c H locs cells slots Q (F0 m (pc + 3) ls (.int (q_i z) :: rest))) : W p l e R s m args below meth c H locs cells slots Q (F0 m pc ls (.int (q_i y) :: .int (q_i x) :: rest)) := by
  refine va_mmin cx.1 cx.2.1 (cx.2.2.1.trans hls.symm) cx.2.2.2.1 (cx.2.2.2.2 _ h1) (cx.2.2.2.2 _ h2) (cx.2.2.2.2 _ h3) (cx.2.2.2.2 _ h4) hfr hlo hc hs hdg ?_
  by_cases h : q_i y < q_i x
  · rw [if_pos h]
    have := (q_lt hy hx).mp h
    exact kk y (by omega) (by omega) (Or.inr rfl)
  · rw [if_neg h]
    have : ¬ y < x := fun q => h ((q_lt hy hx).mpr q)
    exact kk x (by omega) (by omega) (Or.inl rfl)
theorem q_bast {lo hi i x : Int} {n : Nat} (cx : CallFix p m c cc nL s args q_al own) (hB : q_B g K L A w f0 f s H locs) (ha : a ∈ L) (hk : K a = k) (h20 : ¬ k < 100) (hn : (q_at k).2 = n) (ht0 : (q_at k).1 = 0) (hi0 : 0 ≤ i) (hi1 : i < n) (hnn : n ≤ 2147483647) (he : q_et k i.toNat = (0, lo, hi)) (hr : q_R x) (hx1 : -128 ≤ x) (hx2 : x ≤ 127) (hx3 : lo ≤ x) (hx4 : x ≤ hi) (hw : q_inW w k i.toNat = true) (hdg : decode cc pc = .ok (.bastore, 1))
    (kk : ∀ (H1 : Heap) (locs1 : List Loc) (f1 : Nat → va_E), f1 = q_set f a i.toNat (.int (q_i x)) → q_z f1 a i.toNat = x → q_B g K L A w f0 f1 s H1 locs1 → W p l e R s m args below meth c H1 locs1 cells slots Q (F0 m (pc + 1) ls rest)) : W p l e R s m args below meth c H locs cells slots Q (F0 m pc ls (.int (q_i x) :: .int (q_i i) :: .ref a :: rest)) := by
  obtain ⟨⟨hP, hD, hK, hS⟩, hT, hF⟩ := hB
  obtain ⟨h, h1, h2, h3⟩ := q_ty_arr hT ha hk h20
  rw [ht0] at h2
  obtain ⟨y, rfl⟩ := h2
  have hri : q_R i := ⟨by omega, by omega⟩
  obtain ⟨q0, hq⟩ := q_plget (f := f) ha
  have hq2 := hq
  rw [h1, hn, ht0] at hq2
  refine va_bast cx.1 cx.2.1 hK hP hD hS q0 0 hq2 rfl (q_in hi0 hi1 hnn) hdg (fun H1 locs1 hP1 hD1 hS1 => ?_)
  have hnar : vp_nar .byte (q_i x) = q_i x := by
    rw [vp_nar_byte]
    apply Int32.toInt_inj.mp
    rw [Int8.toInt_toInt32, Int32.toInt_toInt8, q_toInt hr]
    exact Int.bmod_eq_of_le (by omega) (by omega)
  rw [q_nat hri, hnar] at hP1 hD1
  have e : q_set f a i.toNat (.int (q_i x)) = va_up f a (.inl (g.2 0, n, .inl (upd y i.toNat (q_i x)))) := by simp only [q_set, h1, q_setE, hn, ht0]
  rw [q_plset hD ha hq, ← e] at hP1 hD1
  refine kk H1 locs1 _ rfl ?_ ⟨⟨hP1, hD1, hK, hS1⟩, q_ty_seta hT hk h20 (Or.inl ht0) (by rw [he]; exact ⟨_, rfl, by rw [q_toInt hr]; exact hx3, by rw [q_toInt hr]; exact hx4⟩), q_Fr_set hF (by rw [hk]; exact hw)⟩
  rw [e]
  simp only [q_z, q_v, va_up_self, q_vE, upd, if_true, q_iv]
  exact q_toInt hr
end Q5
def q_Pd (P : UInt64 → (Nat → va_E) → Prop) : Option Value → (Nat → va_E) → Prop := fun r f => ∃ x : UInt64, r = some (.double x) ∧ P x f
def q_Pf (P : UInt32 → (Nat → va_E) → Prop) : Option Value → (Nat → va_E) → Prop := fun r f => ∃ x : UInt32, r = some (.float x) ∧ P x f
section Q6
variable {p : Program} {l : Launch} {e : Env} {R : Room} {s : State} {m : MethodId} {args : Array Value} {below : List Frame} {meth : Method} {c : Code} {H : Heap} {locs : List Loc} {cells slots : Nat} {Q : State → Prop}
variable {cc : ByteArray} {pc nL : Nat} {ls : Array Slot} {rest : List Value} {own : String}
variable {g : q_G} {K : Nat → Nat} {L : List Nat} {A : Nat → Prop} {w : q_Ws} {f0 f : Nat → va_E}
theorem q_dret {x : UInt64} (cx : CallFix p m c cc nL s args q_al own) (hr : meth.sig.returnType = some .double) (hl : meth.locks = false) (hB : q_B g K L (fun q => q ∈ L) w f0 f s H locs) (hdg : decode cc pc = .ok (.dreturn, 1)) {P : UInt64 → (Nat → va_E) → Prop} (hp : P x f) :
    W p l e R s m args below meth c H locs cells slots (MQ below (q_Q g K L w f0 (q_Pd P)) args s cells slots (fun q => q ∈ L)) (F0 m pc ls [.double x]) :=
  W.dret cx.1 cx.2.1 hr (q_end hB ⟨x, rfl, hp⟩) hB.1.2.2.2.2.2 hdg hl
theorem q_fret {x : UInt32} (cx : CallFix p m c cc nL s args q_al own) (hr : meth.sig.returnType = some .float) (hl : meth.locks = false) (hB : q_B g K L (fun q => q ∈ L) w f0 f s H locs) (hdg : decode cc pc = .ok (.freturn, 1)) {P : UInt32 → (Nat → va_E) → Prop} (hp : P x f) :
    W p l e R s m args below meth c H locs cells slots (MQ below (q_Q g K L w f0 (q_Pf P)) args s cells slots (fun q => q ∈ L)) (F0 m pc ls [.float x]) :=
  W.fret cx.1 cx.2.1 hr (q_end hB ⟨x, rfl, hp⟩) hB.1.2.2.2.2.2 hdg hl
end Q6
/-! rows that ask for nothing of a kind -/
def q_z3 (t : q_T) : Bool := t.1 == 0 && decide (t.2.1 ≤ 0) && decide (0 ≤ t.2.2)
theorem q_fitz {x : Int} (h0 : 0 ≤ x) (h1 : x ≤ 1) : fits .boolean (.int (q_i x)) = true := by
  rcases (show x = 0 ∨ x = 1 by omega) with h | h <;> subst h <;> rfl
theorem q_isb {a x lo hi : Int} (h : q_is a x) (t : lo ≤ a ∧ a ≤ hi) : lo ≤ x ∧ x ≤ hi := by
  have h1 : a = x := h
  rw [← h1]
  exact t
theorem q_isl {a x lo : Int} (h : q_is a x) (t : lo ≤ x) : lo ≤ a := by
  have h1 : a = x := h
  rw [h1]
  exact t
theorem q_isu {a x hi : Int} (h : q_is a x) (t : x ≤ hi) : a ≤ hi := by
  have h1 : a = x := h
  rw [h1]
  exact t
theorem q_islt {a x lo : Int} (h : q_is a x) (t : lo < x) : lo < a := by
  have h1 : a = x := h
  rw [h1]
  exact t
theorem q_isl9 {a x lo : Int} (h : q_is a x) (t : lo ≤ a) : lo ≤ x := by
  have h1 : a = x := h
  rw [← h1]
  exact t
theorem q_islt9 {a x lo : Int} (h : q_is a x) (t : lo < a) : lo < x := by
  have h1 : a = x := h
  rw [← h1]
  exact t
theorem q_fib {g : q_G} {K : Nat → Nat} {L : List Nat} {f : Nat → va_E} (hT : q_Ty g K L f) {a k j : Nat} {lo hi : Int} (ha : a ∈ L) (hk : K a = k) (hc : k < 100) (hj : (q_ft k)[j]? = some (0, lo, hi)) : lo ≤ q_z f a j ∧ q_z f a j ≤ hi := by
  obtain ⟨_, _, _, _, h1, h2⟩ := q_fi hT ha hk hc hj
  exact ⟨h1, h2⟩
theorem q_kne {K : Nat → Nat} {a b k k2 : Nat} (h : k ≠ k2) (ha : K a = k) (hb : K b = k2) (e : a = b) : False := by
  subst e
  exact h (ha.symm.trans hb)
theorem q_ai {g : q_G} {K : Nat → Nat} {L : List Nat} {f : Nat → va_E} (hT : q_Ty g K L f) {a k i n : Nat} {lo hi : Int} (ha : a ∈ L) (hk : K a = k) (hc : ¬ k < 100) (hn : (q_at k).2 = n) (hi9 : i < n) (he : q_et k i = (0, lo, hi)) : lo ≤ q_z f a i ∧ q_z f a i ≤ hi := by
  obtain ⟨h, h1, h2, h3⟩ := q_ty_arr hT ha hk hc
  have h4 := h3 i (by rw [hn]; exact hi9)
  rw [he] at h4
  obtain ⟨x, h5, h6, h7⟩ := h4
  rw [q_z, h5]
  exact ⟨h6, h7⟩
theorem q_zat {f : Nat → va_E} {a : Nat} {x i j : Int} (h : q_z f a (Int.toNat i) = x) (e : j = i) : x = q_z f a (Int.toNat j) := by rw [e]; exact h.symm
theorem q_tdb {x y : Int} (hx : 0 ≤ x) (hy : 0 < y) : 0 ≤ Int.tdiv x y ∧ y * Int.tdiv x y ≤ x ∧ x < y * Int.tdiv x y + y := by
  have h := Int.mul_tdiv_add_tmod x y
  have h1 := Int.tmod_lt_of_pos x hy
  have h2 := Int.tmod_nonneg y hx
  exact ⟨Int.tdiv_nonneg hx (Int.le_of_lt hy), by omega, by omega⟩
theorem q_tdn {x y : Int} (hx : x ≤ 0) (hy : 0 < y) : x ≤ Int.tdiv x y ∧ Int.tdiv x y ≤ 0 := by
  have h := q_tdb (x := -x) (y := y) (by omega) hy
  rw [Int.neg_tdiv] at h
  have h2 : y * -Int.tdiv x y = -(y * Int.tdiv x y) := Int.mul_neg _ _
  rw [h2] at h
  refine ⟨?_, by omega⟩
  have h3 : y * Int.tdiv x y ≤ Int.tdiv x y := by
    have h4 : (y - 1) * Int.tdiv x y ≤ 0 := Int.mul_nonpos_of_nonneg_of_nonpos (by omega) (by omega)
    rw [Int.sub_mul, Int.one_mul] at h4
    omega
  omega
/-! an iinc that may wrap; a division -/
section Q12
variable {p : Program} {l : Launch} {e : Env} {R : Room} {s : State} {m : MethodId} {args : Array Value} {below : List Frame} {meth : Method} {c : Code} {H : Heap} {locs : List Loc} {cells slots : Nat} {Q : State → Prop}
variable {cc : ByteArray} {pc nL : Nat} {ls : Array Slot} {rest : List Value} {own : String}
theorem q_wrap (x : Int) : ∃ z : Int, q_R z ∧ q_i x = q_i z := ⟨(q_i x).toInt, q_rng _, (q_of _).symm⟩
end Q12
