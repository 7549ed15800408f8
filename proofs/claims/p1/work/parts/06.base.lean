/-! further pure rows; calls by what they answer -/
def q_l (z : Int) : Int64 := Int64.ofInt z
theorem q_lInt {z : Int} (h : q_R z) : (q_l z).toInt = z := Int64.toInt_ofInt_of_le (by omega) (by omega)
theorem q_i2lz {z : Int} (h : q_R z) : (q_i z).toInt64 = q_l z := by
  apply Int64.toInt_inj.mp
  rw [Int32.toInt_toInt64, q_toInt h, q_lInt h]
theorem q_l2iz {z : Int} : (q_l z).toInt32 = q_i z := by
  unfold q_l q_i
  exact Int64.toInt32_ofInt ..
theorem q_and {x : Int32} {m : Int} (k : Nat) (hk : k ≤ 31) (hm : (q_i m).toBitVec.toNat = 2 ^ k - 1) : ∃ z : Int, x &&& q_i m = q_i z ∧ 0 ≤ z ∧ z ≤ (2 ^ k - 1 : Nat) := by
  obtain ⟨j, h1, h2⟩ := pk_andE x k hm
  refine ⟨(j : Int), by rw [h2]; exact Int32.ofInt_eq_ofNat.symm, by omega, by omega⟩
theorem q_divz {x y : Int} (hx : q_R x) (hy : q_R y) : q_i x / q_i y = q_i (x.tdiv y) := (Int32.ofInt_tdiv hx.1 hx.2 hy.1 hy.2).symm
theorem q_tmod {x y : Int} : x - x.tdiv y * y = x.tmod y := by
  have h := Int.mul_tdiv_add_tmod x y
  have h2 : x.tdiv y * y = y * x.tdiv y := Int.mul_comm _ _
  omega
section QP3
variable {p : Program} {l : Launch} {e : Env} {R : Room} {s : State} {m : MethodId} {args : Array Value} {below : List Frame} {meth : Method} {c : Code} {H : Heap} {locs : List Loc} {cells slots : Nat} {Q : State → Prop}
variable {cc : ByteArray} {pc nL : Nat} {ls : Array Slot} {rest : List Value} {own : String}
theorem q_iand (cx : CallFix p m c cc nL s args q_al own) {x y : Int32} (hdg : decode cc pc = .ok (.iand, 1)) (k : ∀ z : Int, q_R z → x &&& y = q_i z → W p l e R s m args below meth c H locs cells slots Q (F0 m (pc + 1) ls (.int (q_i z) :: rest))) : W p l e R s m args below meth c H locs cells slots Q (F0 m pc ls (.int y :: .int x :: rest)) := lv_iand cx.1 cx.2.1 hdg (q_any k)
theorem q_iandm (cx : CallFix p m c cc nL s args q_al own) {x : Int32} {mm : Int} (n : Nat) (hn : n ≤ 31) (hm : (q_i mm).toBitVec.toNat = 2 ^ n - 1) (hdg : decode cc pc = .ok (.iand, 1)) (k : ∀ z : Int, 0 ≤ z → z ≤ (2 ^ n - 1 : Nat) → x &&& q_i mm = q_i z → W p l e R s m args below meth c H locs cells slots Q (F0 m (pc + 1) ls (.int (q_i z) :: rest))) : W p l e R s m args below meth c H locs cells slots Q (F0 m pc ls (.int (q_i mm) :: .int x :: rest)) := by
  obtain ⟨z, h1, h2, h3⟩ := q_and (x := x) n hn hm
  exact lv_iand cx.1 cx.2.1 hdg (by rw [h1]; exact k z h2 h3 h1)
theorem q_ior (cx : CallFix p m c cc nL s args q_al own) {x y : Int32} (hdg : decode cc pc = .ok (.ior, 1)) (k : ∀ z : Int, q_R z → x ||| y = q_i z → W p l e R s m args below meth c H locs cells slots Q (F0 m (pc + 1) ls (.int (q_i z) :: rest))) : W p l e R s m args below meth c H locs cells slots Q (F0 m pc ls (.int y :: .int x :: rest)) := lv_ior cx.1 cx.2.1 hdg (q_any k)
theorem q_ixor (cx : CallFix p m c cc nL s args q_al own) {x y : Int32} (hdg : decode cc pc = .ok (.ixor, 1)) (k : ∀ z : Int, q_R z → x ^^^ y = q_i z → W p l e R s m args below meth c H locs cells slots Q (F0 m (pc + 1) ls (.int (q_i z) :: rest))) : W p l e R s m args below meth c H locs cells slots Q (F0 m pc ls (.int y :: .int x :: rest)) := lv_ixor cx.1 cx.2.1 hdg (q_any k)
theorem q_ishl (cx : CallFix p m c cc nL s args q_al own) {x y : Int32} (hdg : decode cc pc = .ok (.ishl, 1)) (k : ∀ z : Int, q_R z → x <<< (y &&& 31) = q_i z → W p l e R s m args below meth c H locs cells slots Q (F0 m (pc + 1) ls (.int (q_i z) :: rest))) : W p l e R s m args below meth c H locs cells slots Q (F0 m pc ls (.int y :: .int x :: rest)) := lv_ishl cx.1 cx.2.1 hdg (q_any k)
theorem q_ishr (cx : CallFix p m c cc nL s args q_al own) {x y : Int32} (hdg : decode cc pc = .ok (.ishr, 1)) (k : ∀ z : Int, q_R z → x >>> (y &&& 31) = q_i z → W p l e R s m args below meth c H locs cells slots Q (F0 m (pc + 1) ls (.int (q_i z) :: rest))) : W p l e R s m args below meth c H locs cells slots Q (F0 m pc ls (.int y :: .int x :: rest)) := lv_ishr cx.1 cx.2.1 hdg (q_any k)
theorem q_idiv (cx : CallFix p m c cc nL s args q_al own) {x y : Int} (hx : q_R x) (hy : q_R y) (h0 : ¬ y = 0) (hdg : decode cc pc = .ok (.idiv, 1)) (k : W p l e R s m args below meth c H locs cells slots Q (F0 m (pc + 1) ls (.int (q_i (x.tdiv y)) :: rest))) : W p l e R s m args below meth c H locs cells slots Q (F0 m pc ls (.int (q_i y) :: .int (q_i x) :: rest)) :=
  lv_idiv cx.1 cx.2.1 hdg (fun h => h0 ((q_eq hy ⟨by decide, by decide⟩).mp h)) (by rw [q_divz hx hy]; exact k)
theorem q_irem (cx : CallFix p m c cc nL s args q_al own) {x y : Int} (hx : q_R x) (hy : q_R y) (h0 : 0 < y) (hdg : decode cc pc = .ok (.irem, 1)) (k : ∀ z : Int, z = x.tmod y → -y < z → z < y → (0 ≤ x → 0 ≤ z ∧ z ≤ x) → W p l e R s m args below meth c H locs cells slots Q (F0 m (pc + 1) ls (.int (q_i z) :: rest))) : W p l e R s m args below meth c H locs cells slots Q (F0 m pc ls (.int (q_i y) :: .int (q_i x) :: rest)) := by
  refine lv_irem cx.1 cx.2.1 hdg (fun h => (by omega : ¬ y = 0) ((q_eq hy ⟨by decide, by decide⟩).mp h)) ?_
  rw [q_divz hx hy, q_mul, q_sub, q_tmod]
  have h1 := Int.tmod_lt_of_pos x h0
  have h2 := Int.lt_tmod_of_pos x h0
  exact k _ rfl h2 h1 (fun hx0 => ⟨Int.tmod_nonneg _ hx0, by
    have h3 := Int.mul_tdiv_add_tmod x y
    have h4 := Int.mul_nonneg (Int.le_of_lt h0) (Int.tdiv_nonneg hx0 (Int.le_of_lt h0))
    omega⟩)
theorem q_i2l (cx : CallFix p m c cc nL s args q_al own) {x : Int} (hx : q_R x) (hdg : decode cc pc = .ok (.i2l, 1)) (k : W p l e R s m args below meth c H locs cells slots Q (F0 m (pc + 1) ls (.long (q_l x) :: rest))) : W p l e R s m args below meth c H locs cells slots Q (F0 m pc ls (.int (q_i x) :: rest)) := lv_i2l cx.1 cx.2.1 hdg (q_i2lz hx) k
theorem q_lconst (cx : CallFix p m c cc nL s args q_al own) {n : Fin 2} {z : Int} (hz : Int64.ofNat (n : Nat) = q_l z) (hdg : decode cc pc = .ok (.lconst n, 1)) (k : W p l e R s m args below meth c H locs cells slots Q (F0 m (pc + 1) ls (.long (q_l z) :: rest))) : W p l e R s m args below meth c H locs cells slots Q (F0 m pc ls rest) := lv_lconst cx.1 cx.2.1 hdg hz k
theorem q_l2i (cx : CallFix p m c cc nL s args q_al own) {x : Int64} (hdg : decode cc pc = .ok (.l2i, 1)) (k : ∀ z : Int, q_R z → x.toInt32 = q_i z → W p l e R s m args below meth c H locs cells slots Q (F0 m (pc + 1) ls (.int (q_i z) :: rest))) : W p l e R s m args below meth c H locs cells slots Q (F0 m pc ls (.long x :: rest)) := lv_l2i cx.1 cx.2.1 hdg rfl (q_any k)
theorem q_i2b (cx : CallFix p m c cc nL s args q_al own) {x : Int32} (hdg : decode cc pc = .ok (.i2b, 1)) (k : ∀ z : Int, -128 ≤ z → z ≤ 127 → x.toInt8.toInt32 = q_i z → W p l e R s m args below meth c H locs cells slots Q (F0 m (pc + 1) ls (.int (q_i z) :: rest))) : W p l e R s m args below meth c H locs cells slots Q (F0 m pc ls (.int x :: rest)) := by
  have h := k x.toInt8.toInt (by have := x.toInt8.le_toInt; omega) (by have := x.toInt8.toInt_lt; omega) (by unfold q_i; rw [Int32.ofInt_int8ToInt])
  refine lv_i2b cx.1 cx.2.1 hdg (v := q_i x.toInt8.toInt) (by unfold q_i; rw [Int32.ofInt_int8ToInt]) h
theorem q_lcmp (cx : CallFix p m c cc nL s args q_al own) {x y : Int64} (hdg : decode cc pc = .ok (.lcmp, 1)) (k : ∀ z : Int, -1 ≤ z → z ≤ 1 → (z = -1 ↔ x.toInt < y.toInt) → (z = 0 ↔ x = y) → (z = 1 ↔ y.toInt < x.toInt) → W p l e R s m args below meth c H locs cells slots Q (F0 m (pc + 1) ls (.int (q_i z) :: rest))) : W p l e R s m args below meth c H locs cells slots Q (F0 m pc ls (.long y :: .long x :: rest)) := by
  refine W.lcmp cx.1 cx.2.1 hdg ?_
  by_cases h1 : y < x
  · have e : lg_cmp x y = q_i 1 := by simp only [lg_cmp, h1, if_true]; rfl
    have h2 := Int64.lt_iff_toInt_lt.mp h1
    rw [e]
    exact k 1 (by omega) (by omega) ⟨fun h => by omega, fun h => by omega⟩ ⟨fun h => by omega, fun h => by rw [h] at h2; omega⟩ ⟨fun _ => h2, fun _ => rfl⟩
  · have h2 : x.toInt ≤ y.toInt := Int.not_lt.mp (fun h => h1 (Int64.lt_iff_toInt_lt.mpr h))
    by_cases h3 : x = y
    · have e : lg_cmp x y = q_i 0 := by simp only [lg_cmp, h1, if_false, h3]; first | rfl | simp [q_i]
      rw [e]
      exact k 0 (by omega) (by omega) ⟨fun h => by omega, fun h => by rw [h3] at h; omega⟩ ⟨fun _ => h3, fun _ => rfl⟩ ⟨fun h => by omega, fun h => by omega⟩
    · have e : lg_cmp x y = q_i (-1) := by simp only [lg_cmp, h1, if_false, h3]; first | rfl | simp [q_i]
      have h4 : ¬ x.toInt = y.toInt := fun h => h3 (Int64.toInt_inj.mp h)
      rw [e]
      exact k (-1) (by omega) (by omega) ⟨fun _ => by omega, fun _ => rfl⟩ ⟨fun h => by omega, fun h => absurd h h3⟩ ⟨fun h => by omega, fun h => by omega⟩
end QP3
section QC3
variable {p : Program} {l : Launch} {e : Env} {R : Room} {s : State} {m : MethodId} {args : Array Value} {below : List Frame} {meth : Method} {c : Code} {H : Heap} {locs : List Loc} {cells slots : Nat} {Q : State → Prop}
variable {cc : ByteArray} {pc nL : Nat} {ls : Array Slot} {rest : List Value} {own : String}
variable {g : q_G} {K : Nat → Nat} {L : List Nat} {A : Nat → Prop} {w : q_Ws} {f0 f : Nat → va_E}
variable {y : MethodName} {bytes : ByteArray} {maxL fr lo n index : Nat} {ret : Option FieldType} {C : String} {b k : Nat} {T : u_T} {N : Nat} {As st0 : List Value} {w' : q_Ws}
theorem q_cVi {P : Int → (Nat → va_E) → Prop}
    (cx : CallFix p m c cc nL s args q_al own) (hB : q_B g K L A w f0 f s H locs) (hLA : ∀ q, q ∈ L → A q) (hN : L.Nodup) (hb : b ∈ L) (hk : K b = k) (h20 : k < 20) (hcl : vwCl[k]? = some (C, T, N))
    (hM : q_Ct l g K L y bytes maxL ret fr lo (.ref b :: As) f w' (q_Pi P)) (hwd : ∀ w ∈ wsV own index C y (.code y bytes maxL ret :: q_al), w ∈ q_al)
    (hd : y.cls = C ∧ y.cls ≠ "java/lang/invoke/MethodHandle" ∧ y.cls ≠ "java/lang/invoke/VarHandle" ∧ (parseMethodDescriptor y.desc).map (fun d => d.parameters.length) = some n)
    (hR : (fr + 1 ≤ R.frames ∧ 8 + (maxL + 11) + lo ≤ R.locals) ∧ cells ≤ R.cells ∧ slots ≤ R.slots) (hsub : q_wsub w' w = true) (hn : As.length = n) (hls : ls.size = nL) (hst : st0 = As.reverse ++ .ref b :: rest) (hcat : (rest.map fun v => v.category).sum ≤ 8) (hdg : decode cc pc = .ok (.invokevirtual index, 3))
    (kk : ∀ (z : Int) (H1 : Heap) (locs1 : List Loc) (f1 : Nat → va_E), q_R z → P z f1 → q_Fr w' K L f f1 → q_B g K L A w f0 f1 s H1 locs1 → W p l e R s m args below meth c H1 locs1 cells slots Q (F0 m (pc + 3) ls (.int (q_i z) :: rest))) : W p l e R s m args below meth c H locs cells slots Q (F0 m pc ls st0) :=
  q_callV cx hB hLA hN hb hk h20 hcl hM hwd hd hR hsub hn hls hst hcat hdg (fun v H1 locs1 f1 hp hF hB1 => by obtain ⟨z, rfl, hz, hp⟩ := hp; exact kk z H1 locs1 f1 hz hp hF hB1)
theorem q_cSi {P : Int → (Nat → va_E) → Prop}
    (cx : CallFix p m c cc nL s args q_al own) (hB : q_B g K L A w f0 f s H locs) (hLA : ∀ q, q ∈ L → A q) (hN : L.Nodup)
    (hM : q_Ct l g K L y bytes maxL ret fr lo As f w' (q_Pi P)) (hwd : ∀ w ∈ va_wsS own index y (.code y bytes maxL ret :: q_al), w ∈ q_al)
    (hd : y.cls ≠ "java/lang/invoke/MethodHandle" ∧ y.cls ≠ "java/lang/invoke/VarHandle" ∧ (parseMethodDescriptor y.desc).map (fun d => d.parameters.length) = some n)
    (hR : (fr + 1 ≤ R.frames ∧ 8 + (maxL + 11) + lo ≤ R.locals) ∧ cells ≤ R.cells ∧ slots ≤ R.slots) (hsub : q_wsub w' w = true) (hn : As.length = n) (hls : ls.size = nL) (hst : st0 = As.reverse ++ rest) (hcat : (rest.map fun v => v.category).sum ≤ 8) (hdg : decode cc pc = .ok (.invokestatic index, 3))
    (kk : ∀ (z : Int) (H1 : Heap) (locs1 : List Loc) (f1 : Nat → va_E), q_R z → P z f1 → q_Fr w' K L f f1 → q_B g K L A w f0 f1 s H1 locs1 → W p l e R s m args below meth c H1 locs1 cells slots Q (F0 m (pc + 3) ls (.int (q_i z) :: rest))) : W p l e R s m args below meth c H locs cells slots Q (F0 m pc ls st0) :=
  q_callS cx hB hLA hN hM hwd hd hR hsub hn hls hst hcat hdg (fun v H1 locs1 f1 hp hF hB1 => by obtain ⟨z, rfl, hz, hp⟩ := hp; exact kk z H1 locs1 f1 hz hp hF hB1)
theorem q_cVv {P : (Nat → va_E) → Prop}
    (cx : CallFix p m c cc nL s args q_al own) (hB : q_B g K L A w f0 f s H locs) (hLA : ∀ q, q ∈ L → A q) (hN : L.Nodup) (hb : b ∈ L) (hk : K b = k) (h20 : k < 20) (hcl : vwCl[k]? = some (C, T, N))
    (hM : q_Ct l g K L y bytes maxL ret fr lo (.ref b :: As) f w' (q_Pv P)) (hwd : ∀ w ∈ wsV own index C y (.code y bytes maxL ret :: q_al), w ∈ q_al)
    (hd : y.cls = C ∧ y.cls ≠ "java/lang/invoke/MethodHandle" ∧ y.cls ≠ "java/lang/invoke/VarHandle" ∧ (parseMethodDescriptor y.desc).map (fun d => d.parameters.length) = some n)
    (hR : (fr + 1 ≤ R.frames ∧ 8 + (maxL + 11) + lo ≤ R.locals) ∧ cells ≤ R.cells ∧ slots ≤ R.slots) (hsub : q_wsub w' w = true) (hn : As.length = n) (hls : ls.size = nL) (hst : st0 = As.reverse ++ .ref b :: rest) (hcat : (rest.map fun v => v.category).sum ≤ 8) (hdg : decode cc pc = .ok (.invokevirtual index, 3))
    (kk : ∀ (H1 : Heap) (locs1 : List Loc) (f1 : Nat → va_E), P f1 → q_Fr w' K L f f1 → q_B g K L A w f0 f1 s H1 locs1 → W p l e R s m args below meth c H1 locs1 cells slots Q (F0 m (pc + 3) ls (rest))) : W p l e R s m args below meth c H locs cells slots Q (F0 m pc ls st0) :=
  q_callV cx hB hLA hN hb hk h20 hcl hM hwd hd hR hsub hn hls hst hcat hdg (fun v H1 locs1 f1 hp hF hB1 => by obtain ⟨rfl, hp⟩ := hp; exact kk H1 locs1 f1 hp hF hB1)
theorem q_cSv {P : (Nat → va_E) → Prop}
    (cx : CallFix p m c cc nL s args q_al own) (hB : q_B g K L A w f0 f s H locs) (hLA : ∀ q, q ∈ L → A q) (hN : L.Nodup)
    (hM : q_Ct l g K L y bytes maxL ret fr lo As f w' (q_Pv P)) (hwd : ∀ w ∈ va_wsS own index y (.code y bytes maxL ret :: q_al), w ∈ q_al)
    (hd : y.cls ≠ "java/lang/invoke/MethodHandle" ∧ y.cls ≠ "java/lang/invoke/VarHandle" ∧ (parseMethodDescriptor y.desc).map (fun d => d.parameters.length) = some n)
    (hR : (fr + 1 ≤ R.frames ∧ 8 + (maxL + 11) + lo ≤ R.locals) ∧ cells ≤ R.cells ∧ slots ≤ R.slots) (hsub : q_wsub w' w = true) (hn : As.length = n) (hls : ls.size = nL) (hst : st0 = As.reverse ++ rest) (hcat : (rest.map fun v => v.category).sum ≤ 8) (hdg : decode cc pc = .ok (.invokestatic index, 3))
    (kk : ∀ (H1 : Heap) (locs1 : List Loc) (f1 : Nat → va_E), P f1 → q_Fr w' K L f f1 → q_B g K L A w f0 f1 s H1 locs1 → W p l e R s m args below meth c H1 locs1 cells slots Q (F0 m (pc + 3) ls (rest))) : W p l e R s m args below meth c H locs cells slots Q (F0 m pc ls st0) :=
  q_callS cx hB hLA hN hM hwd hd hR hsub hn hls hst hcat hdg (fun v H1 locs1 f1 hp hF hB1 => by obtain ⟨rfl, hp⟩ := hp; exact kk H1 locs1 f1 hp hF hB1)
theorem q_cVr {P : Nat → (Nat → va_E) → Prop}
    (cx : CallFix p m c cc nL s args q_al own) (hB : q_B g K L A w f0 f s H locs) (hLA : ∀ q, q ∈ L → A q) (hN : L.Nodup) (hb : b ∈ L) (hk : K b = k) (h20 : k < 20) (hcl : vwCl[k]? = some (C, T, N))
    (hM : q_Ct l g K L y bytes maxL ret fr lo (.ref b :: As) f w' (q_Pr P)) (hwd : ∀ w ∈ wsV own index C y (.code y bytes maxL ret :: q_al), w ∈ q_al)
    (hd : y.cls = C ∧ y.cls ≠ "java/lang/invoke/MethodHandle" ∧ y.cls ≠ "java/lang/invoke/VarHandle" ∧ (parseMethodDescriptor y.desc).map (fun d => d.parameters.length) = some n)
    (hR : (fr + 1 ≤ R.frames ∧ 8 + (maxL + 11) + lo ≤ R.locals) ∧ cells ≤ R.cells ∧ slots ≤ R.slots) (hsub : q_wsub w' w = true) (hn : As.length = n) (hls : ls.size = nL) (hst : st0 = As.reverse ++ .ref b :: rest) (hcat : (rest.map fun v => v.category).sum ≤ 8) (hdg : decode cc pc = .ok (.invokevirtual index, 3))
    (kk : ∀ (z : Nat) (H1 : Heap) (locs1 : List Loc) (f1 : Nat → va_E), P z f1 → q_Fr w' K L f f1 → q_B g K L A w f0 f1 s H1 locs1 → W p l e R s m args below meth c H1 locs1 cells slots Q (F0 m (pc + 3) ls (.ref z :: rest))) : W p l e R s m args below meth c H locs cells slots Q (F0 m pc ls st0) :=
  q_callV cx hB hLA hN hb hk h20 hcl hM hwd hd hR hsub hn hls hst hcat hdg (fun v H1 locs1 f1 hp hF hB1 => by obtain ⟨z, rfl, hp⟩ := hp; exact kk z H1 locs1 f1 hp hF hB1)
theorem q_cSr {P : Nat → (Nat → va_E) → Prop}
    (cx : CallFix p m c cc nL s args q_al own) (hB : q_B g K L A w f0 f s H locs) (hLA : ∀ q, q ∈ L → A q) (hN : L.Nodup)
    (hM : q_Ct l g K L y bytes maxL ret fr lo As f w' (q_Pr P)) (hwd : ∀ w ∈ va_wsS own index y (.code y bytes maxL ret :: q_al), w ∈ q_al)
    (hd : y.cls ≠ "java/lang/invoke/MethodHandle" ∧ y.cls ≠ "java/lang/invoke/VarHandle" ∧ (parseMethodDescriptor y.desc).map (fun d => d.parameters.length) = some n)
    (hR : (fr + 1 ≤ R.frames ∧ 8 + (maxL + 11) + lo ≤ R.locals) ∧ cells ≤ R.cells ∧ slots ≤ R.slots) (hsub : q_wsub w' w = true) (hn : As.length = n) (hls : ls.size = nL) (hst : st0 = As.reverse ++ rest) (hcat : (rest.map fun v => v.category).sum ≤ 8) (hdg : decode cc pc = .ok (.invokestatic index, 3))
    (kk : ∀ (z : Nat) (H1 : Heap) (locs1 : List Loc) (f1 : Nat → va_E), P z f1 → q_Fr w' K L f f1 → q_B g K L A w f0 f1 s H1 locs1 → W p l e R s m args below meth c H1 locs1 cells slots Q (F0 m (pc + 3) ls (.ref z :: rest))) : W p l e R s m args below meth c H locs cells slots Q (F0 m pc ls st0) :=
  q_callS cx hB hLA hN hM hwd hd hR hsub hn hls hst hcat hdg (fun v H1 locs1 f1 hp hF hB1 => by obtain ⟨z, rfl, hp⟩ := hp; exact kk z H1 locs1 f1 hp hF hB1)
theorem q_cVl {P : Int64 → (Nat → va_E) → Prop}
    (cx : CallFix p m c cc nL s args q_al own) (hB : q_B g K L A w f0 f s H locs) (hLA : ∀ q, q ∈ L → A q) (hN : L.Nodup) (hb : b ∈ L) (hk : K b = k) (h20 : k < 20) (hcl : vwCl[k]? = some (C, T, N))
    (hM : q_Ct l g K L y bytes maxL ret fr lo (.ref b :: As) f w' (q_Pl P)) (hwd : ∀ w ∈ wsV own index C y (.code y bytes maxL ret :: q_al), w ∈ q_al)
    (hd : y.cls = C ∧ y.cls ≠ "java/lang/invoke/MethodHandle" ∧ y.cls ≠ "java/lang/invoke/VarHandle" ∧ (parseMethodDescriptor y.desc).map (fun d => d.parameters.length) = some n)
    (hR : (fr + 1 ≤ R.frames ∧ 8 + (maxL + 11) + lo ≤ R.locals) ∧ cells ≤ R.cells ∧ slots ≤ R.slots) (hsub : q_wsub w' w = true) (hn : As.length = n) (hls : ls.size = nL) (hst : st0 = As.reverse ++ .ref b :: rest) (hcat : (rest.map fun v => v.category).sum ≤ 8) (hdg : decode cc pc = .ok (.invokevirtual index, 3))
    (kk : ∀ (z : Int64) (H1 : Heap) (locs1 : List Loc) (f1 : Nat → va_E), P z f1 → q_Fr w' K L f f1 → q_B g K L A w f0 f1 s H1 locs1 → W p l e R s m args below meth c H1 locs1 cells slots Q (F0 m (pc + 3) ls (.long z :: rest))) : W p l e R s m args below meth c H locs cells slots Q (F0 m pc ls st0) :=
  q_callV cx hB hLA hN hb hk h20 hcl hM hwd hd hR hsub hn hls hst hcat hdg (fun v H1 locs1 f1 hp hF hB1 => by obtain ⟨z, rfl, hp⟩ := hp; exact kk z H1 locs1 f1 hp hF hB1)
theorem q_cSl {P : Int64 → (Nat → va_E) → Prop}
    (cx : CallFix p m c cc nL s args q_al own) (hB : q_B g K L A w f0 f s H locs) (hLA : ∀ q, q ∈ L → A q) (hN : L.Nodup)
    (hM : q_Ct l g K L y bytes maxL ret fr lo As f w' (q_Pl P)) (hwd : ∀ w ∈ va_wsS own index y (.code y bytes maxL ret :: q_al), w ∈ q_al)
    (hd : y.cls ≠ "java/lang/invoke/MethodHandle" ∧ y.cls ≠ "java/lang/invoke/VarHandle" ∧ (parseMethodDescriptor y.desc).map (fun d => d.parameters.length) = some n)
    (hR : (fr + 1 ≤ R.frames ∧ 8 + (maxL + 11) + lo ≤ R.locals) ∧ cells ≤ R.cells ∧ slots ≤ R.slots) (hsub : q_wsub w' w = true) (hn : As.length = n) (hls : ls.size = nL) (hst : st0 = As.reverse ++ rest) (hcat : (rest.map fun v => v.category).sum ≤ 8) (hdg : decode cc pc = .ok (.invokestatic index, 3))
    (kk : ∀ (z : Int64) (H1 : Heap) (locs1 : List Loc) (f1 : Nat → va_E), P z f1 → q_Fr w' K L f f1 → q_B g K L A w f0 f1 s H1 locs1 → W p l e R s m args below meth c H1 locs1 cells slots Q (F0 m (pc + 3) ls (.long z :: rest))) : W p l e R s m args below meth c H locs cells slots Q (F0 m pc ls st0) :=
  q_callS cx hB hLA hN hM hwd hd hR hsub hn hls hst hcat hdg (fun v H1 locs1 f1 hp hF hB1 => by obtain ⟨z, rfl, hp⟩ := hp; exact kk z H1 locs1 f1 hp hF hB1)
end QC3
