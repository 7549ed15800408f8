theorem q_h162 : Cond.instantiable RX11 10 ∈ q_al := q_ali 162 (by decide +kernel) (by decide +kernel)
theorem q_h1540 : Cond.instantiable RX12 41 ∈ q_al := q_ali 1540 (by decide +kernel) (by decide +kernel)
theorem q_h2270 : Cond.arrayClass .double ∈ q_al := q_ali 2270 (by decide +kernel) (by decide +kernel)
theorem q_h161 : Cond.classLink RL 8 RX11 ∈ q_al := q_ali 161 (by decide +kernel) (by decide +kernel)
theorem q_h164 : Cond.instanceMethod yX11_init ∈ q_al := q_ali 164 (by decide +kernel) (by decide +kernel)
theorem q_h165 : Cond.code yX11_init cX11_init 1 none ∈ q_al := q_ali 165 (by decide +kernel) (by decide +kernel)
theorem q_h163 : Cond.methodLink RL 114 yX11_init ∈ q_al := q_ali 163 (by decide +kernel) (by decide +kernel)
theorem q_h1539 : Cond.classLink RL 115 RX12 ∈ q_al := q_ali 1539 (by decide +kernel) (by decide +kernel)
theorem q_h1542 : Cond.instanceMethod yX12_init ∈ q_al := q_ali 1542 (by decide +kernel) (by decide +kernel)
theorem q_h1543 : Cond.code yX12_init cX12_init 1 none ∈ q_al := q_ali 1543 (by decide +kernel) (by decide +kernel)
theorem q_h1541 : Cond.methodLink RL 117 yX12_init ∈ q_al := q_ali 1541 (by decide +kernel) (by decide +kernel)
section QR
variable {p : Program} {l : Launch} {e : Env} {R : Room} {s : State} {m : MethodId} {args : Array Value} {below : List Frame} {meth : Method} {c : Code} {H : Heap} {locs : List Loc} {cells slots : Nat} {Q : State → Prop}
variable {cc : ByteArray} {pc nL : Nat} {ls : Array Slot} {rest : List Value} {g : q_G} {K : Nat → Nat} {L : List Nat} {A : Nat → Prop} {w : q_Ws} {f0 f : Nat → va_E} {a : Nat}

end QR
