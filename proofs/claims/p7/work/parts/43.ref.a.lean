theorem q_h1847 : Cond.methodLink RX12 256 yX12_ofNode ∈ q_al := q_ali 1847 (by decide +kernel) (by decide +kernel)
theorem q_h1850 : Cond.code yX12_ofNode cX12_ofNode 3 (some .int) ∈ q_al := q_ali 1850 (by decide +kernel) (by decide +kernel)
theorem q_h1849 : Cond.instanceMethod yX12_ofNode ∈ q_al := q_ali 1849 (by decide +kernel) (by decide +kernel)
theorem q_h69 : Cond.selects RX12 yX12_ofNode yX12_ofNode ∈ q_al := q_ali 69 (by decide +kernel) (by decide +kernel)
theorem q_h1892 : Cond.methodLink RX12 259 yX12_dayIn ∈ q_al := q_ali 1892 (by decide +kernel) (by decide +kernel)
theorem q_h1895 : Cond.code yX12_dayIn cX12_dayIn 3 (some .int) ∈ q_al := q_ali 1895 (by decide +kernel) (by decide +kernel)
theorem q_h1894 : Cond.instanceMethod yX12_dayIn ∈ q_al := q_ali 1894 (by decide +kernel) (by decide +kernel)
theorem q_h78 : Cond.selects RX12 yX12_dayIn yX12_dayIn ∈ q_al := q_ali 78 (by decide +kernel) (by decide +kernel)
theorem q_h1908 : Cond.methodLink RX12 262 yX12_isWatched ∈ q_al := q_ali 1908 (by decide +kernel) (by decide +kernel)
theorem q_h1911 : Cond.code yX12_isWatched cX12_isWatched 3 (some .boolean) ∈ q_al := q_ali 1911 (by decide +kernel) (by decide +kernel)
theorem q_h1910 : Cond.instanceMethod yX12_isWatched ∈ q_al := q_ali 1910 (by decide +kernel) (by decide +kernel)
theorem q_h82 : Cond.selects RX12 yX12_isWatched yX12_isWatched ∈ q_al := q_ali 82 (by decide +kernel) (by decide +kernel)
theorem q_h1912 : Cond.methodLink RX12 265 yX12_neighbours ∈ q_al := q_ali 1912 (by decide +kernel) (by decide +kernel)
theorem q_h1915 : Cond.code yX12_neighbours cX12_neighbours 4 (some .int) ∈ q_al := q_ali 1915 (by decide +kernel) (by decide +kernel)
theorem q_h1914 : Cond.instanceMethod yX12_neighbours ∈ q_al := q_ali 1914 (by decide +kernel) (by decide +kernel)
theorem q_h83 : Cond.selects RX12 yX12_neighbours yX12_neighbours ∈ q_al := q_ali 83 (by decide +kernel) (by decide +kernel)
theorem q_h1904 : Cond.methodLink RX12 268 yX12_isIts ∈ q_al := q_ali 1904 (by decide +kernel) (by decide +kernel)
theorem q_h1907 : Cond.code yX12_isIts cX12_isIts 6 (some .boolean) ∈ q_al := q_ali 1907 (by decide +kernel) (by decide +kernel)
theorem q_h1906 : Cond.instanceMethod yX12_isIts ∈ q_al := q_ali 1906 (by decide +kernel) (by decide +kernel)
theorem q_h81 : Cond.selects RX12 yX12_isIts yX12_isIts ∈ q_al := q_ali 81 (by decide +kernel) (by decide +kernel)
theorem q_h1872 : Cond.methodLink RX12 271 yX12_isOut ∈ q_al := q_ali 1872 (by decide +kernel) (by decide +kernel)
theorem q_h1875 : Cond.code yX12_isOut cX12_isOut 2 (some .boolean) ∈ q_al := q_ali 1875 (by decide +kernel) (by decide +kernel)
theorem q_h1874 : Cond.instanceMethod yX12_isOut ∈ q_al := q_ali 1874 (by decide +kernel) (by decide +kernel)
theorem q_h74 : Cond.selects RX12 yX12_isOut yX12_isOut ∈ q_al := q_ali 74 (by decide +kernel) (by decide +kernel)
theorem q_h1900 : Cond.methodLink RX12 274 yX12_isAwakeIn ∈ q_al := q_ali 1900 (by decide +kernel) (by decide +kernel)
theorem q_h1903 : Cond.code yX12_isAwakeIn cX12_isAwakeIn 3 (some .boolean) ∈ q_al := q_ali 1903 (by decide +kernel) (by decide +kernel)
theorem q_h1902 : Cond.instanceMethod yX12_isAwakeIn ∈ q_al := q_ali 1902 (by decide +kernel) (by decide +kernel)
theorem q_h80 : Cond.selects RX12 yX12_isAwakeIn yX12_isAwakeIn ∈ q_al := q_ali 80 (by decide +kernel) (by decide +kernel)
theorem q_h1573 : Cond.fieldLink RX12 45 (TX12 24).1 (TX12 24).2.1 (TX12 24).2.2.1 ∈ q_al := q_ali 1573 (by decide +kernel) (by decide +kernel)
theorem q_h2013 : Cond.methodLink RX12 277 yX12_lowersHops ∈ q_al := q_ali 2013 (by decide +kernel) (by decide +kernel)
theorem q_h2016 : Cond.code yX12_lowersHops cX12_lowersHops 5 (some .boolean) ∈ q_al := q_ali 2016 (by decide +kernel) (by decide +kernel)
theorem q_h2015 : Cond.instanceMethod yX12_lowersHops ∈ q_al := q_ali 2015 (by decide +kernel) (by decide +kernel)
theorem q_h94 : Cond.selects RX12 yX12_lowersHops yX12_lowersHops ∈ q_al := q_ali 94 (by decide +kernel) (by decide +kernel)
theorem q_h2009 : Cond.methodLink RX12 280 yX12_laysHops ∈ q_al := q_ali 2009 (by decide +kernel) (by decide +kernel)
theorem q_h2012 : Cond.code yX12_laysHops cX12_laysHops 3 none ∈ q_al := q_ali 2012 (by decide +kernel) (by decide +kernel)
theorem q_h2011 : Cond.instanceMethod yX12_laysHops ∈ q_al := q_ali 2011 (by decide +kernel) (by decide +kernel)
theorem q_h93 : Cond.selects RX12 yX12_laysHops yX12_laysHops ∈ q_al := q_ali 93 (by decide +kernel) (by decide +kernel)
theorem q_h1575 : Cond.fieldLink RX12 283 (TX12 26).1 (TX12 26).2.1 (TX12 26).2.2.1 ∈ q_al := q_ali 1575 (by decide +kernel) (by decide +kernel)
theorem q_h1974 : Cond.methodLink RX12 286 yX12_awakeSet ∈ q_al := q_ali 1974 (by decide +kernel) (by decide +kernel)
theorem q_h1977 : Cond.code yX12_awakeSet cX12_awakeSet 4 (some .int) ∈ q_al := q_ali 1977 (by decide +kernel) (by decide +kernel)
theorem q_h1976 : Cond.instanceMethod yX12_awakeSet ∈ q_al := q_ali 1976 (by decide +kernel) (by decide +kernel)
theorem q_h89 : Cond.selects RX12 yX12_awakeSet yX12_awakeSet ∈ q_al := q_ali 89 (by decide +kernel) (by decide +kernel)
theorem q_h1574 : Cond.fieldLink RX12 48 (TX12 25).1 (TX12 25).2.1 (TX12 25).2.2.1 ∈ q_al := q_ali 1574 (by decide +kernel) (by decide +kernel)
theorem q_h1888 : Cond.methodLink RX12 289 yX12_dayOf ∈ q_al := q_ali 1888 (by decide +kernel) (by decide +kernel)
theorem q_h1891 : Cond.code yX12_dayOf cX12_dayOf 2 (some .int) ∈ q_al := q_ali 1891 (by decide +kernel) (by decide +kernel)
theorem q_h1890 : Cond.instanceMethod yX12_dayOf ∈ q_al := q_ali 1890 (by decide +kernel) (by decide +kernel)
theorem q_h77 : Cond.selects RX12 yX12_dayOf yX12_dayOf ∈ q_al := q_ali 77 (by decide +kernel) (by decide +kernel)
theorem q_h2052 : Cond.methodLink RX12 292 yX12_lesser ∈ q_al := q_ali 2052 (by decide +kernel) (by decide +kernel)
theorem q_h2054 : Cond.code yX12_lesser cX12_lesser 2 (some .int) ∈ q_al := q_ali 2054 (by decide +kernel) (by decide +kernel)
theorem q_h2053 : Cond.static yX12_lesser ∈ q_al := q_ali 2053 (by decide +kernel) (by decide +kernel)
theorem q_h2055 : Cond.methodLink RX12 295 yX12_uses ∈ q_al := q_ali 2055 (by decide +kernel) (by decide +kernel)
theorem q_h2058 : Cond.code yX12_uses cX12_uses 3 none ∈ q_al := q_ali 2058 (by decide +kernel) (by decide +kernel)
theorem q_h2057 : Cond.instanceMethod yX12_uses ∈ q_al := q_ali 2057 (by decide +kernel) (by decide +kernel)
theorem q_h100 : Cond.selects RX12 yX12_uses yX12_uses ∈ q_al := q_ali 100 (by decide +kernel) (by decide +kernel)
theorem q_h2029 : Cond.methodLink RX12 299 yX12_greater ∈ q_al := q_ali 2029 (by decide +kernel) (by decide +kernel)
theorem q_h2031 : Cond.code yX12_greater cX12_greater 2 (some .int) ∈ q_al := q_ali 2031 (by decide +kernel) (by decide +kernel)
theorem q_h2030 : Cond.static yX12_greater ∈ q_al := q_ali 2030 (by decide +kernel) (by decide +kernel)
theorem q_h2067 : Cond.methodLink RX12 305 yX12_misses ∈ q_al := q_ali 2067 (by decide +kernel) (by decide +kernel)
theorem q_h2070 : Cond.code yX12_misses cX12_misses 4 none ∈ q_al := q_ali 2070 (by decide +kernel) (by decide +kernel)
theorem q_h2069 : Cond.instanceMethod yX12_misses ∈ q_al := q_ali 2069 (by decide +kernel) (by decide +kernel)
theorem q_h103 : Cond.selects RX12 yX12_misses yX12_misses ∈ q_al := q_ali 103 (by decide +kernel) (by decide +kernel)
theorem q_h2063 : Cond.methodLink RX12 302 yX12_meets ∈ q_al := q_ali 2063 (by decide +kernel) (by decide +kernel)
theorem q_h2066 : Cond.code yX12_meets cX12_meets 2 none ∈ q_al := q_ali 2066 (by decide +kernel) (by decide +kernel)
theorem q_h2065 : Cond.instanceMethod yX12_meets ∈ q_al := q_ali 2065 (by decide +kernel) (by decide +kernel)
theorem q_h102 : Cond.selects RX12 yX12_meets yX12_meets ∈ q_al := q_ali 102 (by decide +kernel) (by decide +kernel)
theorem q_h1860 : Cond.methodLink RX12 308 yX12_ofMessage ∈ q_al := q_ali 1860 (by decide +kernel) (by decide +kernel)
theorem q_h1863 : Cond.code yX12_ofMessage cX12_ofMessage 3 (some .int) ∈ q_al := q_ali 1863 (by decide +kernel) (by decide +kernel)
theorem q_h1862 : Cond.instanceMethod yX12_ofMessage ∈ q_al := q_ali 1862 (by decide +kernel) (by decide +kernel)
theorem q_h71 : Cond.selects RX12 yX12_ofMessage yX12_ofMessage ∈ q_al := q_ali 71 (by decide +kernel) (by decide +kernel)
theorem q_h2021 : Cond.methodLink RX12 311 yX12_nextOf ∈ q_al := q_ali 2021 (by decide +kernel) (by decide +kernel)
theorem q_h2024 : Cond.code yX12_nextOf cX12_nextOf 6 (some .int) ∈ q_al := q_ali 2024 (by decide +kernel) (by decide +kernel)
theorem q_h2023 : Cond.instanceMethod yX12_nextOf ∈ q_al := q_ali 2023 (by decide +kernel) (by decide +kernel)
theorem q_h95 : Cond.selects RX12 yX12_nextOf yX12_nextOf ∈ q_al := q_ali 95 (by decide +kernel) (by decide +kernel)
theorem q_h1576 : Cond.fieldLink RX12 314 (TX12 27).1 (TX12 27).2.1 (TX12 27).2.2.1 ∈ q_al := q_ali 1576 (by decide +kernel) (by decide +kernel)
theorem q_h1577 : Cond.fieldLink RX12 317 (TX12 28).1 (TX12 28).2.1 (TX12 28).2.2.1 ∈ q_al := q_ali 1577 (by decide +kernel) (by decide +kernel)
theorem q_h2079 : Cond.methodLink RX12 320 yX12_setsMessage ∈ q_al := q_ali 2079 (by decide +kernel) (by decide +kernel)
theorem q_h2082 : Cond.code yX12_setsMessage cX12_setsMessage 4 none ∈ q_al := q_ali 2082 (by decide +kernel) (by decide +kernel)
theorem q_h2081 : Cond.instanceMethod yX12_setsMessage ∈ q_al := q_ali 2081 (by decide +kernel) (by decide +kernel)
theorem q_h106 : Cond.selects RX12 yX12_setsMessage yX12_setsMessage ∈ q_al := q_ali 106 (by decide +kernel) (by decide +kernel)
theorem q_h2075 : Cond.methodLink RX12 323 yX12_passes ∈ q_al := q_ali 2075 (by decide +kernel) (by decide +kernel)
theorem q_h2078 : Cond.code yX12_passes cX12_passes 7 (some .boolean) ∈ q_al := q_ali 2078 (by decide +kernel) (by decide +kernel)
theorem q_h2077 : Cond.instanceMethod yX12_passes ∈ q_al := q_ali 2077 (by decide +kernel) (by decide +kernel)
theorem q_h105 : Cond.selects RX12 yX12_passes yX12_passes ∈ q_al := q_ali 105 (by decide +kernel) (by decide +kernel)
theorem q_h2048 : Cond.methodLink RX12 326 yX12_wakes ∈ q_al := q_ali 2048 (by decide +kernel) (by decide +kernel)
theorem q_h2051 : Cond.code yX12_wakes cX12_wakes 3 none ∈ q_al := q_ali 2051 (by decide +kernel) (by decide +kernel)
theorem q_h2050 : Cond.instanceMethod yX12_wakes ∈ q_al := q_ali 2050 (by decide +kernel) (by decide +kernel)
theorem q_h99 : Cond.selects RX12 yX12_wakes yX12_wakes ∈ q_al := q_ali 99 (by decide +kernel) (by decide +kernel)
theorem q_h2071 : Cond.methodLink RX12 332 yX12_passesAll ∈ q_al := q_ali 2071 (by decide +kernel) (by decide +kernel)
theorem q_h2074 : Cond.code yX12_passesAll cX12_passesAll 4 (some .int) ∈ q_al := q_ali 2074 (by decide +kernel) (by decide +kernel)
theorem q_h2073 : Cond.instanceMethod yX12_passesAll ∈ q_al := q_ali 2073 (by decide +kernel) (by decide +kernel)
theorem q_h104 : Cond.selects RX12 yX12_passesAll yX12_passesAll ∈ q_al := q_ali 104 (by decide +kernel) (by decide +kernel)
theorem q_h2083 : Cond.methodLink RX12 335 yX12_loses ∈ q_al := q_ali 2083 (by decide +kernel) (by decide +kernel)
theorem q_h2086 : Cond.code yX12_loses cX12_loses 2 none ∈ q_al := q_ali 2086 (by decide +kernel) (by decide +kernel)
theorem q_h2085 : Cond.instanceMethod yX12_loses ∈ q_al := q_ali 2085 (by decide +kernel) (by decide +kernel)
theorem q_h107 : Cond.selects RX12 yX12_loses yX12_loses ∈ q_al := q_ali 107 (by decide +kernel) (by decide +kernel)
theorem q_h2059 : Cond.methodLink RX12 329 yX12_looksAt ∈ q_al := q_ali 2059 (by decide +kernel) (by decide +kernel)
theorem q_h2062 : Cond.code yX12_looksAt cX12_looksAt 7 none ∈ q_al := q_ali 2062 (by decide +kernel) (by decide +kernel)
theorem q_h2061 : Cond.instanceMethod yX12_looksAt ∈ q_al := q_ali 2061 (by decide +kernel) (by decide +kernel)
theorem q_h101 : Cond.selects RX12 yX12_looksAt yX12_looksAt ∈ q_al := q_ali 101 (by decide +kernel) (by decide +kernel)
theorem q_h2044 : Cond.methodLink RX12 338 yX12_ticksOnce ∈ q_al := q_ali 2044 (by decide +kernel) (by decide +kernel)
theorem q_h2047 : Cond.code yX12_ticksOnce cX12_ticksOnce 2 (some .int) ∈ q_al := q_ali 2047 (by decide +kernel) (by decide +kernel)
theorem q_h2046 : Cond.instanceMethod yX12_ticksOnce ∈ q_al := q_ali 2046 (by decide +kernel) (by decide +kernel)
theorem q_h98 : Cond.selects RX12 yX12_ticksOnce yX12_ticksOnce ∈ q_al := q_ali 98 (by decide +kernel) (by decide +kernel)
section QR
variable {p : Program} {l : Launch} {e : Env} {R : Room} {s : State} {m : MethodId} {args : Array Value} {below : List Frame} {meth : Method} {c : Code} {H : Heap} {locs : List Loc} {cells slots : Nat} {Q : State → Prop}
variable {cc : ByteArray} {pc nL : Nat} {ls : Array Slot} {rest : List Value} {g : q_G} {K : Nat → Nat} {L : List Nat} {A : Nat → Prop} {w : q_Ws} {f0 f : Nat → va_E} {a : Nat}
theorem q_cX12_256 : ∀ w ∈ wsV RX12 256 RX12 yX12_ofNode (.code yX12_ofNode cX12_ofNode 3 (some .int) :: q_al), w ∈ q_al := q_cons q_h1847 (q_cons q_h1849 (q_cons q_h69 (q_cons q_h147 (q_cons q_h1850 q_self))))
theorem q_dX12_ofNode : yX12_ofNode.cls = RX12 ∧ yX12_ofNode.cls ≠ "java/lang/invoke/MethodHandle" ∧ yX12_ofNode.cls ≠ "java/lang/invoke/VarHandle" ∧ (parseMethodDescriptor yX12_ofNode.desc).map (fun d => d.parameters.length) = some 2 := by decide +kernel
theorem q_cX12_259 : ∀ w ∈ wsV RX12 259 RX12 yX12_dayIn (.code yX12_dayIn cX12_dayIn 3 (some .int) :: q_al), w ∈ q_al := q_cons q_h1892 (q_cons q_h1894 (q_cons q_h78 (q_cons q_h147 (q_cons q_h1895 q_self))))
theorem q_dX12_dayIn : yX12_dayIn.cls = RX12 ∧ yX12_dayIn.cls ≠ "java/lang/invoke/MethodHandle" ∧ yX12_dayIn.cls ≠ "java/lang/invoke/VarHandle" ∧ (parseMethodDescriptor yX12_dayIn.desc).map (fun d => d.parameters.length) = some 2 := by decide +kernel
theorem q_cX12_262 : ∀ w ∈ wsV RX12 262 RX12 yX12_isWatched (.code yX12_isWatched cX12_isWatched 3 (some .boolean) :: q_al), w ∈ q_al := q_cons q_h1908 (q_cons q_h1910 (q_cons q_h82 (q_cons q_h147 (q_cons q_h1911 q_self))))
theorem q_dX12_isWatched : yX12_isWatched.cls = RX12 ∧ yX12_isWatched.cls ≠ "java/lang/invoke/MethodHandle" ∧ yX12_isWatched.cls ≠ "java/lang/invoke/VarHandle" ∧ (parseMethodDescriptor yX12_isWatched.desc).map (fun d => d.parameters.length) = some 2 := by decide +kernel
theorem q_cX12_265 : ∀ w ∈ wsV RX12 265 RX12 yX12_neighbours (.code yX12_neighbours cX12_neighbours 4 (some .int) :: q_al), w ∈ q_al := q_cons q_h1912 (q_cons q_h1914 (q_cons q_h83 (q_cons q_h147 (q_cons q_h1915 q_self))))
theorem q_dX12_neighbours : yX12_neighbours.cls = RX12 ∧ yX12_neighbours.cls ≠ "java/lang/invoke/MethodHandle" ∧ yX12_neighbours.cls ≠ "java/lang/invoke/VarHandle" ∧ (parseMethodDescriptor yX12_neighbours.desc).map (fun d => d.parameters.length) = some 1 := by decide +kernel
theorem q_cX12_268 : ∀ w ∈ wsV RX12 268 RX12 yX12_isIts (.code yX12_isIts cX12_isIts 6 (some .boolean) :: q_al), w ∈ q_al := q_cons q_h1904 (q_cons q_h1906 (q_cons q_h81 (q_cons q_h147 (q_cons q_h1907 q_self))))
theorem q_dX12_isIts : yX12_isIts.cls = RX12 ∧ yX12_isIts.cls ≠ "java/lang/invoke/MethodHandle" ∧ yX12_isIts.cls ≠ "java/lang/invoke/VarHandle" ∧ (parseMethodDescriptor yX12_isIts.desc).map (fun d => d.parameters.length) = some 2 := by decide +kernel
theorem q_cX12_271 : ∀ w ∈ wsV RX12 271 RX12 yX12_isOut (.code yX12_isOut cX12_isOut 2 (some .boolean) :: q_al), w ∈ q_al := q_cons q_h1872 (q_cons q_h1874 (q_cons q_h74 (q_cons q_h147 (q_cons q_h1875 q_self))))
theorem q_dX12_isOut : yX12_isOut.cls = RX12 ∧ yX12_isOut.cls ≠ "java/lang/invoke/MethodHandle" ∧ yX12_isOut.cls ≠ "java/lang/invoke/VarHandle" ∧ (parseMethodDescriptor yX12_isOut.desc).map (fun d => d.parameters.length) = some 1 := by decide +kernel
theorem q_cX12_274 : ∀ w ∈ wsV RX12 274 RX12 yX12_isAwakeIn (.code yX12_isAwakeIn cX12_isAwakeIn 3 (some .boolean) :: q_al), w ∈ q_al := q_cons q_h1900 (q_cons q_h1902 (q_cons q_h80 (q_cons q_h147 (q_cons q_h1903 q_self))))
theorem q_dX12_isAwakeIn : yX12_isAwakeIn.cls = RX12 ∧ yX12_isAwakeIn.cls ≠ "java/lang/invoke/MethodHandle" ∧ yX12_isAwakeIn.cls ≠ "java/lang/invoke/VarHandle" ∧ (parseMethodDescriptor yX12_isAwakeIn.desc).map (fun d => d.parameters.length) = some 2 := by decide +kernel
theorem q_gX12_45 {b : Nat} (cx : CallFix p m c cc nL s args q_al RX12) (hB : q_B g K L A w f0 f s H locs) (ha : a ∈ L) (hk : K a = 12) (hv : q_r f a 24 = b) (hdg : decode cc pc = .ok (.getfield 45, 3)) (kk : b ∈ L → K b = 159 → W p l e R s m args below meth c H locs cells slots Q (F0 m (pc + 3) ls (.ref b :: rest))) : W p l e R s m args below meth c H locs cells slots Q (F0 m pc ls (.ref a :: rest)) := q_getr (k2 := 159) cx hB ha hk (by decide) rfl rfl q_inX12 (by decide) q_h1573 hv hdg kk
theorem q_cX12_277 : ∀ w ∈ wsV RX12 277 RX12 yX12_lowersHops (.code yX12_lowersHops cX12_lowersHops 5 (some .boolean) :: q_al), w ∈ q_al := q_cons q_h2013 (q_cons q_h2015 (q_cons q_h94 (q_cons q_h147 (q_cons q_h2016 q_self))))
theorem q_dX12_lowersHops : yX12_lowersHops.cls = RX12 ∧ yX12_lowersHops.cls ≠ "java/lang/invoke/MethodHandle" ∧ yX12_lowersHops.cls ≠ "java/lang/invoke/VarHandle" ∧ (parseMethodDescriptor yX12_lowersHops.desc).map (fun d => d.parameters.length) = some 0 := by decide +kernel
theorem q_cX12_280 : ∀ w ∈ wsV RX12 280 RX12 yX12_laysHops (.code yX12_laysHops cX12_laysHops 3 none :: q_al), w ∈ q_al := q_cons q_h2009 (q_cons q_h2011 (q_cons q_h93 (q_cons q_h147 (q_cons q_h2012 q_self))))
theorem q_dX12_laysHops : yX12_laysHops.cls = RX12 ∧ yX12_laysHops.cls ≠ "java/lang/invoke/MethodHandle" ∧ yX12_laysHops.cls ≠ "java/lang/invoke/VarHandle" ∧ (parseMethodDescriptor yX12_laysHops.desc).map (fun d => d.parameters.length) = some 1 := by decide +kernel
theorem q_pX12_283 {x : Int} (cx : CallFix p m c cc nL s args q_al RX12) (hB : q_B g K L A w f0 f s H locs) (ha : a ∈ L) (hk : K a = 12) (hr : q_R x) (h1 : (-2147483648) ≤ x) (h2 : x ≤ 2147483647) (hw : q_inW w 12 26 = true) (hdg : decode cc pc = .ok (.putfield 283, 3)) (kk : ∀ (H1 : Heap) (locs1 : List Loc) (f1 : Nat → va_E), f1 = q_set f a 26 (.int (q_i x)) → q_z f1 a 26 = x → q_B g K L A w f0 f1 s H1 locs1 → W p l e R s m args below meth c H1 locs1 cells slots Q (F0 m (pc + 3) ls rest)) : W p l e R s m args below meth c H locs cells slots Q (F0 m pc ls (.int (q_i x) :: .ref a :: rest)) := q_puti cx hB ha hk (by decide) rfl rfl q_inX12 tyX12 q_yX12 q_nX12 (by decide) rfl q_h1575 rfl rfl hr h1 h2 hw hdg kk
theorem q_cX12_286 : ∀ w ∈ wsV RX12 286 RX12 yX12_awakeSet (.code yX12_awakeSet cX12_awakeSet 4 (some .int) :: q_al), w ∈ q_al := q_cons q_h1974 (q_cons q_h1976 (q_cons q_h89 (q_cons q_h147 (q_cons q_h1977 q_self))))
theorem q_dX12_awakeSet : yX12_awakeSet.cls = RX12 ∧ yX12_awakeSet.cls ≠ "java/lang/invoke/MethodHandle" ∧ yX12_awakeSet.cls ≠ "java/lang/invoke/VarHandle" ∧ (parseMethodDescriptor yX12_awakeSet.desc).map (fun d => d.parameters.length) = some 1 := by decide +kernel
theorem q_gX12_48 {b : Nat} (cx : CallFix p m c cc nL s args q_al RX12) (hB : q_B g K L A w f0 f s H locs) (ha : a ∈ L) (hk : K a = 12) (hv : q_r f a 25 = b) (hdg : decode cc pc = .ok (.getfield 48, 3)) (kk : b ∈ L → K b = 160 → W p l e R s m args below meth c H locs cells slots Q (F0 m (pc + 3) ls (.ref b :: rest))) : W p l e R s m args below meth c H locs cells slots Q (F0 m pc ls (.ref a :: rest)) := q_getr (k2 := 160) cx hB ha hk (by decide) rfl rfl q_inX12 (by decide) q_h1574 hv hdg kk
theorem q_cX12_289 : ∀ w ∈ wsV RX12 289 RX12 yX12_dayOf (.code yX12_dayOf cX12_dayOf 2 (some .int) :: q_al), w ∈ q_al := q_cons q_h1888 (q_cons q_h1890 (q_cons q_h77 (q_cons q_h147 (q_cons q_h1891 q_self))))
theorem q_dX12_dayOf : yX12_dayOf.cls = RX12 ∧ yX12_dayOf.cls ≠ "java/lang/invoke/MethodHandle" ∧ yX12_dayOf.cls ≠ "java/lang/invoke/VarHandle" ∧ (parseMethodDescriptor yX12_dayOf.desc).map (fun d => d.parameters.length) = some 1 := by decide +kernel
theorem q_cX12_292 : ∀ w ∈ va_wsS RX12 292 yX12_lesser (.code yX12_lesser cX12_lesser 2 (some .int) :: q_al), w ∈ q_al := q_cons q_h2052 (q_cons q_h2053 (q_cons q_h147 (q_cons q_h2054 q_self)))
theorem q_dX12_lesser : yX12_lesser.cls ≠ "java/lang/invoke/MethodHandle" ∧ yX12_lesser.cls ≠ "java/lang/invoke/VarHandle" ∧ (parseMethodDescriptor yX12_lesser.desc).map (fun d => d.parameters.length) = some 2 := by decide +kernel
theorem q_cX12_295 : ∀ w ∈ wsV RX12 295 RX12 yX12_uses (.code yX12_uses cX12_uses 3 none :: q_al), w ∈ q_al := q_cons q_h2055 (q_cons q_h2057 (q_cons q_h100 (q_cons q_h147 (q_cons q_h2058 q_self))))
theorem q_dX12_uses : yX12_uses.cls = RX12 ∧ yX12_uses.cls ≠ "java/lang/invoke/MethodHandle" ∧ yX12_uses.cls ≠ "java/lang/invoke/VarHandle" ∧ (parseMethodDescriptor yX12_uses.desc).map (fun d => d.parameters.length) = some 2 := by decide +kernel
theorem q_gX12_283 {x : Int} (cx : CallFix p m c cc nL s args q_al RX12) (hB : q_B g K L A w f0 f s H locs) (ha : a ∈ L) (hk : K a = 12) (hv : q_z f a 26 = x) (hdg : decode cc pc = .ok (.getfield 283, 3)) (kk : (-2147483648) ≤ x → x ≤ 2147483647 → W p l e R s m args below meth c H locs cells slots Q (F0 m (pc + 3) ls (.int (q_i x) :: rest))) : W p l e R s m args below meth c H locs cells slots Q (F0 m pc ls (.ref a :: rest)) := q_geti cx hB ha hk (by decide) rfl rfl q_inX12 (by decide) q_h1575 hv hdg kk
theorem q_cX12_299 : ∀ w ∈ va_wsS RX12 299 yX12_greater (.code yX12_greater cX12_greater 2 (some .int) :: q_al), w ∈ q_al := q_cons q_h2029 (q_cons q_h2030 (q_cons q_h147 (q_cons q_h2031 q_self)))
theorem q_dX12_greater : yX12_greater.cls ≠ "java/lang/invoke/MethodHandle" ∧ yX12_greater.cls ≠ "java/lang/invoke/VarHandle" ∧ (parseMethodDescriptor yX12_greater.desc).map (fun d => d.parameters.length) = some 2 := by decide +kernel
theorem q_cX12_305 : ∀ w ∈ wsV RX12 305 RX12 yX12_misses (.code yX12_misses cX12_misses 4 none :: q_al), w ∈ q_al := q_cons q_h2067 (q_cons q_h2069 (q_cons q_h103 (q_cons q_h147 (q_cons q_h2070 q_self))))
theorem q_dX12_misses : yX12_misses.cls = RX12 ∧ yX12_misses.cls ≠ "java/lang/invoke/MethodHandle" ∧ yX12_misses.cls ≠ "java/lang/invoke/VarHandle" ∧ (parseMethodDescriptor yX12_misses.desc).map (fun d => d.parameters.length) = some 3 := by decide +kernel
theorem q_cX12_302 : ∀ w ∈ wsV RX12 302 RX12 yX12_meets (.code yX12_meets cX12_meets 2 none :: q_al), w ∈ q_al := q_cons q_h2063 (q_cons q_h2065 (q_cons q_h102 (q_cons q_h147 (q_cons q_h2066 q_self))))
theorem q_dX12_meets : yX12_meets.cls = RX12 ∧ yX12_meets.cls ≠ "java/lang/invoke/MethodHandle" ∧ yX12_meets.cls ≠ "java/lang/invoke/VarHandle" ∧ (parseMethodDescriptor yX12_meets.desc).map (fun d => d.parameters.length) = some 1 := by decide +kernel
theorem q_cX12_308 : ∀ w ∈ wsV RX12 308 RX12 yX12_ofMessage (.code yX12_ofMessage cX12_ofMessage 3 (some .int) :: q_al), w ∈ q_al := q_cons q_h1860 (q_cons q_h1862 (q_cons q_h71 (q_cons q_h147 (q_cons q_h1863 q_self))))
theorem q_dX12_ofMessage : yX12_ofMessage.cls = RX12 ∧ yX12_ofMessage.cls ≠ "java/lang/invoke/MethodHandle" ∧ yX12_ofMessage.cls ≠ "java/lang/invoke/VarHandle" ∧ (parseMethodDescriptor yX12_ofMessage.desc).map (fun d => d.parameters.length) = some 2 := by decide +kernel
theorem q_cX12_311 : ∀ w ∈ wsV RX12 311 RX12 yX12_nextOf (.code yX12_nextOf cX12_nextOf 6 (some .int) :: q_al), w ∈ q_al := q_cons q_h2021 (q_cons q_h2023 (q_cons q_h95 (q_cons q_h147 (q_cons q_h2024 q_self))))
theorem q_dX12_nextOf : yX12_nextOf.cls = RX12 ∧ yX12_nextOf.cls ≠ "java/lang/invoke/MethodHandle" ∧ yX12_nextOf.cls ≠ "java/lang/invoke/VarHandle" ∧ (parseMethodDescriptor yX12_nextOf.desc).map (fun d => d.parameters.length) = some 2 := by decide +kernel
theorem q_gX12_314 {x : Int} (cx : CallFix p m c cc nL s args q_al RX12) (hB : q_B g K L A w f0 f s H locs) (ha : a ∈ L) (hk : K a = 12) (hv : q_z f a 27 = x) (hdg : decode cc pc = .ok (.getfield 314, 3)) (kk : (-2147483648) ≤ x → x ≤ 2147483647 → W p l e R s m args below meth c H locs cells slots Q (F0 m (pc + 3) ls (.int (q_i x) :: rest))) : W p l e R s m args below meth c H locs cells slots Q (F0 m pc ls (.ref a :: rest)) := q_geti cx hB ha hk (by decide) rfl rfl q_inX12 (by decide) q_h1576 hv hdg kk
theorem q_gX12_317 {x : Int} (cx : CallFix p m c cc nL s args q_al RX12) (hB : q_B g K L A w f0 f s H locs) (ha : a ∈ L) (hk : K a = 12) (hv : q_z f a 28 = x) (hdg : decode cc pc = .ok (.getfield 317, 3)) (kk : (-2147483648) ≤ x → x ≤ 2147483647 → W p l e R s m args below meth c H locs cells slots Q (F0 m (pc + 3) ls (.int (q_i x) :: rest))) : W p l e R s m args below meth c H locs cells slots Q (F0 m pc ls (.ref a :: rest)) := q_geti cx hB ha hk (by decide) rfl rfl q_inX12 (by decide) q_h1577 hv hdg kk
theorem q_pX12_314 {x : Int} (cx : CallFix p m c cc nL s args q_al RX12) (hB : q_B g K L A w f0 f s H locs) (ha : a ∈ L) (hk : K a = 12) (hr : q_R x) (h1 : (-2147483648) ≤ x) (h2 : x ≤ 2147483647) (hw : q_inW w 12 27 = true) (hdg : decode cc pc = .ok (.putfield 314, 3)) (kk : ∀ (H1 : Heap) (locs1 : List Loc) (f1 : Nat → va_E), f1 = q_set f a 27 (.int (q_i x)) → q_z f1 a 27 = x → q_B g K L A w f0 f1 s H1 locs1 → W p l e R s m args below meth c H1 locs1 cells slots Q (F0 m (pc + 3) ls rest)) : W p l e R s m args below meth c H locs cells slots Q (F0 m pc ls (.int (q_i x) :: .ref a :: rest)) := q_puti cx hB ha hk (by decide) rfl rfl q_inX12 tyX12 q_yX12 q_nX12 (by decide) rfl q_h1576 rfl rfl hr h1 h2 hw hdg kk
theorem q_pX12_317 {x : Int} (cx : CallFix p m c cc nL s args q_al RX12) (hB : q_B g K L A w f0 f s H locs) (ha : a ∈ L) (hk : K a = 12) (hr : q_R x) (h1 : (-2147483648) ≤ x) (h2 : x ≤ 2147483647) (hw : q_inW w 12 28 = true) (hdg : decode cc pc = .ok (.putfield 317, 3)) (kk : ∀ (H1 : Heap) (locs1 : List Loc) (f1 : Nat → va_E), f1 = q_set f a 28 (.int (q_i x)) → q_z f1 a 28 = x → q_B g K L A w f0 f1 s H1 locs1 → W p l e R s m args below meth c H1 locs1 cells slots Q (F0 m (pc + 3) ls rest)) : W p l e R s m args below meth c H locs cells slots Q (F0 m pc ls (.int (q_i x) :: .ref a :: rest)) := q_puti cx hB ha hk (by decide) rfl rfl q_inX12 tyX12 q_yX12 q_nX12 (by decide) rfl q_h1577 rfl rfl hr h1 h2 hw hdg kk
theorem q_cX12_320 : ∀ w ∈ wsV RX12 320 RX12 yX12_setsMessage (.code yX12_setsMessage cX12_setsMessage 4 none :: q_al), w ∈ q_al := q_cons q_h2079 (q_cons q_h2081 (q_cons q_h106 (q_cons q_h147 (q_cons q_h2082 q_self))))
theorem q_dX12_setsMessage : yX12_setsMessage.cls = RX12 ∧ yX12_setsMessage.cls ≠ "java/lang/invoke/MethodHandle" ∧ yX12_setsMessage.cls ≠ "java/lang/invoke/VarHandle" ∧ (parseMethodDescriptor yX12_setsMessage.desc).map (fun d => d.parameters.length) = some 3 := by decide +kernel
theorem q_cX12_323 : ∀ w ∈ wsV RX12 323 RX12 yX12_passes (.code yX12_passes cX12_passes 7 (some .boolean) :: q_al), w ∈ q_al := q_cons q_h2075 (q_cons q_h2077 (q_cons q_h105 (q_cons q_h147 (q_cons q_h2078 q_self))))
theorem q_dX12_passes : yX12_passes.cls = RX12 ∧ yX12_passes.cls ≠ "java/lang/invoke/MethodHandle" ∧ yX12_passes.cls ≠ "java/lang/invoke/VarHandle" ∧ (parseMethodDescriptor yX12_passes.desc).map (fun d => d.parameters.length) = some 1 := by decide +kernel
theorem q_cX12_326 : ∀ w ∈ wsV RX12 326 RX12 yX12_wakes (.code yX12_wakes cX12_wakes 3 none :: q_al), w ∈ q_al := q_cons q_h2048 (q_cons q_h2050 (q_cons q_h99 (q_cons q_h147 (q_cons q_h2051 q_self))))
theorem q_dX12_wakes : yX12_wakes.cls = RX12 ∧ yX12_wakes.cls ≠ "java/lang/invoke/MethodHandle" ∧ yX12_wakes.cls ≠ "java/lang/invoke/VarHandle" ∧ (parseMethodDescriptor yX12_wakes.desc).map (fun d => d.parameters.length) = some 0 := by decide +kernel
theorem q_cX12_332 : ∀ w ∈ wsV RX12 332 RX12 yX12_passesAll (.code yX12_passesAll cX12_passesAll 4 (some .int) :: q_al), w ∈ q_al := q_cons q_h2071 (q_cons q_h2073 (q_cons q_h104 (q_cons q_h147 (q_cons q_h2074 q_self))))
theorem q_dX12_passesAll : yX12_passesAll.cls = RX12 ∧ yX12_passesAll.cls ≠ "java/lang/invoke/MethodHandle" ∧ yX12_passesAll.cls ≠ "java/lang/invoke/VarHandle" ∧ (parseMethodDescriptor yX12_passesAll.desc).map (fun d => d.parameters.length) = some 1 := by decide +kernel
theorem q_cX12_335 : ∀ w ∈ wsV RX12 335 RX12 yX12_loses (.code yX12_loses cX12_loses 2 none :: q_al), w ∈ q_al := q_cons q_h2083 (q_cons q_h2085 (q_cons q_h107 (q_cons q_h147 (q_cons q_h2086 q_self))))
theorem q_dX12_loses : yX12_loses.cls = RX12 ∧ yX12_loses.cls ≠ "java/lang/invoke/MethodHandle" ∧ yX12_loses.cls ≠ "java/lang/invoke/VarHandle" ∧ (parseMethodDescriptor yX12_loses.desc).map (fun d => d.parameters.length) = some 0 := by decide +kernel
theorem q_cX12_329 : ∀ w ∈ wsV RX12 329 RX12 yX12_looksAt (.code yX12_looksAt cX12_looksAt 7 none :: q_al), w ∈ q_al := q_cons q_h2059 (q_cons q_h2061 (q_cons q_h101 (q_cons q_h147 (q_cons q_h2062 q_self))))
theorem q_dX12_looksAt : yX12_looksAt.cls = RX12 ∧ yX12_looksAt.cls ≠ "java/lang/invoke/MethodHandle" ∧ yX12_looksAt.cls ≠ "java/lang/invoke/VarHandle" ∧ (parseMethodDescriptor yX12_looksAt.desc).map (fun d => d.parameters.length) = some 1 := by decide +kernel
theorem q_cX12_338 : ∀ w ∈ wsV RX12 338 RX12 yX12_ticksOnce (.code yX12_ticksOnce cX12_ticksOnce 2 (some .int) :: q_al), w ∈ q_al := q_cons q_h2044 (q_cons q_h2046 (q_cons q_h98 (q_cons q_h147 (q_cons q_h2047 q_self))))
theorem q_dX12_ticksOnce : yX12_ticksOnce.cls = RX12 ∧ yX12_ticksOnce.cls ≠ "java/lang/invoke/MethodHandle" ∧ yX12_ticksOnce.cls ≠ "java/lang/invoke/VarHandle" ∧ (parseMethodDescriptor yX12_ticksOnce.desc).map (fun d => d.parameters.length) = some 0 := by decide +kernel
end QR
