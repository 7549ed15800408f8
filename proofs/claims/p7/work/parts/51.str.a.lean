theorem q_h956 : Cond.fieldLink RJ0 38 "java/lang/String" "COMPACT_STRINGS" "Z" ∈ q_al := q_ali 956 (by decide +kernel) (by decide +kernel)
theorem q_h2273 : Cond.fieldLink RJ0 15 "java/lang/String" "coder" "B" ∈ q_al := q_ali 2273 (by decide +kernel) (by decide +kernel)
theorem q_h2272 : Cond.fieldLink RJ0 9 "java/lang/String" "value" "[B" ∈ q_al := q_ali 2272 (by decide +kernel) (by decide +kernel)
theorem q_h952 : Cond.methodLink RJ0 335 yJ0_coder_7d493 ∈ q_al := q_ali 952 (by decide +kernel) (by decide +kernel)
theorem q_h955 : Cond.code yJ0_coder_7d493 cJ0_coder_7d493 1 (some .byte) ∈ q_al := q_ali 955 (by decide +kernel) (by decide +kernel)
theorem q_h153 : Cond.initialized RJ0 ∈ q_al := q_ali 153 (by decide +kernel) (by decide +kernel)
theorem q_h953 : Cond.instanceMethod yJ0_coder_7d493 ∈ q_al := q_ali 953 (by decide +kernel) (by decide +kernel)
theorem q_h954 : Cond.selects RJ0 yJ0_coder_7d493 yJ0_coder_7d493 ∈ q_al := q_ali 954 (by decide +kernel) (by decide +kernel)
theorem q_h972 : Cond.fieldLink RJ0 1053 "jdk/internal/util/Preconditions" "SIOOBE_FORMATTER" "Ljava/util/function/BiFunction;" ∈ q_al := q_ali 972 (by decide +kernel) (by decide +kernel)
theorem q_h974 : Cond.methodLink RJ0 1059 yJ3_checkIndex_8e157 ∈ q_al := q_ali 974 (by decide +kernel) (by decide +kernel)
theorem q_h976 : Cond.code yJ3_checkIndex_8e157 cJ3_checkIndex_8e157 3 (some .int) ∈ q_al := q_ali 976 (by decide +kernel) (by decide +kernel)
theorem q_h155 : Cond.initialized RJ3 ∈ q_al := q_ali 155 (by decide +kernel) (by decide +kernel)
theorem q_h975 : Cond.static yJ3_checkIndex_8e157 ∈ q_al := q_ali 975 (by decide +kernel) (by decide +kernel)
theorem q_h969 : Cond.methodLink RJ1 9 yJ0_checkIndex_df160 ∈ q_al := q_ali 969 (by decide +kernel) (by decide +kernel)
theorem q_h971 : Cond.code yJ0_checkIndex_df160 cJ0_checkIndex_df160 2 none ∈ q_al := q_ali 971 (by decide +kernel) (by decide +kernel)
theorem q_h970 : Cond.static yJ0_checkIndex_df160 ∈ q_al := q_ali 970 (by decide +kernel) (by decide +kernel)
theorem q_h962 : Cond.methodLink RJ0 492 yJ0_isLatin1_aae02 ∈ q_al := q_ali 962 (by decide +kernel) (by decide +kernel)
theorem q_h965 : Cond.code yJ0_isLatin1_aae02 cJ0_isLatin1_aae02 1 (some .boolean) ∈ q_al := q_ali 965 (by decide +kernel) (by decide +kernel)
theorem q_h963 : Cond.instanceMethod yJ0_isLatin1_aae02 ∈ q_al := q_ali 963 (by decide +kernel) (by decide +kernel)
theorem q_h964 : Cond.selects RJ0 yJ0_isLatin1_aae02 yJ0_isLatin1_aae02 ∈ q_al := q_ali 964 (by decide +kernel) (by decide +kernel)
theorem q_h966 : Cond.methodLink RJ0 495 yJ1_charAt_3b067 ∈ q_al := q_ali 966 (by decide +kernel) (by decide +kernel)
theorem q_h968 : Cond.code yJ1_charAt_3b067 cJ1_charAt_3b067 2 (some .char) ∈ q_al := q_ali 968 (by decide +kernel) (by decide +kernel)
theorem q_h154 : Cond.initialized RJ1 ∈ q_al := q_ali 154 (by decide +kernel) (by decide +kernel)
theorem q_h967 : Cond.static yJ1_charAt_3b067 ∈ q_al := q_ali 967 (by decide +kernel) (by decide +kernel)
section QR
variable {p : Program} {l : Launch} {e : Env} {R : Room} {s : State} {m : MethodId} {args : Array Value} {below : List Frame} {meth : Method} {c : Code} {H : Heap} {locs : List Loc} {cells slots : Nat} {Q : State → Prop}
variable {cc : ByteArray} {pc nL : Nat} {ls : Array Slot} {rest : List Value} {g : q_G} {K : Nat → Nat} {L : List Nat} {A : Nat → Prop} {w : q_Ws} {f0 f : Nat → va_E} {a : Nat}
theorem q_cJ0_335 : ∀ w ∈ wsV RJ0 335 RJ0 yJ0_coder_7d493 (.code yJ0_coder_7d493 cJ0_coder_7d493 1 (some .byte) :: q_al), w ∈ q_al := q_cons q_h952 (q_cons q_h953 (q_cons q_h954 (q_cons q_h153 (q_cons q_h955 q_self))))
theorem q_dJ0_coder_7d493 : yJ0_coder_7d493.cls = RJ0 ∧ yJ0_coder_7d493.cls ≠ "java/lang/invoke/MethodHandle" ∧ yJ0_coder_7d493.cls ≠ "java/lang/invoke/VarHandle" ∧ (parseMethodDescriptor yJ0_coder_7d493.desc).map (fun d => d.parameters.length) = some 0 := by decide +kernel
theorem q_cJ0_1059 : ∀ w ∈ va_wsS RJ0 1059 yJ3_checkIndex_8e157 (.code yJ3_checkIndex_8e157 cJ3_checkIndex_8e157 3 (some .int) :: q_al), w ∈ q_al := q_cons q_h974 (q_cons q_h975 (q_cons q_h155 (q_cons q_h976 q_self)))
theorem q_dJ3_checkIndex_8e157 : yJ3_checkIndex_8e157.cls ≠ "java/lang/invoke/MethodHandle" ∧ yJ3_checkIndex_8e157.cls ≠ "java/lang/invoke/VarHandle" ∧ (parseMethodDescriptor yJ3_checkIndex_8e157.desc).map (fun d => d.parameters.length) = some 3 := by decide +kernel
theorem q_cJ1_9 : ∀ w ∈ va_wsS RJ1 9 yJ0_checkIndex_df160 (.code yJ0_checkIndex_df160 cJ0_checkIndex_df160 2 none :: q_al), w ∈ q_al := q_cons q_h969 (q_cons q_h970 (q_cons q_h153 (q_cons q_h971 q_self)))
theorem q_dJ0_checkIndex_df160 : yJ0_checkIndex_df160.cls ≠ "java/lang/invoke/MethodHandle" ∧ yJ0_checkIndex_df160.cls ≠ "java/lang/invoke/VarHandle" ∧ (parseMethodDescriptor yJ0_checkIndex_df160.desc).map (fun d => d.parameters.length) = some 2 := by decide +kernel
theorem q_cJ0_492 : ∀ w ∈ wsV RJ0 492 RJ0 yJ0_isLatin1_aae02 (.code yJ0_isLatin1_aae02 cJ0_isLatin1_aae02 1 (some .boolean) :: q_al), w ∈ q_al := q_cons q_h962 (q_cons q_h963 (q_cons q_h964 (q_cons q_h153 (q_cons q_h965 q_self))))
theorem q_dJ0_isLatin1_aae02 : yJ0_isLatin1_aae02.cls = RJ0 ∧ yJ0_isLatin1_aae02.cls ≠ "java/lang/invoke/MethodHandle" ∧ yJ0_isLatin1_aae02.cls ≠ "java/lang/invoke/VarHandle" ∧ (parseMethodDescriptor yJ0_isLatin1_aae02.desc).map (fun d => d.parameters.length) = some 0 := by decide +kernel
theorem q_cJ0_495 : ∀ w ∈ va_wsS RJ0 495 yJ1_charAt_3b067 (.code yJ1_charAt_3b067 cJ1_charAt_3b067 2 (some .char) :: q_al), w ∈ q_al := q_cons q_h966 (q_cons q_h967 (q_cons q_h154 (q_cons q_h968 q_self)))
theorem q_dJ1_charAt_3b067 : yJ1_charAt_3b067.cls ≠ "java/lang/invoke/MethodHandle" ∧ yJ1_charAt_3b067.cls ≠ "java/lang/invoke/VarHandle" ∧ (parseMethodDescriptor yJ1_charAt_3b067.desc).map (fun d => d.parameters.length) = some 2 := by decide +kernel
end QR
