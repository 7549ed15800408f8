theorem dJ0_coder_7d493_0 : decode cJ0_coder_7d493 0 = .ok (.getstatic 38, 3) := by decide +kernel
theorem dJ0_coder_7d493_3 : decode cJ0_coder_7d493 3 = .ok (.ifCond .eq 10, 3) := by decide +kernel
theorem dJ0_coder_7d493_6 : decode cJ0_coder_7d493 6 = .ok (.aload_n 0, 1) := by decide +kernel
theorem dJ0_coder_7d493_7 : decode cJ0_coder_7d493 7 = .ok (.getfield 15, 3) := by decide +kernel
theorem dJ0_coder_7d493_10 : decode cJ0_coder_7d493 10 = .ok (.goto 4, 3) := by decide +kernel
theorem dJ0_coder_7d493_14 : decode cJ0_coder_7d493 14 = .ok (.ireturn, 1) := by decide +kernel
theorem dJ0_isLatin1_aae02_0 : decode cJ0_isLatin1_aae02 0 = .ok (.getstatic 38, 3) := by decide +kernel
theorem dJ0_isLatin1_aae02_3 : decode cJ0_isLatin1_aae02 3 = .ok (.ifCond .eq 14, 3) := by decide +kernel
theorem dJ0_isLatin1_aae02_6 : decode cJ0_isLatin1_aae02 6 = .ok (.aload_n 0, 1) := by decide +kernel
theorem dJ0_isLatin1_aae02_7 : decode cJ0_isLatin1_aae02 7 = .ok (.getfield 15, 3) := by decide +kernel
theorem dJ0_isLatin1_aae02_10 : decode cJ0_isLatin1_aae02 10 = .ok (.ifCond .ne 7, 3) := by decide +kernel
theorem dJ0_isLatin1_aae02_13 : decode cJ0_isLatin1_aae02 13 = .ok (.iconst 1, 1) := by decide +kernel
theorem dJ0_isLatin1_aae02_14 : decode cJ0_isLatin1_aae02 14 = .ok (.goto 4, 3) := by decide +kernel
theorem dJ0_isLatin1_aae02_18 : decode cJ0_isLatin1_aae02 18 = .ok (.ireturn, 1) := by decide +kernel
theorem dJ0_length_8abf5_0 : decode cJ0_length_8abf5 0 = .ok (.aload_n 0, 1) := by decide +kernel
theorem dJ0_length_8abf5_1 : decode cJ0_length_8abf5 1 = .ok (.getfield 9, 3) := by decide +kernel
theorem dJ0_length_8abf5_4 : decode cJ0_length_8abf5 4 = .ok (.arraylength, 1) := by decide +kernel
theorem dJ0_length_8abf5_5 : decode cJ0_length_8abf5 5 = .ok (.aload_n 0, 1) := by decide +kernel
theorem dJ0_length_8abf5_6 : decode cJ0_length_8abf5 6 = .ok (.invokevirtual 335, 3) := by decide +kernel
theorem dJ0_length_8abf5_9 : decode cJ0_length_8abf5 9 = .ok (.ishr, 1) := by decide +kernel
theorem dJ0_length_8abf5_10 : decode cJ0_length_8abf5 10 = .ok (.ireturn, 1) := by decide +kernel
theorem dJ3_checkIndex_8e157_0 : decode cJ3_checkIndex_8e157 0 = .ok (.iload_n 0, 1) := by decide +kernel
theorem dJ3_checkIndex_8e157_1 : decode cJ3_checkIndex_8e157 1 = .ok (.ifCond .lt 8, 3) := by decide +kernel
theorem dJ3_checkIndex_8e157_4 : decode cJ3_checkIndex_8e157 4 = .ok (.iload_n 0, 1) := by decide +kernel
theorem dJ3_checkIndex_8e157_5 : decode cJ3_checkIndex_8e157 5 = .ok (.iload_n 1, 1) := by decide +kernel
theorem dJ3_checkIndex_8e157_6 : decode cJ3_checkIndex_8e157 6 = .ok (.if_icmp .lt 10, 3) := by decide +kernel
theorem dJ3_checkIndex_8e157_16 : decode cJ3_checkIndex_8e157 16 = .ok (.iload_n 0, 1) := by decide +kernel
theorem dJ3_checkIndex_8e157_17 : decode cJ3_checkIndex_8e157 17 = .ok (.ireturn, 1) := by decide +kernel
theorem dJ0_checkIndex_df160_0 : decode cJ0_checkIndex_df160 0 = .ok (.iload_n 0, 1) := by decide +kernel
theorem dJ0_checkIndex_df160_1 : decode cJ0_checkIndex_df160 1 = .ok (.iload_n 1, 1) := by decide +kernel
theorem dJ0_checkIndex_df160_2 : decode cJ0_checkIndex_df160 2 = .ok (.getstatic 1053, 3) := by decide +kernel
theorem dJ0_checkIndex_df160_5 : decode cJ0_checkIndex_df160 5 = .ok (.invokestatic 1059, 3) := by decide +kernel
theorem dJ0_checkIndex_df160_8 : decode cJ0_checkIndex_df160 8 = .ok (.pop, 1) := by decide +kernel
theorem dJ0_checkIndex_df160_9 : decode cJ0_checkIndex_df160 9 = .ok (.return_, 1) := by decide +kernel
theorem dJ1_charAt_3b067_0 : decode cJ1_charAt_3b067 0 = .ok (.iload_n 1, 1) := by decide +kernel
theorem dJ1_charAt_3b067_1 : decode cJ1_charAt_3b067 1 = .ok (.aload_n 0, 1) := by decide +kernel
theorem dJ1_charAt_3b067_2 : decode cJ1_charAt_3b067 2 = .ok (.arraylength, 1) := by decide +kernel
theorem dJ1_charAt_3b067_3 : decode cJ1_charAt_3b067 3 = .ok (.invokestatic 9, 3) := by decide +kernel
theorem dJ1_charAt_3b067_6 : decode cJ1_charAt_3b067 6 = .ok (.aload_n 0, 1) := by decide +kernel
theorem dJ1_charAt_3b067_7 : decode cJ1_charAt_3b067 7 = .ok (.iload_n 1, 1) := by decide +kernel
theorem dJ1_charAt_3b067_8 : decode cJ1_charAt_3b067 8 = .ok (.baload, 1) := by decide +kernel
theorem dJ1_charAt_3b067_9 : decode cJ1_charAt_3b067 9 = .ok (.sipush 255, 3) := by decide +kernel
theorem dJ1_charAt_3b067_12 : decode cJ1_charAt_3b067 12 = .ok (.iand, 1) := by decide +kernel
theorem dJ1_charAt_3b067_13 : decode cJ1_charAt_3b067 13 = .ok (.i2c, 1) := by decide +kernel
theorem dJ1_charAt_3b067_14 : decode cJ1_charAt_3b067 14 = .ok (.ireturn, 1) := by decide +kernel
theorem dJ0_charAt_5068e_0 : decode cJ0_charAt_5068e 0 = .ok (.aload_n 0, 1) := by decide +kernel
theorem dJ0_charAt_5068e_1 : decode cJ0_charAt_5068e 1 = .ok (.invokevirtual 492, 3) := by decide +kernel
theorem dJ0_charAt_5068e_4 : decode cJ0_charAt_5068e 4 = .ok (.ifCond .eq 12, 3) := by decide +kernel
theorem dJ0_charAt_5068e_7 : decode cJ0_charAt_5068e 7 = .ok (.aload_n 0, 1) := by decide +kernel
theorem dJ0_charAt_5068e_8 : decode cJ0_charAt_5068e 8 = .ok (.getfield 9, 3) := by decide +kernel
theorem dJ0_charAt_5068e_11 : decode cJ0_charAt_5068e 11 = .ok (.iload_n 1, 1) := by decide +kernel
theorem dJ0_charAt_5068e_12 : decode cJ0_charAt_5068e 12 = .ok (.invokestatic 495, 3) := by decide +kernel
theorem dJ0_charAt_5068e_15 : decode cJ0_charAt_5068e 15 = .ok (.ireturn, 1) := by decide +kernel
theorem q_sn15 : ∀ i : Nat, i < 15 → 1 ≤ (q_sb.getD i []).length ∧ (q_sb.getD i []).length ≤ 6 := by decide +kernel
theorem q_sb15 : ∀ i : Nat, i < 15 → ∀ k : Nat, k < 6 → 97 ≤ ((q_sb.getD i []).getD k 97 &&& 255).toInt ∧ ((q_sb.getD i []).getD k 97 &&& 255).toInt ≤ 122 := by decide +kernel
theorem q_sb15c : ∀ i : Nat, i < 15 → ∀ k : Nat, k < 6 → ((((q_sb.getD i []).getD k 97 &&& 255).toUInt32 % 65536).toInt32 = ((q_sb.getD i []).getD k 97 &&& 255)) ∧ narrow .char (.int ((q_sb.getD i []).getD k 97 &&& 255)) = .int ((q_sb.getD i []).getD k 97 &&& 255) := by decide +kernel
theorem q_snR {i : Nat} (hi : i < 15) : q_R (q_sn i) := by
  have h := q_sn15 i hi
  unfold q_sn
  exact ⟨by omega, by omega⟩
theorem q_snv {i : Nat} (hi : i < 15) : Int32.ofNat (q_sb.getD i []).length = q_i (q_sn i) := by
  unfold q_sn q_i
  exact Int32.ofInt_eq_ofNat.symm
theorem q_sh0 {z : Int} : q_i z >>> (q_i 0 &&& 31) = q_i z := by
  rw [show (q_i 0 &&& 31 : Int32) = 0 from by decide]
  exact Int32.shiftRight_zero
theorem q_scd {i : Nat} {k : Int} (hk0 : 0 ≤ k) (hkn : k < q_sn i) : (q_sb.getD i []).getD k.toNat 0 = (q_sb.getD i []).getD k.toNat 97 := by
  have h : k.toNat < (q_sb.getD i []).length := by unfold q_sn at hkn; omega
  generalize q_sb.getD i [] = l at h ⊢
  rw [List.getD_eq_getElem?_getD, List.getD_eq_getElem?_getD, List.getElem?_eq_getElem h]
  rfl
theorem q_sck {i : Nat} (hi : i < 15) {k : Int} (hk0 : 0 ≤ k) (hkn : k < q_sn i) : k.toNat < 6 := by
  have h := q_sn15 i hi
  unfold q_sn at hkn
  omega
theorem q_scin {i : Nat} (hi : i < 15) {k : Int} (hk0 : 0 ≤ k) (hkn : k < q_sn i) : vp_in (q_i k) (q_sb.getD i []).length := by
  have h := q_sn15 i hi
  exact q_in hk0 hkn (by omega)
theorem q_sce {i : Nat} (hi : i < 15) {k : Int} (hk0 : 0 ≤ k) (hkn : k < q_sn i) : (q_sb.getD i []).getD (q_i k).toNatClampNeg 0 &&& q_i 255 = q_i (q_sc9 i k) := by
  have h := q_sck hi hk0 hkn
  rw [q_nat ⟨by omega, by omega⟩]
  unfold q_sc9
  rw [q_of]
  rfl
theorem q_scc {i : Nat} (hi : i < 15) {k : Int} (hk0 : 0 ≤ k) (hkn : k < q_sn i) : ((q_i (q_sc9 i k)).toUInt32 % 65536).toInt32 = q_i (q_sc9 i k) ∧ narrow .char (.int (q_i (q_sc9 i k))) = .int (q_i (q_sc9 i k)) ∧ q_R (q_sc9 i k) := by
  have h := q_sck hi hk0 hkn
  have h1 := q_sb15 i hi _ h
  have h2 := q_sb15c i hi _ h
  unfold q_sc9
  rw [q_scd hk0 hkn, q_of]
  exact ⟨h2.1, h2.2, by omega, by omega⟩
theorem q_scr {i : Nat} (hi : i < 15) {k : Int} (hk0 : 0 ≤ k) (hkn : k < q_sn i) : 97 ≤ q_sc9 i k ∧ q_sc9 i k ≤ 122 := by
  have h := q_sck hi hk0 hkn
  have h1 := q_sb15 i hi _ h
  unfold q_sc9
  rw [q_scd hk0 hkn]
  exact h1
theorem q_srec {ad : Nat → Nat} {g : q_G} {K : Nat → Nat} {L : List Nat} {w : q_Ws} {f0 f : Nat → va_E} {s : State} {H : Heap} {locs : List Loc} {i : Nat} (hX : q_X ad (fun q => q ∈ L) s) (hi : i < 15) (hB : q_B g K L (fun q => q ∈ L) w f0 f s H locs) : ∃ cell : Cell, H[ad i]? = some cell ∧ cell.vm.isStatics = false ∧ s.vm.findClass "java/lang/String" = some cell.cls := by
  obtain ⟨cell, h1, h2, h3, -⟩ := ((hX.2.2.2.2.2.2.2 i hi).2.1).kept hB.1.2.2.2.2.1
  exact ⟨cell, h1, h2, h3⟩
