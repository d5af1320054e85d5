theorem dX5_spends_0 : decode cX5_spends 0 = .ok (.aload_n 0, 1) := by decide +kernel
theorem dX5_spends_1 : decode cX5_spends 1 = .ok (.getfield 9, 3) := by decide +kernel
theorem dX5_spends_4 : decode cX5_spends 4 = .ok (.iload_n 1, 1) := by decide +kernel
theorem dX5_spends_5 : decode cX5_spends 5 = .ok (.if_icmp .ne 15, 3) := by decide +kernel
theorem dX5_spends_8 : decode cX5_spends 8 = .ok (.aload_n 0, 1) := by decide +kernel
theorem dX5_spends_9 : decode cX5_spends 9 = .ok (.getfield 15, 3) := by decide +kernel
theorem dX5_spends_12 : decode cX5_spends 12 = .ok (.iconst 4, 1) := by decide +kernel
theorem dX5_spends_13 : decode cX5_spends 13 = .ok (.if_icmp .eq 7, 3) := by decide +kernel
theorem dX5_spends_16 : decode cX5_spends 16 = .ok (.iconst 1, 1) := by decide +kernel
theorem dX5_spends_17 : decode cX5_spends 17 = .ok (.goto 4, 3) := by decide +kernel
theorem dX5_spends_20 : decode cX5_spends 20 = .ok (.iconst 0, 1) := by decide +kernel
theorem dX5_spends_21 : decode cX5_spends 21 = .ok (.ireturn, 1) := by decide +kernel
set_option maxHeartbeats 4000000 in
set_option maxRecDepth 100000 in
theorem c_X5_spends {l : Launch} {g : GW} {z κ p c : Nat} {v t : Int32} {k : Nat} (μ : Mm) (hz : z < 88) (hzt : kt z = 5) (hZ : ShR μ z κ p c v t) (hk : k ≤ 6) : Con l g yX5_spends cX5_spends 2 (some .boolean) 0 [.ref z, .int (cI k)] μ (fun r μ' => r = some (.int (bI (c == k && κ != 4))) ∧ μ' = μ) := by
  obtain ⟨z1, z2, z3, z4, z5, z6, z7, z8⟩ := hZ
  refine Con.of [.ref z, .int (cI k)] 0 (by decide +kernel) (Nat.le_of_ble_eq_true rfl) rfl ?_
  refine V_aload_n (pc := 0) dX5_spends_0 rfl rfl ?_
  refine V_getI (pc := 1) (ci := 5) (j := 2) dX5_spends_1 fl_X5_9 (fun _ _ _ _ => rfl) (by first | decide | omega) (by first | rfl | assumption | decide) ?_
  refine V_iload_n (pc := 4) dX5_spends_4 rfl rfl ?_
  refine V_icmpne (pc := 5) (tgt := 20) dX5_spends_5 (by decide) (fun h5 => ?_) (fun h5 => ?_)
  · rw [z5, cI_eq (by omega) (by omega)] at h5
    refine V_iconst (pc := 20) (v := 0) dX5_spends_20 (by decide) ?_
    refine V_zret (pc := 21) dX5_spends_21 rfl (by first | exact Or.inl rfl | exact Or.inr rfl | assumption) ?_
    exact ⟨congrArg (fun z => some (Value.int z)) (by simp_all [bI]), rfl⟩
  rw [z5, cI_eq (by omega) (by omega)] at h5
  refine V_aload_n (pc := 8) dX5_spends_8 rfl rfl ?_
  refine V_getI (pc := 9) (ci := 5) (j := 0) dX5_spends_9 fl_X5_15 (fun _ _ _ _ => rfl) (by first | decide | omega) (by first | rfl | assumption | decide) ?_
  refine V_iconst (pc := 12) (v := 4) dX5_spends_12 (by decide) ?_
  refine V_icmpeq (pc := 13) (tgt := 20) dX5_spends_13 (by decide) (fun h13 => ?_) (fun h13 => ?_)
  · rw [z1] at h13; have h13 := (nI_eq (a := κ) (b := 4) (by omega) (by decide)).mp h13
    refine V_iconst (pc := 20) (v := 0) dX5_spends_20 (by decide) ?_
    refine V_zret (pc := 21) dX5_spends_21 rfl (by first | exact Or.inl rfl | exact Or.inr rfl | assumption) ?_
    exact ⟨congrArg (fun z => some (Value.int z)) (by simp_all [bI]), rfl⟩
  rw [z1] at h13; have h13 := mt (nI_eq (a := κ) (b := 4) (by omega) (by decide)).mpr h13
  refine V_iconst (pc := 16) (v := 1) dX5_spends_16 (by decide) ?_
  refine V_goto (pc := 17) (tgt := 21) dX5_spends_17 (by decide) ?_
  refine V_zret (pc := 21) dX5_spends_21 rfl (by first | exact Or.inl rfl | exact Or.inr rfl | assumption) ?_
  exact ⟨congrArg (fun z => some (Value.int z)) (by simp_all [bI]), rfl⟩
theorem dX5_isA_0 : decode cX5_isA 0 = .ok (.iload_n 1, 1) := by decide +kernel
theorem dX5_isA_1 : decode cX5_isA 1 = .ok (.ifCond .eq 24, 3) := by decide +kernel
theorem dX5_isA_4 : decode cX5_isA 4 = .ok (.iload_n 1, 1) := by decide +kernel
theorem dX5_isA_5 : decode cX5_isA 5 = .ok (.aload_n 0, 1) := by decide +kernel
theorem dX5_isA_6 : decode cX5_isA 6 = .ok (.getfield 15, 3) := by decide +kernel
theorem dX5_isA_9 : decode cX5_isA 9 = .ok (.if_icmp .eq 16, 3) := by decide +kernel
theorem dX5_isA_12 : decode cX5_isA 12 = .ok (.iload_n 1, 1) := by decide +kernel
theorem dX5_isA_13 : decode cX5_isA 13 = .ok (.iconst 3, 1) := by decide +kernel
theorem dX5_isA_14 : decode cX5_isA 14 = .ok (.if_icmp .ne 15, 3) := by decide +kernel
theorem dX5_isA_17 : decode cX5_isA 17 = .ok (.aload_n 0, 1) := by decide +kernel
theorem dX5_isA_18 : decode cX5_isA 18 = .ok (.getfield 15, 3) := by decide +kernel
theorem dX5_isA_21 : decode cX5_isA 21 = .ok (.iconst 4, 1) := by decide +kernel
theorem dX5_isA_22 : decode cX5_isA 22 = .ok (.if_icmp .ne 7, 3) := by decide +kernel
theorem dX5_isA_25 : decode cX5_isA 25 = .ok (.iconst 1, 1) := by decide +kernel
theorem dX5_isA_26 : decode cX5_isA 26 = .ok (.goto 4, 3) := by decide +kernel
theorem dX5_isA_29 : decode cX5_isA 29 = .ok (.iconst 0, 1) := by decide +kernel
theorem dX5_isA_30 : decode cX5_isA 30 = .ok (.ireturn, 1) := by decide +kernel
set_option maxHeartbeats 4000000 in
set_option maxRecDepth 100000 in
theorem c_X5_isA {l : Launch} {g : GW} {z κ p c : Nat} {v t : Int32} {q : Nat} (μ : Mm) (hz : z < 88) (hzt : kt z = 5) (hZ : ShR μ z κ p c v t) (hq : q ≤ 4) : Con l g yX5_isA cX5_isA 2 (some .boolean) 0 [.ref z, .int (nI q)] μ (fun r μ' => r = some (.int (bI (q == 0 || q == κ || (q == 3 && κ == 4)))) ∧ μ' = μ) := by
  obtain ⟨z1, z2, z3, z4, z5, z6, z7, z8⟩ := hZ
  refine Con.of [.ref z, .int (nI q)] 0 (by decide +kernel) (Nat.le_of_ble_eq_true rfl) rfl ?_
  refine V_iload_n (pc := 0) dX5_isA_0 rfl rfl ?_
  refine V_ifeq (pc := 1) (tgt := 25) dX5_isA_1 (by decide) (fun h1 => ?_) (fun h1 => ?_)
  · have h1 := (nI_eq (a := q) (b := 0) (by omega) (by omega)).mp h1
    refine V_iconst (pc := 25) (v := 1) dX5_isA_25 (by decide) ?_
    refine V_goto (pc := 26) (tgt := 30) dX5_isA_26 (by decide) ?_
    refine V_zret (pc := 30) dX5_isA_30 rfl (by first | exact Or.inl rfl | exact Or.inr rfl | assumption) ?_
    exact ⟨congrArg (fun z => some (Value.int z)) (by simp_all [bI]), rfl⟩
  have h1 := mt (nI_eq (a := q) (b := 0) (by omega) (by omega)).mpr h1
  refine V_iload_n (pc := 4) dX5_isA_4 rfl rfl ?_
  refine V_aload_n (pc := 5) dX5_isA_5 rfl rfl ?_
  refine V_getI (pc := 6) (ci := 5) (j := 0) dX5_isA_6 fl_X5_15 (fun _ _ _ _ => rfl) (by first | decide | omega) (by first | rfl | assumption | decide) ?_
  refine V_icmpeq (pc := 9) (tgt := 25) dX5_isA_9 (by decide) (fun h9 => ?_) (fun h9 => ?_)
  · rw [z1] at h9; have h9 := (nI_eq (a := q) (b := κ) (by omega) (by omega)).mp h9
    refine V_iconst (pc := 25) (v := 1) dX5_isA_25 (by decide) ?_
    refine V_goto (pc := 26) (tgt := 30) dX5_isA_26 (by decide) ?_
    refine V_zret (pc := 30) dX5_isA_30 rfl (by first | exact Or.inl rfl | exact Or.inr rfl | assumption) ?_
    exact ⟨congrArg (fun z => some (Value.int z)) (by simp_all [bI]), rfl⟩
  rw [z1] at h9; have h9 := mt (nI_eq (a := q) (b := κ) (by omega) (by omega)).mpr h9
  refine V_iload_n (pc := 12) dX5_isA_12 rfl rfl ?_
  refine V_iconst (pc := 13) (v := 3) dX5_isA_13 (by decide) ?_
  refine V_icmpne (pc := 14) (tgt := 29) dX5_isA_14 (by decide) (fun h14 => ?_) (fun h14 => ?_)
  · have h14 := mt (nI_eq (a := q) (b := 3) (by omega) (by omega)).mpr h14
    refine V_iconst (pc := 29) (v := 0) dX5_isA_29 (by decide) ?_
    refine V_zret (pc := 30) dX5_isA_30 rfl (by first | exact Or.inl rfl | exact Or.inr rfl | assumption) ?_
    exact ⟨congrArg (fun z => some (Value.int z)) (by simp_all [bI]), rfl⟩
  have h14 := (nI_eq (a := q) (b := 3) (by omega) (by omega)).mp h14
  refine V_aload_n (pc := 17) dX5_isA_17 rfl rfl ?_
  refine V_getI (pc := 18) (ci := 5) (j := 0) dX5_isA_18 fl_X5_15 (fun _ _ _ _ => rfl) (by first | decide | omega) (by first | rfl | assumption | decide) ?_
  refine V_iconst (pc := 21) (v := 4) dX5_isA_21 (by decide) ?_
  refine V_icmpne (pc := 22) (tgt := 29) dX5_isA_22 (by decide) (fun h22 => ?_) (fun h22 => ?_)
  · rw [z1] at h22; have h22 := mt (nI_eq (a := κ) (b := 4) (by omega) (by omega)).mpr h22
    refine V_iconst (pc := 29) (v := 0) dX5_isA_29 (by decide) ?_
    refine V_zret (pc := 30) dX5_isA_30 rfl (by first | exact Or.inl rfl | exact Or.inr rfl | assumption) ?_
    exact ⟨congrArg (fun z => some (Value.int z)) (by simp_all [bI]), rfl⟩
  rw [z1] at h22; have h22 := (nI_eq (a := κ) (b := 4) (by omega) (by omega)).mp h22
  refine V_iconst (pc := 25) (v := 1) dX5_isA_25 (by decide) ?_
  refine V_goto (pc := 26) (tgt := 30) dX5_isA_26 (by decide) ?_
  refine V_zret (pc := 30) dX5_isA_30 rfl (by first | exact Or.inl rfl | exact Or.inr rfl | assumption) ?_
  exact ⟨congrArg (fun z => some (Value.int z)) (by simp_all [bI]), rfl⟩
theorem dX5_tell_0 : decode cX5_tell 0 = .ok (.iload_n 1, 1) := by decide +kernel
theorem dX5_tell_1 : decode cX5_tell 1 = .ok (.tableswitch 51 0 3 #[31, 36, 41, 46], 31) := by decide +kernel
theorem dX5_tell_32 : decode cX5_tell 32 = .ok (.aload_n 0, 1) := by decide +kernel
theorem dX5_tell_33 : decode cX5_tell 33 = .ok (.getfield 15, 3) := by decide +kernel
theorem dX5_tell_36 : decode cX5_tell 36 = .ok (.ireturn, 1) := by decide +kernel
theorem dX5_tell_37 : decode cX5_tell 37 = .ok (.aload_n 0, 1) := by decide +kernel
theorem dX5_tell_38 : decode cX5_tell 38 = .ok (.getfield 18, 3) := by decide +kernel
theorem dX5_tell_41 : decode cX5_tell 41 = .ok (.ireturn, 1) := by decide +kernel
theorem dX5_tell_42 : decode cX5_tell 42 = .ok (.aload_n 0, 1) := by decide +kernel
theorem dX5_tell_43 : decode cX5_tell 43 = .ok (.getfield 9, 3) := by decide +kernel
theorem dX5_tell_46 : decode cX5_tell 46 = .ok (.ireturn, 1) := by decide +kernel
theorem dX5_tell_47 : decode cX5_tell 47 = .ok (.aload_n 0, 1) := by decide +kernel
theorem dX5_tell_48 : decode cX5_tell 48 = .ok (.getfield 21, 3) := by decide +kernel
theorem dX5_tell_51 : decode cX5_tell 51 = .ok (.ireturn, 1) := by decide +kernel
theorem dX5_tell_52 : decode cX5_tell 52 = .ok (.aload_n 0, 1) := by decide +kernel
theorem dX5_tell_53 : decode cX5_tell 53 = .ok (.getfield 24, 3) := by decide +kernel
theorem dX5_tell_56 : decode cX5_tell 56 = .ok (.ireturn, 1) := by decide +kernel
set_option maxHeartbeats 4000000 in
set_option maxRecDepth 100000 in
theorem c_X5_tell {l : Launch} {g : GW} {z q : Nat} (μ : Mm) (hz : z < 88) (hzt : kt z = 5) (hq : q ≤ 4) : Con l g yX5_tell cX5_tell 2 (some .int) 0 [.ref z, .int (nI q)] μ (fun r μ' => r = some (.int (μ.1 z q)) ∧ μ' = μ) := by
  refine Con.of [.ref z, .int (nI q)] 0 (by decide +kernel) (Nat.le_of_ble_eq_true rfl) rfl ?_
  refine V_iload_n (pc := 0) dX5_tell_0 rfl rfl ?_
  have hsel : q = 0 ∨ q = 1 ∨ q = 2 ∨ q = 3 ∨ q = 4 := by omega
  rcases hsel with hs1 | hs1 | hs1 | hs1 | hs1
  · subst hs1
    refine V_tsIn (pc := 1) (off := 31) (tgt := 32) dX5_tell_1 (by decide) (by decide) (by decide) (by decide) ?_
    refine V_aload_n (pc := 32) dX5_tell_32 rfl rfl ?_
    refine V_getI (pc := 33) (ci := 5) (j := 0) dX5_tell_33 fl_X5_15 (fun _ _ _ _ => rfl) (by first | decide | omega) (by first | rfl | assumption | decide) ?_
    refine V_iret (pc := 36) dX5_tell_36 rfl ?_
    exact ⟨rfl, rfl⟩
  · subst hs1
    refine V_tsIn (pc := 1) (off := 36) (tgt := 37) dX5_tell_1 (by decide) (by decide) (by decide) (by decide) ?_
    refine V_aload_n (pc := 37) dX5_tell_37 rfl rfl ?_
    refine V_getI (pc := 38) (ci := 5) (j := 1) dX5_tell_38 fl_X5_18 (fun _ _ _ _ => rfl) (by first | decide | omega) (by first | rfl | assumption | decide) ?_
    refine V_iret (pc := 41) dX5_tell_41 rfl ?_
    exact ⟨rfl, rfl⟩
  · subst hs1
    refine V_tsIn (pc := 1) (off := 41) (tgt := 42) dX5_tell_1 (by decide) (by decide) (by decide) (by decide) ?_
    refine V_aload_n (pc := 42) dX5_tell_42 rfl rfl ?_
    refine V_getI (pc := 43) (ci := 5) (j := 2) dX5_tell_43 fl_X5_9 (fun _ _ _ _ => rfl) (by first | decide | omega) (by first | rfl | assumption | decide) ?_
    refine V_iret (pc := 46) dX5_tell_46 rfl ?_
    exact ⟨rfl, rfl⟩
  · subst hs1
    refine V_tsIn (pc := 1) (off := 46) (tgt := 47) dX5_tell_1 (by decide) (by decide) (by decide) (by decide) ?_
    refine V_aload_n (pc := 47) dX5_tell_47 rfl rfl ?_
    refine V_getI (pc := 48) (ci := 5) (j := 3) dX5_tell_48 fl_X5_21 (fun _ _ _ _ => rfl) (by first | decide | omega) (by first | rfl | assumption | decide) ?_
    refine V_iret (pc := 51) dX5_tell_51 rfl ?_
    exact ⟨rfl, rfl⟩
  subst hs1
  refine V_tsOut (pc := 1) (tgt := 52) dX5_tell_1 (by decide) (by decide) ?_
  refine V_aload_n (pc := 52) dX5_tell_52 rfl rfl ?_
  refine V_getI (pc := 53) (ci := 5) (j := 4) dX5_tell_53 fl_X5_24 (fun _ _ _ _ => rfl) (by first | decide | omega) (by first | rfl | assumption | decide) ?_
  refine V_iret (pc := 56) dX5_tell_56 rfl ?_
  exact ⟨rfl, rfl⟩
theorem dX4_isSpent_0 : decode cX4_isSpent 0 = .ok (.aload_n 0, 1) := by decide +kernel
theorem dX4_isSpent_1 : decode cX4_isSpent 1 = .ok (.getfield 35, 3) := by decide +kernel
theorem dX4_isSpent_4 : decode cX4_isSpent 4 = .ok (.iload_n 1, 1) := by decide +kernel
theorem dX4_isSpent_5 : decode cX4_isSpent 5 = .ok (.ishr, 1) := by decide +kernel
theorem dX4_isSpent_6 : decode cX4_isSpent 6 = .ok (.iconst 1, 1) := by decide +kernel
theorem dX4_isSpent_7 : decode cX4_isSpent 7 = .ok (.iand, 1) := by decide +kernel
theorem dX4_isSpent_8 : decode cX4_isSpent 8 = .ok (.iconst 1, 1) := by decide +kernel
theorem dX4_isSpent_9 : decode cX4_isSpent 9 = .ok (.if_icmp .ne 7, 3) := by decide +kernel
theorem dX4_isSpent_12 : decode cX4_isSpent 12 = .ok (.iconst 1, 1) := by decide +kernel
theorem dX4_isSpent_13 : decode cX4_isSpent 13 = .ok (.goto 4, 3) := by decide +kernel
theorem dX4_isSpent_16 : decode cX4_isSpent 16 = .ok (.iconst 0, 1) := by decide +kernel
theorem dX4_isSpent_17 : decode cX4_isSpent 17 = .ok (.ireturn, 1) := by decide +kernel
set_option maxHeartbeats 4000000 in
set_option maxRecDepth 100000 in
theorem c_X4_isSpent {l : Launch} {g : GW} {s n : Nat} {σ : SeaT} (μ : Mm) (hs : s = 4 ∨ s = 13 ∨ s = 22) (hS : SeaR μ s σ) (hn : n < 6) : Con l g yX4_isSpent cX4_isSpent 2 (some .boolean) 0 [.ref s, .int (nI n)] μ (fun r μ' => r = some (.int (bI ((sS σ).testBit n))) ∧ μ' = μ) := by
  obtain ⟨hs1, hs2, hs3, hs4, hs5, hs6, hrow⟩ := seaF hs
  obtain ⟨r1, r2, r3, r4, r5, r6, r7, r8, r9⟩ := hS
  refine Con.of [.ref s, .int (nI n)] 0 (by decide +kernel) (Nat.le_of_ble_eq_true rfl) rfl ?_
  refine V_aload_n (pc := 0) dX4_isSpent_0 rfl rfl ?_
  refine V_getI (pc := 1) (ci := 4) (j := 3) dX4_isSpent_1 fl_X4_35 (fun _ _ _ _ => rfl) (by first | decide | omega) (by first | rfl | assumption | decide) ?_
  refine V_iload_n (pc := 4) dX4_isSpent_4 rfl rfl ?_
  refine V_ishr (pc := 5) dX4_isSpent_5 ?_
  refine V_iconst (pc := 6) (v := 1) dX4_isSpent_6 (by decide) ?_
  refine V_iand (pc := 7) dX4_isSpent_7 ?_
  refine V_iconst (pc := 8) (v := 1) dX4_isSpent_8 (by decide) ?_
  refine V_icmpne (pc := 9) (tgt := 16) dX4_isSpent_9 (by decide) (fun h9 => ?_) (fun h9 => ?_)
  · rw [r3, bit_get _ r4 _ hn] at h9
    refine V_iconst (pc := 16) (v := 0) dX4_isSpent_16 (by decide) ?_
    refine V_zret (pc := 17) dX4_isSpent_17 rfl (by first | exact Or.inl rfl | exact Or.inr rfl | assumption) ?_
    exact ⟨congrArg (fun z => some (Value.int z)) (by cases hq : (sS σ).testBit n <;> simp_all [bI]), rfl⟩
  rw [r3, bit_get _ r4 _ hn] at h9
  refine V_iconst (pc := 12) (v := 1) dX4_isSpent_12 (by decide) ?_
  refine V_goto (pc := 13) (tgt := 17) dX4_isSpent_13 (by decide) ?_
  refine V_zret (pc := 17) dX4_isSpent_17 rfl (by first | exact Or.inl rfl | exact Or.inr rfl | assumption) ?_
  exact ⟨congrArg (fun z => some (Value.int z)) (by cases hq : (sS σ).testBit n <;> simp_all [bI]), rfl⟩
theorem dX4_freeNames_0 : decode cX4_freeNames 0 = .ok (.bipush 63, 2) := by decide +kernel
theorem dX4_freeNames_2 : decode cX4_freeNames 2 = .ok (.aload_n 0, 1) := by decide +kernel
theorem dX4_freeNames_3 : decode cX4_freeNames 3 = .ok (.getfield 35, 3) := by decide +kernel
theorem dX4_freeNames_6 : decode cX4_freeNames 6 = .ok (.iconst (-1), 1) := by decide +kernel
theorem dX4_freeNames_7 : decode cX4_freeNames 7 = .ok (.ixor, 1) := by decide +kernel
theorem dX4_freeNames_8 : decode cX4_freeNames 8 = .ok (.iand, 1) := by decide +kernel
theorem dX4_freeNames_9 : decode cX4_freeNames 9 = .ok (.ireturn, 1) := by decide +kernel
set_option maxHeartbeats 4000000 in
set_option maxRecDepth 100000 in
theorem c_X4_freeNames {l : Launch} {g : GW} {s : Nat} {σ : SeaT} (μ : Mm) (hs : s = 4 ∨ s = 13 ∨ s = 22) (hS : SeaR μ s σ) : Con l g yX4_freeNames cX4_freeNames 1 (some .int) 0 [.ref s] μ (fun r μ' => r = some (.int (nI (63 - sS σ))) ∧ μ' = μ) := by
  obtain ⟨hs1, hs2, hs3, hs4, hs5, hs6, hrow⟩ := seaF hs
  obtain ⟨r1, r2, r3, r4, r5, r6, r7, r8, r9⟩ := hS
  refine Con.of [.ref s] 0 (by decide +kernel) (Nat.le_of_ble_eq_true rfl) rfl ?_
  refine V_bipush (pc := 0) (v := 63) dX4_freeNames_0 (by decide) ?_
  refine V_aload_n (pc := 2) dX4_freeNames_2 rfl rfl ?_
  refine V_getI (pc := 3) (ci := 4) (j := 3) dX4_freeNames_3 fl_X4_35 (fun _ _ _ _ => rfl) (by first | decide | omega) (by first | rfl | assumption | decide) ?_
  refine V_iconst (pc := 6) (v := (-1)) dX4_freeNames_6 (by decide) ?_
  refine V_ixor (pc := 7) dX4_freeNames_7 ?_
  refine V_iand (pc := 8) dX4_freeNames_8 ?_
  refine V_iret (pc := 9) dX4_freeNames_9 rfl ?_
  exact ⟨congrArg (fun z => some (Value.int z)) (by rw [r3, bit_free _ r4]), rfl⟩
theorem dX4_homeCount_0 : decode cX4_homeCount 0 = .ok (.iconst 0, 1) := by decide +kernel
theorem dX4_homeCount_1 : decode cX4_homeCount 1 = .ok (.istore_n 1, 1) := by decide +kernel
theorem dX4_homeCount_2 : decode cX4_homeCount 2 = .ok (.iconst 0, 1) := by decide +kernel
theorem dX4_homeCount_3 : decode cX4_homeCount 3 = .ok (.istore_n 2, 1) := by decide +kernel
theorem dX4_homeCount_4 : decode cX4_homeCount 4 = .ok (.iload_n 2, 1) := by decide +kernel
theorem dX4_homeCount_5 : decode cX4_homeCount 5 = .ok (.aload_n 0, 1) := by decide +kernel
theorem dX4_homeCount_6 : decode cX4_homeCount 6 = .ok (.getfield 31, 3) := by decide +kernel
theorem dX4_homeCount_9 : decode cX4_homeCount 9 = .ok (.if_icmp .ge 26, 3) := by decide +kernel
theorem dX4_homeCount_12 : decode cX4_homeCount 12 = .ok (.aload_n 0, 1) := by decide +kernel
theorem dX4_homeCount_13 : decode cX4_homeCount 13 = .ok (.getfield 11, 3) := by decide +kernel
theorem dX4_homeCount_16 : decode cX4_homeCount 16 = .ok (.iload_n 2, 1) := by decide +kernel
theorem dX4_homeCount_17 : decode cX4_homeCount 17 = .ok (.aaload, 1) := by decide +kernel
theorem dX4_homeCount_18 : decode cX4_homeCount 18 = .ok (.getfield 64, 3) := by decide +kernel
theorem dX4_homeCount_21 : decode cX4_homeCount 21 = .ok (.bipush 9, 2) := by decide +kernel
theorem dX4_homeCount_23 : decode cX4_homeCount 23 = .ok (.if_icmp .ne 6, 3) := by decide +kernel
theorem dX4_homeCount_26 : decode cX4_homeCount 26 = .ok (.iinc 1 1, 3) := by decide +kernel
theorem dX4_homeCount_29 : decode cX4_homeCount 29 = .ok (.iinc 2 1, 3) := by decide +kernel
theorem dX4_homeCount_32 : decode cX4_homeCount 32 = .ok (.goto (-28), 3) := by decide +kernel
theorem dX4_homeCount_35 : decode cX4_homeCount 35 = .ok (.iload_n 1, 1) := by decide +kernel
theorem dX4_homeCount_36 : decode cX4_homeCount 36 = .ok (.ireturn, 1) := by decide +kernel
set_option maxHeartbeats 4000000 in
set_option maxRecDepth 100000 in
theorem c_X4_homeCount {l : Launch} {g : GW} {s : Nat} {σ : SeaT} (μ : Mm) (hs : s = 4 ∨ s = 13 ∨ s = 22) (hS : SeaR μ s σ) : Con l g yX4_homeCount cX4_homeCount 3 (some .int) 0 [.ref s] μ (fun r μ' => r = some (.int (nI (homeT (sP σ) (sN σ)))) ∧ μ' = μ) := by
  obtain ⟨hs1, hs2, hs3, hs4, hs5, hs6, hrow⟩ := seaF hs
  obtain ⟨r1, r2, r3, r4, r5, r6, r7, r8, r9⟩ := hS
  refine Con.of [.ref s, .null, .null] 2 (by decide +kernel) (Nat.le_of_ble_eq_true rfl) rfl ?_
  refine V_iconst (pc := 0) (v := 0) dX4_homeCount_0 (by decide) ?_
  refine V_istore1 (pc := 1) dX4_homeCount_1 (by decide) rfl ?_
  refine V_iconst (pc := 2) (v := 0) dX4_homeCount_2 (by decide) ?_
  refine V_istore2 (pc := 3) dX4_homeCount_3 (by decide) rfl ?_
  have loop : ∀ (n i : Nat) (acc : Int32), i ≤ sN σ → sN σ < i + n → (acc = nI (homeT (sP σ) i)) → V l g RX4 cX4_homeCount 3 (some .int) 0 4 [.ref s, .int acc, .int (nI i)] [] μ (fun r μ' => r = some (.int (nI (homeT (sP σ) (sN σ)))) ∧ μ' = μ) := by
    intro n
    induction n with
    | zero => intro i acc h1 h2; exact absurd h2 (by omega)
    | succ n ih =>
      intro i acc hle hfu hacc
      refine V_iload_n (pc := 4) dX4_homeCount_4 rfl rfl ?_
      refine V_aload_n (pc := 5) dX4_homeCount_5 rfl rfl ?_
      refine V_getI (pc := 6) (ci := 4) (j := 2) dX4_homeCount_6 fl_X4_31 (fun _ _ _ _ => rfl) (by first | decide | omega) (by first | rfl | assumption | exact (hrow _ (by omega)).2 | decide) ?_
      refine V_icmpge (pc := 9) (tgt := 35) dX4_homeCount_9 (by decide) (fun h9 => ?_) (fun h9 => ?_)
      · rw [r1, nI_leI (by omega) (by omega)] at h9; obtain rfl : i = sN σ := by omega
        refine V_iload_n (pc := 35) dX4_homeCount_35 rfl rfl ?_
        refine V_iret (pc := 36) dX4_homeCount_36 rfl ?_
        exact ⟨by rw [hacc], rfl⟩
      rw [r1, nI_leI (by omega) (by omega)] at h9; have hlt : i < sN σ := (by omega); obtain ⟨z1, z2, z3, z4, -⟩ := r8 i (by omega)
      refine V_aload_n (pc := 12) dX4_homeCount_12 rfl rfl ?_
      refine V_getR (pc := 13) (ci := 4) (j := 0) (k2 := (s + 1)) dX4_homeCount_13 fl_X4_11 (fun _ _ _ _ => rfl) (by first | decide | omega) (by first | rfl | assumption | exact (hrow _ (by omega)).2 | decide) (rf_4_0 (by first | rfl | assumption | exact (hrow _ (by omega)).2 | decide)) ?_
      refine V_iload_n (pc := 16) dX4_homeCount_16 rfl rfl ?_
      refine V_aald14 (pc := 17) (j := i) dX4_homeCount_17 (by first | decide | omega) (by first | rfl | assumption | exact (hrow _ (by omega)).2 | decide) rfl (by omega) ?_
      refine V_getI (pc := 18) (ci := 5) (j := 1) dX4_homeCount_18 fl_X4_64 (fun _ _ _ _ => rfl) (by first | decide | omega) (by first | rfl | assumption | exact (hrow _ (by omega)).2 | decide) ?_
      refine V_bipush (pc := 21) (v := 9) dX4_homeCount_21 (by decide) ?_
      refine V_icmpne (pc := 23) (tgt := 29) dX4_homeCount_23 (by decide) (fun h23 => ?_) (fun h23 => ?_)
      · rw [z3] at h23; have h23 := mt (nI_eq (a := sP σ i) (b := 9) (by omega) (by omega)).mpr h23
        refine V_iinc2 (pc := 29) (v := nI (i + 1)) dX4_homeCount_29 (nI_1 i) (by decide) rfl ?_
        refine V_goto (pc := 32) (tgt := 4) dX4_homeCount_32 (by decide) ?_
        exact ih (i + 1) _ (by omega) (by omega) (by show _ = nI (homeT (sP σ) i + if sP σ i = 9 then 1 else 0); first | rw [if_neg h23, hacc, Nat.add_zero] | (rw [if_pos h23, hacc]; exact nI_1 _))
      rw [z3] at h23; have h23 := (nI_eq (a := sP σ i) (b := 9) (by omega) (by omega)).mp h23
      refine V_iinc1 (pc := 26) dX4_homeCount_26 rfl (by decide) rfl ?_
      refine V_iinc2 (pc := 29) (v := nI (i + 1)) dX4_homeCount_29 (nI_1 i) (by decide) rfl ?_
      refine V_goto (pc := 32) (tgt := 4) dX4_homeCount_32 (by decide) ?_
      exact ih (i + 1) _ (by omega) (by omega) (by show _ = nI (homeT (sP σ) i + if sP σ i = 9 then 1 else 0); first | rw [if_neg h23, hacc, Nat.add_zero] | (rw [if_pos h23, hacc]; exact nI_1 _))
  exact loop (sN σ + 1) 0 _ (by omega) (by omega) rfl
theorem dX4_placesTogether_0 : decode cX4_placesTogether 0 = .ok (.iconst 0, 1) := by decide +kernel
theorem dX4_placesTogether_1 : decode cX4_placesTogether 1 = .ok (.istore_n 1, 1) := by decide +kernel
theorem dX4_placesTogether_2 : decode cX4_placesTogether 2 = .ok (.iconst 0, 1) := by decide +kernel
theorem dX4_placesTogether_3 : decode cX4_placesTogether 3 = .ok (.istore_n 2, 1) := by decide +kernel
theorem dX4_placesTogether_4 : decode cX4_placesTogether 4 = .ok (.iload_n 2, 1) := by decide +kernel
theorem dX4_placesTogether_5 : decode cX4_placesTogether 5 = .ok (.aload_n 0, 1) := by decide +kernel
theorem dX4_placesTogether_6 : decode cX4_placesTogether 6 = .ok (.getfield 31, 3) := by decide +kernel
theorem dX4_placesTogether_9 : decode cX4_placesTogether 9 = .ok (.if_icmp .ge 21, 3) := by decide +kernel
theorem dX4_placesTogether_12 : decode cX4_placesTogether 12 = .ok (.iload_n 1, 1) := by decide +kernel
theorem dX4_placesTogether_13 : decode cX4_placesTogether 13 = .ok (.aload_n 0, 1) := by decide +kernel
theorem dX4_placesTogether_14 : decode cX4_placesTogether 14 = .ok (.getfield 11, 3) := by decide +kernel
theorem dX4_placesTogether_17 : decode cX4_placesTogether 17 = .ok (.iload_n 2, 1) := by decide +kernel
theorem dX4_placesTogether_18 : decode cX4_placesTogether 18 = .ok (.aaload, 1) := by decide +kernel
theorem dX4_placesTogether_19 : decode cX4_placesTogether 19 = .ok (.getfield 64, 3) := by decide +kernel
theorem dX4_placesTogether_22 : decode cX4_placesTogether 22 = .ok (.iadd, 1) := by decide +kernel
theorem dX4_placesTogether_23 : decode cX4_placesTogether 23 = .ok (.istore_n 1, 1) := by decide +kernel
theorem dX4_placesTogether_24 : decode cX4_placesTogether 24 = .ok (.iinc 2 1, 3) := by decide +kernel
theorem dX4_placesTogether_27 : decode cX4_placesTogether 27 = .ok (.goto (-23), 3) := by decide +kernel
theorem dX4_placesTogether_30 : decode cX4_placesTogether 30 = .ok (.iload_n 1, 1) := by decide +kernel
theorem dX4_placesTogether_31 : decode cX4_placesTogether 31 = .ok (.ireturn, 1) := by decide +kernel
set_option maxHeartbeats 4000000 in
set_option maxRecDepth 100000 in
theorem c_X4_placesTogether {l : Launch} {g : GW} {s : Nat} {σ : SeaT} (μ : Mm) (hs : s = 4 ∨ s = 13 ∨ s = 22) (hS : SeaR μ s σ) : Con l g yX4_placesTogether cX4_placesTogether 3 (some .int) 0 [.ref s] μ (fun r μ' => r = some (.int (nI (sumP (sP σ) (sN σ)))) ∧ μ' = μ) := by
  obtain ⟨hs1, hs2, hs3, hs4, hs5, hs6, hrow⟩ := seaF hs
  obtain ⟨r1, r2, r3, r4, r5, r6, r7, r8, r9⟩ := hS
  refine Con.of [.ref s, .null, .null] 2 (by decide +kernel) (Nat.le_of_ble_eq_true rfl) rfl ?_
  refine V_iconst (pc := 0) (v := 0) dX4_placesTogether_0 (by decide) ?_
  refine V_istore1 (pc := 1) dX4_placesTogether_1 (by decide) rfl ?_
  refine V_iconst (pc := 2) (v := 0) dX4_placesTogether_2 (by decide) ?_
  refine V_istore2 (pc := 3) dX4_placesTogether_3 (by decide) rfl ?_
  have loop : ∀ (n i : Nat) (acc : Int32), i ≤ sN σ → sN σ < i + n → (acc = nI (sumP (sP σ) i)) → V l g RX4 cX4_placesTogether 3 (some .int) 0 4 [.ref s, .int acc, .int (nI i)] [] μ (fun r μ' => r = some (.int (nI (sumP (sP σ) (sN σ)))) ∧ μ' = μ) := by
    intro n
    induction n with
    | zero => intro i acc h1 h2; exact absurd h2 (by omega)
    | succ n ih =>
      intro i acc hle hfu hacc
      refine V_iload_n (pc := 4) dX4_placesTogether_4 rfl rfl ?_
      refine V_aload_n (pc := 5) dX4_placesTogether_5 rfl rfl ?_
      refine V_getI (pc := 6) (ci := 4) (j := 2) dX4_placesTogether_6 fl_X4_31 (fun _ _ _ _ => rfl) (by first | decide | omega) (by first | rfl | assumption | exact (hrow _ (by omega)).2 | decide) ?_
      refine V_icmpge (pc := 9) (tgt := 30) dX4_placesTogether_9 (by decide) (fun h9 => ?_) (fun h9 => ?_)
      · rw [r1, nI_leI (by omega) (by omega)] at h9; obtain rfl : i = sN σ := by omega
        refine V_iload_n (pc := 30) dX4_placesTogether_30 rfl rfl ?_
        refine V_iret (pc := 31) dX4_placesTogether_31 rfl ?_
        exact ⟨by rw [hacc], rfl⟩
      rw [r1, nI_leI (by omega) (by omega)] at h9; have hlt : i < sN σ := (by omega); obtain ⟨z1, z2, z3, z4, -⟩ := r8 i (by omega)
      refine V_iload_n (pc := 12) dX4_placesTogether_12 rfl rfl ?_
      refine V_aload_n (pc := 13) dX4_placesTogether_13 rfl rfl ?_
      refine V_getR (pc := 14) (ci := 4) (j := 0) (k2 := (s + 1)) dX4_placesTogether_14 fl_X4_11 (fun _ _ _ _ => rfl) (by first | decide | omega) (by first | rfl | assumption | exact (hrow _ (by omega)).2 | decide) (rf_4_0 (by first | rfl | assumption | exact (hrow _ (by omega)).2 | decide)) ?_
      refine V_iload_n (pc := 17) dX4_placesTogether_17 rfl rfl ?_
      refine V_aald14 (pc := 18) (j := i) dX4_placesTogether_18 (by first | decide | omega) (by first | rfl | assumption | exact (hrow _ (by omega)).2 | decide) rfl (by omega) ?_
      refine V_getI (pc := 19) (ci := 5) (j := 1) dX4_placesTogether_19 fl_X4_64 (fun _ _ _ _ => rfl) (by first | decide | omega) (by first | rfl | assumption | exact (hrow _ (by omega)).2 | decide) ?_
      refine V_iadd (pc := 22) dX4_placesTogether_22 ?_
      refine V_istore1 (pc := 23) dX4_placesTogether_23 (by decide) rfl ?_
      refine V_iinc2 (pc := 24) (v := nI (i + 1)) dX4_placesTogether_24 (nI_1 i) (by decide) rfl ?_
      refine V_goto (pc := 27) (tgt := 4) dX4_placesTogether_27 (by decide) ?_
      exact ih (i + 1) _ (by omega) (by omega) (by rw [hacc, z3, nI_add]; rfl)
  exact loop (sN σ + 1) 0 _ (by omega) (by omega) rfl
theorem anyC_mono {σ : SeaT} {k i : Nat} : ∀ n, i < n → (sC σ i == k && sK σ i != 4) = true → anyC σ k n = true
  | 0, h, _ => absurd h (by omega)
  | n + 1, h, hq => by
    show (anyC σ k n || _) = true
    by_cases e : i = n
    · subst e; rw [hq, Bool.or_true]
    · rw [anyC_mono n (by omega) hq, Bool.true_or]
theorem dX4_isSpentToday_0 : decode cX4_isSpentToday 0 = .ok (.iconst 0, 1) := by decide +kernel
theorem dX4_isSpentToday_1 : decode cX4_isSpentToday 1 = .ok (.istore_n 2, 1) := by decide +kernel
theorem dX4_isSpentToday_2 : decode cX4_isSpentToday 2 = .ok (.iload_n 2, 1) := by decide +kernel
theorem dX4_isSpentToday_3 : decode cX4_isSpentToday 3 = .ok (.aload_n 0, 1) := by decide +kernel
theorem dX4_isSpentToday_4 : decode cX4_isSpentToday 4 = .ok (.getfield 31, 3) := by decide +kernel
theorem dX4_isSpentToday_7 : decode cX4_isSpentToday 7 = .ok (.if_icmp .ge 24, 3) := by decide +kernel
theorem dX4_isSpentToday_10 : decode cX4_isSpentToday 10 = .ok (.aload_n 0, 1) := by decide +kernel
theorem dX4_isSpentToday_11 : decode cX4_isSpentToday 11 = .ok (.getfield 11, 3) := by decide +kernel
theorem dX4_isSpentToday_14 : decode cX4_isSpentToday 14 = .ok (.iload_n 2, 1) := by decide +kernel
theorem dX4_isSpentToday_15 : decode cX4_isSpentToday 15 = .ok (.aaload, 1) := by decide +kernel
theorem dX4_isSpentToday_16 : decode cX4_isSpentToday 16 = .ok (.iload_n 1, 1) := by decide +kernel
theorem dX4_isSpentToday_17 : decode cX4_isSpentToday 17 = .ok (.invokevirtual 77, 3) := by decide +kernel
theorem dX4_isSpentToday_20 : decode cX4_isSpentToday 20 = .ok (.ifCond .eq 5, 3) := by decide +kernel
theorem dX4_isSpentToday_23 : decode cX4_isSpentToday 23 = .ok (.iconst 1, 1) := by decide +kernel
theorem dX4_isSpentToday_24 : decode cX4_isSpentToday 24 = .ok (.ireturn, 1) := by decide +kernel
theorem dX4_isSpentToday_25 : decode cX4_isSpentToday 25 = .ok (.iinc 2 1, 3) := by decide +kernel
theorem dX4_isSpentToday_28 : decode cX4_isSpentToday 28 = .ok (.goto (-26), 3) := by decide +kernel
theorem dX4_isSpentToday_31 : decode cX4_isSpentToday 31 = .ok (.iconst 0, 1) := by decide +kernel
theorem dX4_isSpentToday_32 : decode cX4_isSpentToday 32 = .ok (.ireturn, 1) := by decide +kernel
set_option maxHeartbeats 4000000 in
set_option maxRecDepth 100000 in
theorem c_X4_isSpentToday {l : Launch} {g : GW} {s k : Nat} {σ : SeaT} (μ : Mm) (hs : s = 4 ∨ s = 13 ∨ s = 22) (hS : SeaR μ s σ) (hk : k ≤ 6) : Con l g yX4_isSpentToday cX4_isSpentToday 3 (some .boolean) 1 [.ref s, .int (cI k)] μ (fun r μ' => r = some (.int (bI (anyC σ k (sN σ)))) ∧ μ' = μ) := by
  obtain ⟨hs1, hs2, hs3, hs4, hs5, hs6, hrow⟩ := seaF hs
  obtain ⟨r1, r2, r3, r4, r5, r6, r7, r8, r9⟩ := hS
  refine Con.of [.ref s, .int (cI k), .null] 1 (by decide +kernel) (Nat.le_of_ble_eq_true rfl) rfl ?_
  refine V_iconst (pc := 0) (v := 0) dX4_isSpentToday_0 (by decide) ?_
  refine V_istore2 (pc := 1) dX4_isSpentToday_1 (by decide) rfl ?_
  have loop : ∀ (n i : Nat) , i ≤ sN σ → sN σ < i + n → (anyC σ k i = false) → V l g RX4 cX4_isSpentToday 3 (some .boolean) 1 2 [.ref s, .int (cI k), .int (nI i)] [] μ (fun r μ' => r = some (.int (bI (anyC σ k (sN σ)))) ∧ μ' = μ) := by
    intro n
    induction n with
    | zero => intro i  h1 h2; exact absurd h2 (by omega)
    | succ n ih =>
      intro i  hle hfu hacc
      refine V_iload_n (pc := 2) dX4_isSpentToday_2 rfl rfl ?_
      refine V_aload_n (pc := 3) dX4_isSpentToday_3 rfl rfl ?_
      refine V_getI (pc := 4) (ci := 4) (j := 2) dX4_isSpentToday_4 fl_X4_31 (fun _ _ _ _ => rfl) (by first | decide | omega) (by first | rfl | assumption | exact (hrow _ (by omega)).2 | decide) ?_
      refine V_icmpge (pc := 7) (tgt := 31) dX4_isSpentToday_7 (by decide) (fun h7 => ?_) (fun h7 => ?_)
      · rw [r1, nI_leI (by omega) (by omega)] at h7; obtain rfl : i = sN σ := by omega
        refine V_iconst (pc := 31) (v := 0) dX4_isSpentToday_31 (by decide) ?_
        refine V_zret (pc := 32) dX4_isSpentToday_32 rfl (by first | exact Or.inl rfl | exact Or.inr rfl | assumption) ?_
        exact ⟨by rw [hacc]; rfl, rfl⟩
      rw [r1, nI_leI (by omega) (by omega)] at h7; have hlt : i < sN σ := by omega
      refine V_aload_n (pc := 10) dX4_isSpentToday_10 rfl rfl ?_
      refine V_getR (pc := 11) (ci := 4) (j := 0) (k2 := (s + 1)) dX4_isSpentToday_11 fl_X4_11 (fun _ _ _ _ => rfl) (by first | decide | omega) (by first | rfl | assumption | exact (hrow _ (by omega)).2 | decide) (rf_4_0 (by first | rfl | assumption | exact (hrow _ (by omega)).2 | decide)) ?_
      refine V_iload_n (pc := 14) dX4_isSpentToday_14 rfl rfl ?_
      refine V_aald14 (pc := 15) (j := i) dX4_isSpentToday_15 (by first | decide | omega) (by first | rfl | assumption | exact (hrow _ (by omega)).2 | decide) rfl (by omega) ?_
      refine V_iload_n (pc := 16) dX4_isSpentToday_16 rfl rfl ?_
      refine V_inv1 (pc := 17) (ci := 5) dX4_isSpentToday_17 ml_X4_77 (by first | decide | omega) (by first | rfl | assumption | exact (hrow _ (by omega)).2 | decide) ⟨by decide, rfl⟩ (by decide) (Nat.le_of_ble_eq_true rfl) (c_X5_spends μ (by omega) (hrow i (by omega)).2 (r8 i (by omega)) hk) ?_
      rintro _ μ2 ⟨rfl, hμ⟩
      obtain rfl := hμ.symm
      refine V_ifeq (pc := 20) (tgt := 25) dX4_isSpentToday_20 (by decide) (fun h20 => ?_) (fun h20 => ?_)
      · have h20 := (bI_0 _).mp h20
        refine V_iinc2 (pc := 25) (v := nI (i + 1)) dX4_isSpentToday_25 (nI_1 i) (by decide) rfl ?_
        refine V_goto (pc := 28) (tgt := 2) dX4_isSpentToday_28 (by decide) ?_
        exact ih (i + 1) (by omega) (by omega) (by show (anyC σ k i || _) = false; rw [hacc, h20]; rfl)
      have h20 : (sC σ i == k && sK σ i != 4) = true := by cases hf : (sC σ i == k && sK σ i != 4); exact absurd ((bI_0 _).mpr hf) h20; rfl
      refine V_iconst (pc := 23) (v := 1) dX4_isSpentToday_23 (by decide) ?_
      refine V_zret (pc := 24) dX4_isSpentToday_24 rfl (by first | exact Or.inl rfl | exact Or.inr rfl | assumption) ?_
      exact ⟨congrArg (fun z => some (Value.int z)) (by rw [anyC_mono (sN σ) hlt h20]; rfl), rfl⟩
  exact loop (sN σ + 1) 0 (by omega) (by omega) rfl
