theorem dX8_within_0 : decode cX8_within 0 = .ok (.iload_n 0, 1) := by decide +kernel
theorem dX8_within_1 : decode cX8_within 1 = .ok (.iload_n 1, 1) := by decide +kernel
theorem dX8_within_2 : decode cX8_within 2 = .ok (.if_icmp .lt 12, 3) := by decide +kernel
theorem dX8_within_5 : decode cX8_within 5 = .ok (.iload_n 0, 1) := by decide +kernel
theorem dX8_within_6 : decode cX8_within 6 = .ok (.iload_n 2, 1) := by decide +kernel
theorem dX8_within_7 : decode cX8_within 7 = .ok (.if_icmp .gt 7, 3) := by decide +kernel
theorem dX8_within_10 : decode cX8_within 10 = .ok (.iconst 1, 1) := by decide +kernel
theorem dX8_within_11 : decode cX8_within 11 = .ok (.goto 4, 3) := by decide +kernel
theorem dX8_within_14 : decode cX8_within 14 = .ok (.iconst 0, 1) := by decide +kernel
theorem dX8_within_15 : decode cX8_within 15 = .ok (.ireturn, 1) := by decide +kernel
set_option maxHeartbeats 4000000 in
set_option maxRecDepth 100000 in
theorem c_X8_within {l : Launch} {g : GW} {x lo hi : Int32} (μ : Mm)  : Con l g yX8_within cX8_within 3 (some .boolean) 0 [.int x, .int lo, .int hi] μ (fun r μ' => r = some (.int (bI (inW x lo hi))) ∧ μ' = μ) := by
  refine Con.of [.int x, .int lo, .int hi] 0 (by decide +kernel) (Nat.le_of_ble_eq_true rfl) rfl ?_
  refine V_iload_n (pc := 0) dX8_within_0 rfl rfl ?_
  refine V_iload_n (pc := 1) dX8_within_1 rfl rfl ?_
  refine V_icmplt (pc := 2) (tgt := 14) dX8_within_2 (by decide) (fun h2 => ?_) (fun h2 => ?_)
  · refine V_iconst (pc := 14) (v := 0) dX8_within_14 (by decide) ?_
    refine V_zret (pc := 15) dX8_within_15 rfl (by first | exact Or.inl rfl | exact Or.inr rfl | assumption) ?_
    exact ⟨congrArg (fun z => some (Value.int z)) (by simp [inW, bI, *]), rfl⟩
  refine V_iload_n (pc := 5) dX8_within_5 rfl rfl ?_
  refine V_iload_n (pc := 6) dX8_within_6 rfl rfl ?_
  refine V_icmpgt (pc := 7) (tgt := 14) dX8_within_7 (by decide) (fun h7 => ?_) (fun h7 => ?_)
  · refine V_iconst (pc := 14) (v := 0) dX8_within_14 (by decide) ?_
    refine V_zret (pc := 15) dX8_within_15 rfl (by first | exact Or.inl rfl | exact Or.inr rfl | assumption) ?_
    exact ⟨congrArg (fun z => some (Value.int z)) (by simp [inW, bI, *]), rfl⟩
  refine V_iconst (pc := 10) (v := 1) dX8_within_10 (by decide) ?_
  refine V_goto (pc := 11) (tgt := 15) dX8_within_11 (by decide) ?_
  refine V_zret (pc := 15) dX8_within_15 rfl (by first | exact Or.inl rfl | exact Or.inr rfl | assumption) ?_
  exact ⟨congrArg (fun z => some (Value.int z)) (by simp [inW, bI, *]), rfl⟩
theorem dX8_has_0 : decode cX8_has 0 = .ok (.iload_n 0, 1) := by decide +kernel
theorem dX8_has_1 : decode cX8_has 1 = .ok (.iload_n 1, 1) := by decide +kernel
theorem dX8_has_2 : decode cX8_has 2 = .ok (.ishr, 1) := by decide +kernel
theorem dX8_has_3 : decode cX8_has 3 = .ok (.iconst 1, 1) := by decide +kernel
theorem dX8_has_4 : decode cX8_has 4 = .ok (.iand, 1) := by decide +kernel
theorem dX8_has_5 : decode cX8_has 5 = .ok (.iconst 1, 1) := by decide +kernel
theorem dX8_has_6 : decode cX8_has 6 = .ok (.if_icmp .ne 7, 3) := by decide +kernel
theorem dX8_has_9 : decode cX8_has 9 = .ok (.iconst 1, 1) := by decide +kernel
theorem dX8_has_10 : decode cX8_has 10 = .ok (.goto 4, 3) := by decide +kernel
theorem dX8_has_13 : decode cX8_has 13 = .ok (.iconst 0, 1) := by decide +kernel
theorem dX8_has_14 : decode cX8_has 14 = .ok (.ireturn, 1) := by decide +kernel
set_option maxHeartbeats 4000000 in
set_option maxRecDepth 100000 in
theorem c_X8_has {l : Launch} {g : GW} {S n : Nat} (μ : Mm) (hS : S < 64) (hn : n < 6) : Con l g yX8_has cX8_has 2 (some .boolean) 0 [.int (nI S), .int (nI n)] μ (fun r μ' => r = some (.int (bI (S.testBit n))) ∧ μ' = μ) := by
  refine Con.of [.int (nI S), .int (nI n)] 0 (by decide +kernel) (Nat.le_of_ble_eq_true rfl) rfl ?_
  refine V_iload_n (pc := 0) dX8_has_0 rfl rfl ?_
  refine V_iload_n (pc := 1) dX8_has_1 rfl rfl ?_
  refine V_ishr (pc := 2) dX8_has_2 ?_
  refine V_iconst (pc := 3) (v := 1) dX8_has_3 (by decide) ?_
  refine V_iand (pc := 4) dX8_has_4 ?_
  refine V_iconst (pc := 5) (v := 1) dX8_has_5 (by decide) ?_
  refine V_icmpne (pc := 6) (tgt := 13) dX8_has_6 (by decide) (fun h6 => ?_) (fun h6 => ?_)
  · rw [bit_get _ hS _ hn] at h6
    refine V_iconst (pc := 13) (v := 0) dX8_has_13 (by decide) ?_
    refine V_zret (pc := 14) dX8_has_14 rfl (by first | exact Or.inl rfl | exact Or.inr rfl | assumption) ?_
    exact ⟨congrArg (fun z => some (Value.int z)) (by cases hq : S.testBit n <;> simp_all [bI]), rfl⟩
  rw [bit_get _ hS _ hn] at h6
  refine V_iconst (pc := 9) (v := 1) dX8_has_9 (by decide) ?_
  refine V_goto (pc := 10) (tgt := 14) dX8_has_10 (by decide) ?_
  refine V_zret (pc := 14) dX8_has_14 rfl (by first | exact Or.inl rfl | exact Or.inr rfl | assumption) ?_
  exact ⟨congrArg (fun z => some (Value.int z)) (by cases hq : S.testBit n <;> simp_all [bI]), rfl⟩
theorem dX8_size_0 : decode cX8_size 0 = .ok (.iconst 0, 1) := by decide +kernel
theorem dX8_size_1 : decode cX8_size 1 = .ok (.istore_n 1, 1) := by decide +kernel
theorem dX8_size_2 : decode cX8_size 2 = .ok (.iconst 0, 1) := by decide +kernel
theorem dX8_size_3 : decode cX8_size 3 = .ok (.istore_n 2, 1) := by decide +kernel
theorem dX8_size_4 : decode cX8_size 4 = .ok (.iload_n 2, 1) := by decide +kernel
theorem dX8_size_5 : decode cX8_size 5 = .ok (.bipush 6, 2) := by decide +kernel
theorem dX8_size_7 : decode cX8_size 7 = .ok (.if_icmp .ge 17, 3) := by decide +kernel
theorem dX8_size_10 : decode cX8_size 10 = .ok (.iload_n 1, 1) := by decide +kernel
theorem dX8_size_11 : decode cX8_size 11 = .ok (.iload_n 0, 1) := by decide +kernel
theorem dX8_size_12 : decode cX8_size 12 = .ok (.iload_n 2, 1) := by decide +kernel
theorem dX8_size_13 : decode cX8_size 13 = .ok (.ishr, 1) := by decide +kernel
theorem dX8_size_14 : decode cX8_size 14 = .ok (.iconst 1, 1) := by decide +kernel
theorem dX8_size_15 : decode cX8_size 15 = .ok (.iand, 1) := by decide +kernel
theorem dX8_size_16 : decode cX8_size 16 = .ok (.iadd, 1) := by decide +kernel
theorem dX8_size_17 : decode cX8_size 17 = .ok (.istore_n 1, 1) := by decide +kernel
theorem dX8_size_18 : decode cX8_size 18 = .ok (.iinc 2 1, 3) := by decide +kernel
theorem dX8_size_21 : decode cX8_size 21 = .ok (.goto (-17), 3) := by decide +kernel
theorem dX8_size_24 : decode cX8_size 24 = .ok (.iload_n 1, 1) := by decide +kernel
theorem dX8_size_25 : decode cX8_size 25 = .ok (.ireturn, 1) := by decide +kernel
set_option maxHeartbeats 4000000 in
set_option maxRecDepth 100000 in
theorem c_X8_size {l : Launch} {g : GW} {S : Nat} (μ : Mm) (hS : S < 64) : Con l g yX8_size cX8_size 3 (some .int) 0 [.int (nI S)] μ (fun r μ' => r = some (.int (nI (cntB S))) ∧ μ' = μ) := by
  refine Con.of [.int (nI S), .null, .null] 2 (by decide +kernel) (Nat.le_of_ble_eq_true rfl) rfl ?_
  refine V_iconst (pc := 0) (v := 0) dX8_size_0 (by decide) ?_
  refine V_istore1 (pc := 1) dX8_size_1 (by decide) rfl ?_
  refine V_iconst (pc := 2) (v := 0) dX8_size_2 (by decide) ?_
  refine V_istore2 (pc := 3) dX8_size_3 (by decide) rfl ?_
  have loop : ∀ (n i : Nat) (acc : Int32), i ≤ 6 → 6 < i + n → (acc = nI (cntU S i)) → V l g RX8 cX8_size 3 (some .int) 0 4 [.int (nI S), .int acc, .int (nI i)] [] μ (fun r μ' => r = some (.int (nI (cntB S))) ∧ μ' = μ) := by
    intro n
    induction n with
    | zero => intro i acc h1 h2; exact absurd h2 (by omega)
    | succ n ih =>
      intro i acc hle hfu hacc
      refine V_iload_n (pc := 4) dX8_size_4 rfl rfl ?_
      refine V_bipush (pc := 5) (v := 6) dX8_size_5 (by decide) ?_
      refine V_icmpge (pc := 7) (tgt := 24) dX8_size_7 (by decide) (fun h7 => ?_) (fun h7 => ?_)
      · have h7 := (nI_leI (a := 6) (b := i) (by decide) (by omega)).mp h7; obtain rfl : i = 6 := by omega
        refine V_iload_n (pc := 24) dX8_size_24 rfl rfl ?_
        refine V_iret (pc := 25) dX8_size_25 rfl ?_
        exact ⟨by rw [hacc, cntU_6], rfl⟩
      have hlt : i < 6 := nI_l3 (a := 6) (by decide) (by omega) h7
      refine V_iload_n (pc := 10) dX8_size_10 rfl rfl ?_
      refine V_iload_n (pc := 11) dX8_size_11 rfl rfl ?_
      refine V_iload_n (pc := 12) dX8_size_12 rfl rfl ?_
      refine V_ishr (pc := 13) dX8_size_13 ?_
      refine V_iconst (pc := 14) (v := 1) dX8_size_14 (by decide) ?_
      refine V_iand (pc := 15) dX8_size_15 ?_
      refine V_iadd (pc := 16) dX8_size_16 ?_
      rw [bit_get _ hS _ hlt, bI_nI, hacc, nI_add]
      refine V_istore1 (pc := 17) dX8_size_17 (by decide) rfl ?_
      refine V_iinc2 (pc := 18) (v := nI (i + 1)) dX8_size_18 (nI_1 i) (by decide) rfl ?_
      refine V_goto (pc := 21) (tgt := 4) dX8_size_21 (by decide) ?_
      exact ih (i + 1) _ (by omega) (by omega) rfl
  exact loop (6 + 1) 0 _ (by omega) (by omega) rfl
theorem dX8_isName_0 : decode cX8_isName 0 = .ok (.iload_n 0, 1) := by decide +kernel
theorem dX8_isName_1 : decode cX8_isName 1 = .ok (.iconst 0, 1) := by decide +kernel
theorem dX8_isName_2 : decode cX8_isName 2 = .ok (.iconst 5, 1) := by decide +kernel
theorem dX8_isName_3 : decode cX8_isName 3 = .ok (.invokestatic 88, 3) := by decide +kernel
theorem dX8_isName_6 : decode cX8_isName 6 = .ok (.ireturn, 1) := by decide +kernel
set_option maxHeartbeats 4000000 in
set_option maxRecDepth 100000 in
theorem c_X8_isName {l : Launch} {g : GW} {x : Int32} (μ : Mm)  : Con l g yX8_isName cX8_isName 1 (some .boolean) 1 [.int x] μ (fun r μ' => r = some (.int (bI (inN x 6))) ∧ μ' = μ) := by
  refine Con.of [.int x] 0 (by decide +kernel) (Nat.le_of_ble_eq_true rfl) rfl ?_
  refine V_iload_n (pc := 0) dX8_isName_0 rfl rfl ?_
  refine V_iconst (pc := 1) (v := 0) dX8_isName_1 (by decide) ?_
  refine V_iconst (pc := 2) (v := 5) dX8_isName_2 (by decide) ?_
  refine V_ins3 (pc := 3) dX8_isName_3 ml_X8_88 (by first | decide | omega) (Nat.le_of_ble_eq_true rfl) (c_X8_within μ) ?_
  rintro _ μ2 ⟨rfl, hμ⟩
  obtain rfl := hμ.symm
  refine V_zret (pc := 6) dX8_isName_6 rfl (bI_01 _) ?_
  exact ⟨by rw [inW_N (n := 6) (by decide)], rfl⟩
theorem dX8_isPlace_0 : decode cX8_isPlace 0 = .ok (.iload_n 0, 1) := by decide +kernel
theorem dX8_isPlace_1 : decode cX8_isPlace 1 = .ok (.iconst 0, 1) := by decide +kernel
theorem dX8_isPlace_2 : decode cX8_isPlace 2 = .ok (.bipush 9, 2) := by decide +kernel
theorem dX8_isPlace_4 : decode cX8_isPlace 4 = .ok (.invokestatic 88, 3) := by decide +kernel
theorem dX8_isPlace_7 : decode cX8_isPlace 7 = .ok (.ireturn, 1) := by decide +kernel
set_option maxHeartbeats 4000000 in
set_option maxRecDepth 100000 in
theorem c_X8_isPlace {l : Launch} {g : GW} {x : Int32} (μ : Mm)  : Con l g yX8_isPlace cX8_isPlace 1 (some .boolean) 1 [.int x] μ (fun r μ' => r = some (.int (bI (inN x 10))) ∧ μ' = μ) := by
  refine Con.of [.int x] 0 (by decide +kernel) (Nat.le_of_ble_eq_true rfl) rfl ?_
  refine V_iload_n (pc := 0) dX8_isPlace_0 rfl rfl ?_
  refine V_iconst (pc := 1) (v := 0) dX8_isPlace_1 (by decide) ?_
  refine V_bipush (pc := 2) (v := 9) dX8_isPlace_2 (by decide) ?_
  refine V_ins3 (pc := 4) dX8_isPlace_4 ml_X8_88 (by first | decide | omega) (Nat.le_of_ble_eq_true rfl) (c_X8_within μ) ?_
  rintro _ μ2 ⟨rfl, hμ⟩
  obtain rfl := hμ.symm
  refine V_zret (pc := 7) dX8_isPlace_7 rfl (bI_01 _) ?_
  exact ⟨by rw [inW_N (n := 10) (by decide)], rfl⟩
theorem dX8_isShip_0 : decode cX8_isShip 0 = .ok (.iload_n 1, 1) := by decide +kernel
theorem dX8_isShip_1 : decode cX8_isShip 1 = .ok (.iconst 0, 1) := by decide +kernel
theorem dX8_isShip_2 : decode cX8_isShip 2 = .ok (.aload_n 0, 1) := by decide +kernel
theorem dX8_isShip_3 : decode cX8_isShip 3 = .ok (.getfield 129, 3) := by decide +kernel
theorem dX8_isShip_6 : decode cX8_isShip 6 = .ok (.iconst 1, 1) := by decide +kernel
theorem dX8_isShip_7 : decode cX8_isShip 7 = .ok (.isub, 1) := by decide +kernel
theorem dX8_isShip_8 : decode cX8_isShip 8 = .ok (.invokestatic 88, 3) := by decide +kernel
theorem dX8_isShip_11 : decode cX8_isShip 11 = .ok (.ireturn, 1) := by decide +kernel
set_option maxHeartbeats 4000000 in
set_option maxRecDepth 100000 in
theorem c_X8_isShip {l : Launch} {g : GW} {a : AT} {x : Int32} (μ : Mm) (hO : AOK a) (hM : RM μ a)  : Con l g yX8_isShip cX8_isShip 2 (some .boolean) 1 [.ref 65, .int x] μ (fun r μ' => r = some (.int (bI (inN x (sN (aS a))))) ∧ μ' = μ) := by
  obtain ⟨m1, m2, m3, m4, m5, m6, m7, m8, m9, m10, m11, m12, m13⟩ := id hM
  obtain ⟨o1, o2, o3, o4, o5, ⟨s1, s2, s3, s4⟩, oK, o8, o9, o10⟩ := id hO
  refine Con.of [.ref 65, .int x] 0 (by decide +kernel) (Nat.le_of_ble_eq_true rfl) rfl ?_
  refine V_iload_n (pc := 0) dX8_isShip_0 rfl rfl ?_
  refine V_iconst (pc := 1) (v := 0) dX8_isShip_1 (by decide) ?_
  refine V_aload_n (pc := 2) dX8_isShip_2 rfl rfl ?_
  refine V_getI (pc := 3) (ci := 8) (j := 5) dX8_isShip_3 fl_X8_129 (fun _ _ _ _ => rfl) (by decide) rfl ?_
  refine V_iconst (pc := 6) (v := 1) dX8_isShip_6 (by decide) ?_
  refine V_isub (pc := 7) dX8_isShip_7 ?_
  rw [m5, cI_n1]
  refine V_ins3 (pc := 8) dX8_isShip_8 ml_X8_88 (by first | decide | omega) (Nat.le_of_ble_eq_true rfl) (c_X8_within μ) ?_
  rintro _ μ2 ⟨rfl, hμ⟩
  obtain rfl := hμ.symm
  refine V_zret (pc := 11) dX8_isShip_11 rfl (bI_01 _) ?_
  exact ⟨by rw [inW_N (n := sN (aS a)) (by rw [cI_int (by omega)]; omega)], rfl⟩
theorem dX8_spent_0 : decode cX8_spent 0 = .ok (.iload_n 1, 1) := by decide +kernel
theorem dX8_spent_1 : decode cX8_spent 1 = .ok (.invokestatic 144, 3) := by decide +kernel
theorem dX8_spent_4 : decode cX8_spent 4 = .ok (.ifCond .eq 14, 3) := by decide +kernel
theorem dX8_spent_7 : decode cX8_spent 7 = .ok (.aload_n 0, 1) := by decide +kernel
theorem dX8_spent_8 : decode cX8_spent 8 = .ok (.getfield 132, 3) := by decide +kernel
theorem dX8_spent_11 : decode cX8_spent 11 = .ok (.iload_n 1, 1) := by decide +kernel
theorem dX8_spent_12 : decode cX8_spent 12 = .ok (.ishr, 1) := by decide +kernel
theorem dX8_spent_13 : decode cX8_spent 13 = .ok (.iconst 1, 1) := by decide +kernel
theorem dX8_spent_14 : decode cX8_spent 14 = .ok (.iand, 1) := by decide +kernel
theorem dX8_spent_15 : decode cX8_spent 15 = .ok (.goto 5, 3) := by decide +kernel
theorem dX8_spent_18 : decode cX8_spent 18 = .ok (.bipush (-101), 2) := by decide +kernel
theorem dX8_spent_20 : decode cX8_spent 20 = .ok (.ireturn, 1) := by decide +kernel
set_option maxHeartbeats 4000000 in
set_option maxRecDepth 100000 in
theorem c_X8_spent {l : Launch} {g : GW} {a : AT} {x : Int32} (μ : Mm) (hO : AOK a) (hM : RM μ a)  : Con l g yX8_spent cX8_spent 2 (some .int) 2 [.ref 65, .int x] μ (fun r μ' => r = some (.int (fSpent a x)) ∧ μ' = μ) := by
  obtain ⟨m1, m2, m3, m4, m5, m6, m7, m8, m9, m10, m11, m12, m13⟩ := id hM
  obtain ⟨o1, o2, o3, o4, o5, ⟨s1, s2, s3, s4⟩, oK, o8, o9, o10⟩ := id hO
  refine Con.of [.ref 65, .int x] 0 (by decide +kernel) (Nat.le_of_ble_eq_true rfl) rfl ?_
  refine V_iload_n (pc := 0) dX8_spent_0 rfl rfl ?_
  refine V_ins1 (pc := 1) dX8_spent_1 ml_X8_144 (by first | decide | omega) (Nat.le_of_ble_eq_true rfl) (c_X8_isName μ) ?_
  rintro _ μ2 ⟨rfl, hμ⟩
  obtain rfl := hμ.symm
  refine V_ifeq (pc := 4) (tgt := 18) dX8_spent_4 (by decide) (fun h4 => ?_) (fun h4 => ?_)
  · have h4 := bI_e h4
    refine V_bipush (pc := 18) (v := (-101)) dX8_spent_18 (by decide) ?_
    refine V_iret (pc := 20) dX8_spent_20 rfl ?_
    refine ⟨congrArg (fun z => some (Value.int z)) ?_, rfl⟩
    first
    | (simp only [fSpent, h4, nn_nI (j := i) (by omega), if_true]; rw [m7]; exact bit_get _ s2 _ hi)
    | (simp [fSpent, h4]; done)
  have h4 := bI_ne h4; obtain ⟨i, hi, rfl⟩ := inN_of (by decide) h4
  refine V_aload_n (pc := 7) dX8_spent_7 rfl rfl ?_
  refine V_getI (pc := 8) (ci := 8) (j := 11) dX8_spent_8 fl_X8_132 (fun _ _ _ _ => rfl) (by decide) rfl ?_
  refine V_iload_n (pc := 11) dX8_spent_11 rfl rfl ?_
  refine V_ishr (pc := 12) dX8_spent_12 ?_
  refine V_iconst (pc := 13) (v := 1) dX8_spent_13 (by decide) ?_
  refine V_iand (pc := 14) dX8_spent_14 ?_
  refine V_goto (pc := 15) (tgt := 20) dX8_spent_15 (by decide) ?_
  refine V_iret (pc := 20) dX8_spent_20 rfl ?_
  refine ⟨congrArg (fun z => some (Value.int z)) ?_, rfl⟩
  first
  | (simp only [fSpent, h4, nn_nI (j := i) (by omega), if_true]; rw [m7]; exact bit_get _ s2 _ hi)
  | (simp [fSpent, h4]; done)
theorem dX8_windOf_0 : decode cX8_windOf 0 = .ok (.iload_n 1, 1) := by decide +kernel
theorem dX8_windOf_1 : decode cX8_windOf 1 = .ok (.invokestatic 144, 3) := by decide +kernel
theorem dX8_windOf_4 : decode cX8_windOf 4 = .ok (.ifCond .ne 6, 3) := by decide +kernel
theorem dX8_windOf_7 : decode cX8_windOf 7 = .ok (.bipush (-101), 2) := by decide +kernel
theorem dX8_windOf_9 : decode cX8_windOf 9 = .ok (.ireturn, 1) := by decide +kernel
theorem dX8_windOf_10 : decode cX8_windOf 10 = .ok (.aload_n 0, 1) := by decide +kernel
theorem dX8_windOf_11 : decode cX8_windOf 11 = .ok (.getfield 123, 3) := by decide +kernel
theorem dX8_windOf_14 : decode cX8_windOf 14 = .ok (.ifCond .eq 12, 3) := by decide +kernel
theorem dX8_windOf_17 : decode cX8_windOf 17 = .ok (.aload_n 0, 1) := by decide +kernel
theorem dX8_windOf_18 : decode cX8_windOf 18 = .ok (.getfield 13, 3) := by decide +kernel
theorem dX8_windOf_21 : decode cX8_windOf 21 = .ok (.iload_n 1, 1) := by decide +kernel
theorem dX8_windOf_22 : decode cX8_windOf 22 = .ok (.iaload, 1) := by decide +kernel
theorem dX8_windOf_23 : decode cX8_windOf 23 = .ok (.goto 5, 3) := by decide +kernel
theorem dX8_windOf_26 : decode cX8_windOf 26 = .ok (.bipush (-103), 2) := by decide +kernel
theorem dX8_windOf_28 : decode cX8_windOf 28 = .ok (.ireturn, 1) := by decide +kernel
set_option maxHeartbeats 4000000 in
set_option maxRecDepth 100000 in
theorem c_X8_windOf {l : Launch} {g : GW} {a : AT} {x : Int32} (μ : Mm) (hO : AOK a) (hM : RM μ a)  : Con l g yX8_windOf cX8_windOf 2 (some .int) 2 [.ref 65, .int x] μ (fun r μ' => r = some (.int (fWindOf a x)) ∧ μ' = μ) := by
  obtain ⟨m1, m2, m3, m4, m5, m6, m7, m8, m9, m10, m11, m12, m13⟩ := id hM
  obtain ⟨o1, o2, o3, o4, o5, ⟨s1, s2, s3, s4⟩, oK, o8, o9, o10⟩ := id hO
  refine Con.of [.ref 65, .int x] 0 (by decide +kernel) (Nat.le_of_ble_eq_true rfl) rfl ?_
  refine V_iload_n (pc := 0) dX8_windOf_0 rfl rfl ?_
  refine V_ins1 (pc := 1) dX8_windOf_1 ml_X8_144 (by first | decide | omega) (Nat.le_of_ble_eq_true rfl) (c_X8_isName μ) ?_
  rintro _ μ2 ⟨rfl, hμ⟩
  obtain rfl := hμ.symm
  refine V_ifne (pc := 4) (tgt := 10) dX8_windOf_4 (by decide) (fun h4 => ?_) (fun h4 => ?_)
  · have h4 := bI_ne h4; obtain ⟨i, hi, rfl⟩ := inN_of (by decide) h4
    refine V_aload_n (pc := 10) dX8_windOf_10 rfl rfl ?_
    refine V_getI (pc := 11) (ci := 8) (j := 0) dX8_windOf_11 fl_X8_123 (fun _ _ _ _ => rfl) (by decide) rfl ?_
    rw [m1]
    refine V_ifeq (pc := 14) (tgt := 26) dX8_windOf_14 (by decide) (fun h14 => ?_) (fun h14 => ?_)
    · have h14 := of_decide_eq_false (bI_e h14)
      refine V_bipush (pc := 26) (v := (-103)) dX8_windOf_26 (by decide) ?_
      refine V_iret (pc := 28) dX8_windOf_28 rfl ?_
      refine ⟨congrArg (fun z => some (Value.int z)) ?_, rfl⟩
      first
      | (simp only [fWindOf, h4, nn_nI (j := i) (by omega), if_true]; rw [if_pos h14]; exact (m4 h14).2 i hi)
      | (simp only [fWindOf, h4, if_true]; rw [if_neg h14])
    have h14 := of_decide_eq_true (bI_ne h14)
    refine V_aload_n (pc := 17) dX8_windOf_17 rfl rfl ?_
    refine V_getR (pc := 18) (ci := 8) (j := 4) (k2 := 67) dX8_windOf_18 fl_X8_13 (fun _ _ _ _ => rfl) (by decide) rfl (rf_8_4 rfl) ?_
    refine V_iload_n (pc := 21) dX8_windOf_21 rfl rfl ?_
    refine V_iald (pc := 22) (j := i) dX8_windOf_22 (by decide) rfl rfl (by show i < 6; omega) ?_
    refine V_goto (pc := 23) (tgt := 28) dX8_windOf_23 (by decide) ?_
    refine V_iret (pc := 28) dX8_windOf_28 rfl ?_
    refine ⟨congrArg (fun z => some (Value.int z)) ?_, rfl⟩
    first
    | (simp only [fWindOf, h4, nn_nI (j := i) (by omega), if_true]; rw [if_pos h14]; exact (m4 h14).2 i hi)
    | (simp only [fWindOf, h4, if_true]; rw [if_neg h14])
  have h4 := bI_e h4
  refine V_bipush (pc := 7) (v := (-101)) dX8_windOf_7 (by decide) ?_
  refine V_iret (pc := 9) dX8_windOf_9 rfl ?_
  exact ⟨congrArg (fun z => some (Value.int z)) (by simp [fWindOf, h4]), rfl⟩
theorem dX8_tenths_0 : decode cX8_tenths 0 = .ok (.iload_n 1, 1) := by decide +kernel
theorem dX8_tenths_1 : decode cX8_tenths 1 = .ok (.iconst 0, 1) := by decide +kernel
theorem dX8_tenths_2 : decode cX8_tenths 2 = .ok (.iconst 4, 1) := by decide +kernel
theorem dX8_tenths_3 : decode cX8_tenths 3 = .ok (.invokestatic 88, 3) := by decide +kernel
theorem dX8_tenths_6 : decode cX8_tenths 6 = .ok (.ifCond .eq 12, 3) := by decide +kernel
theorem dX8_tenths_9 : decode cX8_tenths 9 = .ok (.iload_n 2, 1) := by decide +kernel
theorem dX8_tenths_10 : decode cX8_tenths 10 = .ok (.iconst 0, 1) := by decide +kernel
theorem dX8_tenths_11 : decode cX8_tenths 11 = .ok (.iconst 2, 1) := by decide +kernel
theorem dX8_tenths_12 : decode cX8_tenths 12 = .ok (.invokestatic 88, 3) := by decide +kernel
theorem dX8_tenths_15 : decode cX8_tenths 15 = .ok (.ifCond .ne 6, 3) := by decide +kernel
theorem dX8_tenths_18 : decode cX8_tenths 18 = .ok (.bipush (-101), 2) := by decide +kernel
theorem dX8_tenths_20 : decode cX8_tenths 20 = .ok (.ireturn, 1) := by decide +kernel
theorem dX8_tenths_21 : decode cX8_tenths 21 = .ok (.aload_n 0, 1) := by decide +kernel
theorem dX8_tenths_22 : decode cX8_tenths 22 = .ok (.getfield 123, 3) := by decide +kernel
theorem dX8_tenths_25 : decode cX8_tenths 25 = .ok (.ifCond .eq 16, 3) := by decide +kernel
theorem dX8_tenths_28 : decode cX8_tenths 28 = .ok (.aload_n 0, 1) := by decide +kernel
theorem dX8_tenths_29 : decode cX8_tenths 29 = .ok (.getfield 7, 3) := by decide +kernel
theorem dX8_tenths_32 : decode cX8_tenths 32 = .ok (.iconst 3, 1) := by decide +kernel
theorem dX8_tenths_33 : decode cX8_tenths 33 = .ok (.iload_n 1, 1) := by decide +kernel
theorem dX8_tenths_34 : decode cX8_tenths 34 = .ok (.imul, 1) := by decide +kernel
theorem dX8_tenths_35 : decode cX8_tenths 35 = .ok (.iload_n 2, 1) := by decide +kernel
theorem dX8_tenths_36 : decode cX8_tenths 36 = .ok (.iadd, 1) := by decide +kernel
theorem dX8_tenths_37 : decode cX8_tenths 37 = .ok (.iaload, 1) := by decide +kernel
theorem dX8_tenths_38 : decode cX8_tenths 38 = .ok (.goto 5, 3) := by decide +kernel
theorem dX8_tenths_41 : decode cX8_tenths 41 = .ok (.bipush (-103), 2) := by decide +kernel
theorem dX8_tenths_43 : decode cX8_tenths 43 = .ok (.ireturn, 1) := by decide +kernel
set_option maxHeartbeats 4000000 in
set_option maxRecDepth 100000 in
theorem c_X8_tenths {l : Launch} {g : GW} {a : AT} {x y : Int32} (μ : Mm) (hO : AOK a) (hM : RM μ a)  : Con l g yX8_tenths cX8_tenths 3 (some .int) 1 [.ref 65, .int x, .int y] μ (fun r μ' => r = some (.int (fTenths a x y)) ∧ μ' = μ) := by
  obtain ⟨m1, m2, m3, m4, m5, m6, m7, m8, m9, m10, m11, m12, m13⟩ := id hM
  obtain ⟨o1, o2, o3, o4, o5, ⟨s1, s2, s3, s4⟩, oK, o8, o9, o10⟩ := id hO
  refine Con.of [.ref 65, .int x, .int y] 0 (by decide +kernel) (Nat.le_of_ble_eq_true rfl) rfl ?_
  refine V_iload_n (pc := 0) dX8_tenths_0 rfl rfl ?_
  refine V_iconst (pc := 1) (v := 0) dX8_tenths_1 (by decide) ?_
  refine V_iconst (pc := 2) (v := 4) dX8_tenths_2 (by decide) ?_
  refine V_ins3 (pc := 3) dX8_tenths_3 ml_X8_88 (by first | decide | omega) (Nat.le_of_ble_eq_true rfl) (c_X8_within μ) ?_
  rintro _ μ2 ⟨rfl, hμ⟩
  obtain rfl := hμ.symm
  rw [inW_N (n := 5) (by decide)]
  refine V_ifeq (pc := 6) (tgt := 18) dX8_tenths_6 (by decide) (fun h6 => ?_) (fun h6 => ?_)
  · have h6 := bI_e h6
    refine V_bipush (pc := 18) (v := (-101)) dX8_tenths_18 (by decide) ?_
    refine V_iret (pc := 20) dX8_tenths_20 rfl ?_
    refine ⟨congrArg (fun z => some (Value.int z)) ?_, rfl⟩
    first
    | (simp [fTenths, h6]; done)
    | (simp [fTenths, h6, h15]; done)
  have h6 := bI_ne h6
  refine V_iload_n (pc := 9) dX8_tenths_9 rfl rfl ?_
  refine V_iconst (pc := 10) (v := 0) dX8_tenths_10 (by decide) ?_
  refine V_iconst (pc := 11) (v := 2) dX8_tenths_11 (by decide) ?_
  refine V_ins3 (pc := 12) dX8_tenths_12 ml_X8_88 (by first | decide | omega) (Nat.le_of_ble_eq_true rfl) (c_X8_within μ) ?_
  rintro _ μ2 ⟨rfl, hμ⟩
  obtain rfl := hμ.symm
  rw [inW_N (n := 3) (by decide)]
  refine V_ifne (pc := 15) (tgt := 21) dX8_tenths_15 (by decide) (fun h15 => ?_) (fun h15 => ?_)
  · have h15 := bI_ne h15
    obtain ⟨i, hi, rfl⟩ := inN_of (by decide) h6
    obtain ⟨j, hj, rfl⟩ := inN_of (by decide) h15
    refine V_aload_n (pc := 21) dX8_tenths_21 rfl rfl ?_
    refine V_getI (pc := 22) (ci := 8) (j := 0) dX8_tenths_22 fl_X8_123 (fun _ _ _ _ => rfl) (by decide) rfl ?_
    rw [m1]
    refine V_ifeq (pc := 25) (tgt := 41) dX8_tenths_25 (by decide) (fun h25 => ?_) (fun h25 => ?_)
    · have h25 := of_decide_eq_false (bI_e h25)
      refine V_bipush (pc := 41) (v := (-103)) dX8_tenths_41 (by decide) ?_
      refine V_iret (pc := 43) dX8_tenths_43 rfl ?_
      refine ⟨congrArg (fun z => some (Value.int z)) ?_, rfl⟩
      first
      | (simp only [fTenths, h6, h15, nn_nI (j := i) (by omega), nn_nI (j := j) (by omega), Bool.and_self, if_true]; rw [if_pos h25]; exact (m4 h25).1 i j hi hj)
      | (simp only [fTenths, h6, h15, Bool.and_self, if_true]; rw [if_neg h25])
    have h25 := of_decide_eq_true (bI_ne h25)
    refine V_aload_n (pc := 28) dX8_tenths_28 rfl rfl ?_
    refine V_getR (pc := 29) (ci := 8) (j := 3) (k2 := 66) dX8_tenths_29 fl_X8_7 (fun _ _ _ _ => rfl) (by decide) rfl (rf_8_3 rfl) ?_
    refine V_iconst (pc := 32) (v := 3) dX8_tenths_32 (by decide) ?_
    refine V_iload_n (pc := 33) dX8_tenths_33 rfl rfl ?_
    refine V_imul (pc := 34) dX8_tenths_34 ?_
    refine V_iload_n (pc := 35) dX8_tenths_35 rfl rfl ?_
    refine V_iadd (pc := 36) dX8_tenths_36 ?_
    refine V_iald (pc := 37) (j := (3 * i + j)) dX8_tenths_37 (by decide) rfl (by rw [show (3 : Int32) = nI 3 from rfl, pk_mul, nI_add]) (by show 3 * i + j < 15; omega) ?_
    refine V_goto (pc := 38) (tgt := 43) dX8_tenths_38 (by decide) ?_
    refine V_iret (pc := 43) dX8_tenths_43 rfl ?_
    refine ⟨congrArg (fun z => some (Value.int z)) ?_, rfl⟩
    first
    | (simp only [fTenths, h6, h15, nn_nI (j := i) (by omega), nn_nI (j := j) (by omega), Bool.and_self, if_true]; rw [if_pos h25]; exact (m4 h25).1 i j hi hj)
    | (simp only [fTenths, h6, h15, Bool.and_self, if_true]; rw [if_neg h25])
  have h15 := bI_e h15
  refine V_bipush (pc := 18) (v := (-101)) dX8_tenths_18 (by decide) ?_
  refine V_iret (pc := 20) dX8_tenths_20 rfl ?_
  refine ⟨congrArg (fun z => some (Value.int z)) ?_, rfl⟩
  first
  | (simp [fTenths, h6]; done)
  | (simp [fTenths, h6, h15]; done)
theorem dX8_shipNow_0 : decode cX8_shipNow 0 = .ok (.iload_n 2, 1) := by decide +kernel
theorem dX8_shipNow_1 : decode cX8_shipNow 1 = .ok (.tableswitch 59 0 3 #[31, 38, 45, 52], 31) := by decide +kernel
theorem dX8_shipNow_32 : decode cX8_shipNow 32 = .ok (.aload_n 0, 1) := by decide +kernel
theorem dX8_shipNow_33 : decode cX8_shipNow 33 = .ok (.getfield 16, 3) := by decide +kernel
theorem dX8_shipNow_36 : decode cX8_shipNow 36 = .ok (.iload_n 1, 1) := by decide +kernel
theorem dX8_shipNow_37 : decode cX8_shipNow 37 = .ok (.iaload, 1) := by decide +kernel
theorem dX8_shipNow_38 : decode cX8_shipNow 38 = .ok (.ireturn, 1) := by decide +kernel
theorem dX8_shipNow_39 : decode cX8_shipNow 39 = .ok (.aload_n 0, 1) := by decide +kernel
theorem dX8_shipNow_40 : decode cX8_shipNow 40 = .ok (.getfield 19, 3) := by decide +kernel
theorem dX8_shipNow_43 : decode cX8_shipNow 43 = .ok (.iload_n 1, 1) := by decide +kernel
theorem dX8_shipNow_44 : decode cX8_shipNow 44 = .ok (.iaload, 1) := by decide +kernel
theorem dX8_shipNow_45 : decode cX8_shipNow 45 = .ok (.ireturn, 1) := by decide +kernel
theorem dX8_shipNow_46 : decode cX8_shipNow 46 = .ok (.aload_n 0, 1) := by decide +kernel
theorem dX8_shipNow_47 : decode cX8_shipNow 47 = .ok (.getfield 22, 3) := by decide +kernel
theorem dX8_shipNow_50 : decode cX8_shipNow 50 = .ok (.iload_n 1, 1) := by decide +kernel
theorem dX8_shipNow_51 : decode cX8_shipNow 51 = .ok (.iaload, 1) := by decide +kernel
theorem dX8_shipNow_52 : decode cX8_shipNow 52 = .ok (.ireturn, 1) := by decide +kernel
theorem dX8_shipNow_53 : decode cX8_shipNow 53 = .ok (.aload_n 0, 1) := by decide +kernel
theorem dX8_shipNow_54 : decode cX8_shipNow 54 = .ok (.getfield 25, 3) := by decide +kernel
theorem dX8_shipNow_57 : decode cX8_shipNow 57 = .ok (.iload_n 1, 1) := by decide +kernel
theorem dX8_shipNow_58 : decode cX8_shipNow 58 = .ok (.iaload, 1) := by decide +kernel
theorem dX8_shipNow_59 : decode cX8_shipNow 59 = .ok (.ireturn, 1) := by decide +kernel
theorem dX8_shipNow_60 : decode cX8_shipNow 60 = .ok (.aload_n 0, 1) := by decide +kernel
theorem dX8_shipNow_61 : decode cX8_shipNow 61 = .ok (.getfield 28, 3) := by decide +kernel
theorem dX8_shipNow_64 : decode cX8_shipNow 64 = .ok (.iload_n 1, 1) := by decide +kernel
theorem dX8_shipNow_65 : decode cX8_shipNow 65 = .ok (.iaload, 1) := by decide +kernel
theorem dX8_shipNow_66 : decode cX8_shipNow 66 = .ok (.ireturn, 1) := by decide +kernel
set_option maxHeartbeats 4000000 in
set_option maxRecDepth 100000 in
theorem c_X8_shipNow {l : Launch} {g : GW} {a : AT} {i q : Nat} (μ : Mm) (hO : AOK a) (hM : RM μ a) (hi : i < sN (aS a)) (hq : q ≤ 4) : Con l g yX8_shipNow cX8_shipNow 3 (some .int) 0 [.ref 65, .int (nI i), .int (nI q)] μ (fun r μ' => r = some (.int (tel (aS a) i q)) ∧ μ' = μ) := by
  obtain ⟨m1, m2, m3, m4, m5, m6, m7, m8, m9, m10, m11, m12, m13⟩ := id hM
  obtain ⟨o1, o2, o3, o4, o5, ⟨s1, s2, s3, s4⟩, oK, o8, o9, o10⟩ := id hO
  obtain ⟨n1, n2, n3, n4, n5⟩ := m6 i hi
  refine Con.of [.ref 65, .int (nI i), .int (nI q)] 0 (by decide +kernel) (Nat.le_of_ble_eq_true rfl) rfl ?_
  refine V_iload_n (pc := 0) dX8_shipNow_0 rfl rfl ?_
  have hsel : q = 0 ∨ q = 1 ∨ q = 2 ∨ q = 3 ∨ q = 4 := by omega
  rcases hsel with hs1 | hs1 | hs1 | hs1 | hs1
  · subst hs1
    refine V_tsIn (pc := 1) (off := 31) (tgt := 32) dX8_shipNow_1 (by decide) (by decide) (by decide) (by decide) ?_
    refine V_aload_n (pc := 32) dX8_shipNow_32 rfl rfl ?_
    refine V_getR (pc := 33) (ci := 8) (j := 6) (k2 := 68) dX8_shipNow_33 fl_X8_16 (fun _ _ _ _ => rfl) (by decide) rfl (rf_8_6 rfl) ?_
    refine V_iload_n (pc := 36) dX8_shipNow_36 rfl rfl ?_
    refine V_iald (pc := 37) (j := i) dX8_shipNow_37 (by decide) rfl rfl (by show i < 6; omega) ?_
    refine V_iret (pc := 38) dX8_shipNow_38 rfl ?_
    exact ⟨by rw [n1]; rfl, rfl⟩
  · subst hs1
    refine V_tsIn (pc := 1) (off := 38) (tgt := 39) dX8_shipNow_1 (by decide) (by decide) (by decide) (by decide) ?_
    refine V_aload_n (pc := 39) dX8_shipNow_39 rfl rfl ?_
    refine V_getR (pc := 40) (ci := 8) (j := 7) (k2 := 69) dX8_shipNow_40 fl_X8_19 (fun _ _ _ _ => rfl) (by decide) rfl (rf_8_7 rfl) ?_
    refine V_iload_n (pc := 43) dX8_shipNow_43 rfl rfl ?_
    refine V_iald (pc := 44) (j := i) dX8_shipNow_44 (by decide) rfl rfl (by show i < 6; omega) ?_
    refine V_iret (pc := 45) dX8_shipNow_45 rfl ?_
    exact ⟨by rw [n2]; rfl, rfl⟩
  · subst hs1
    refine V_tsIn (pc := 1) (off := 45) (tgt := 46) dX8_shipNow_1 (by decide) (by decide) (by decide) (by decide) ?_
    refine V_aload_n (pc := 46) dX8_shipNow_46 rfl rfl ?_
    refine V_getR (pc := 47) (ci := 8) (j := 8) (k2 := 70) dX8_shipNow_47 fl_X8_22 (fun _ _ _ _ => rfl) (by decide) rfl (rf_8_8 rfl) ?_
    refine V_iload_n (pc := 50) dX8_shipNow_50 rfl rfl ?_
    refine V_iald (pc := 51) (j := i) dX8_shipNow_51 (by decide) rfl rfl (by show i < 6; omega) ?_
    refine V_iret (pc := 52) dX8_shipNow_52 rfl ?_
    exact ⟨by rw [n3]; rfl, rfl⟩
  · subst hs1
    refine V_tsIn (pc := 1) (off := 52) (tgt := 53) dX8_shipNow_1 (by decide) (by decide) (by decide) (by decide) ?_
    refine V_aload_n (pc := 53) dX8_shipNow_53 rfl rfl ?_
    refine V_getR (pc := 54) (ci := 8) (j := 9) (k2 := 71) dX8_shipNow_54 fl_X8_25 (fun _ _ _ _ => rfl) (by decide) rfl (rf_8_9 rfl) ?_
    refine V_iload_n (pc := 57) dX8_shipNow_57 rfl rfl ?_
    refine V_iald (pc := 58) (j := i) dX8_shipNow_58 (by decide) rfl rfl (by show i < 6; omega) ?_
    refine V_iret (pc := 59) dX8_shipNow_59 rfl ?_
    exact ⟨by rw [n4]; rfl, rfl⟩
  subst hs1
  refine V_tsOut (pc := 1) (tgt := 60) dX8_shipNow_1 (by decide) (by decide) ?_
  refine V_aload_n (pc := 60) dX8_shipNow_60 rfl rfl ?_
  refine V_getR (pc := 61) (ci := 8) (j := 10) (k2 := 72) dX8_shipNow_61 fl_X8_28 (fun _ _ _ _ => rfl) (by decide) rfl (rf_8_10 rfl) ?_
  refine V_iload_n (pc := 64) dX8_shipNow_64 rfl rfl ?_
  refine V_iald (pc := 65) (j := i) dX8_shipNow_65 (by decide) rfl rfl (by show i < 6; omega) ?_
  refine V_iret (pc := 66) dX8_shipNow_66 rfl ?_
  exact ⟨by rw [n5]; rfl, rfl⟩
theorem dX8_about_0 : decode cX8_about 0 = .ok (.aload_n 0, 1) := by decide +kernel
theorem dX8_about_1 : decode cX8_about 1 = .ok (.iload_n 1, 1) := by decide +kernel
theorem dX8_about_2 : decode cX8_about 2 = .ok (.invokevirtual 150, 3) := by decide +kernel
theorem dX8_about_5 : decode cX8_about 5 = .ok (.ifCond .ne 8, 3) := by decide +kernel
theorem dX8_about_8 : decode cX8_about 8 = .ok (.bipush (-101), 2) := by decide +kernel
theorem dX8_about_10 : decode cX8_about 10 = .ok (.goto 23, 3) := by decide +kernel
theorem dX8_about_13 : decode cX8_about 13 = .ok (.iload_n 2, 1) := by decide +kernel
theorem dX8_about_14 : decode cX8_about 14 = .ok (.iconst 0, 1) := by decide +kernel
theorem dX8_about_15 : decode cX8_about 15 = .ok (.iconst 4, 1) := by decide +kernel
theorem dX8_about_16 : decode cX8_about 16 = .ok (.invokestatic 88, 3) := by decide +kernel
theorem dX8_about_19 : decode cX8_about 19 = .ok (.ifCond .eq 12, 3) := by decide +kernel
theorem dX8_about_22 : decode cX8_about 22 = .ok (.aload_n 0, 1) := by decide +kernel
theorem dX8_about_23 : decode cX8_about 23 = .ok (.iload_n 1, 1) := by decide +kernel
theorem dX8_about_24 : decode cX8_about 24 = .ok (.iload_n 2, 1) := by decide +kernel
theorem dX8_about_25 : decode cX8_about 25 = .ok (.invokevirtual 153, 3) := by decide +kernel
theorem dX8_about_28 : decode cX8_about 28 = .ok (.goto 5, 3) := by decide +kernel
theorem dX8_about_31 : decode cX8_about 31 = .ok (.bipush (-102), 2) := by decide +kernel
theorem dX8_about_33 : decode cX8_about 33 = .ok (.ireturn, 1) := by decide +kernel
set_option maxHeartbeats 4000000 in
set_option maxRecDepth 100000 in
theorem c_X8_about {l : Launch} {g : GW} {a : AT} {x y : Int32} (μ : Mm) (hO : AOK a) (hM : RM μ a)  : Con l g yX8_about cX8_about 3 (some .int) 2 [.ref 65, .int x, .int y] μ (fun r μ' => r = some (.int (fAbout a x y)) ∧ μ' = μ) := by
  obtain ⟨m1, m2, m3, m4, m5, m6, m7, m8, m9, m10, m11, m12, m13⟩ := id hM
  obtain ⟨o1, o2, o3, o4, o5, ⟨s1, s2, s3, s4⟩, oK, o8, o9, o10⟩ := id hO
  refine Con.of [.ref 65, .int x, .int y] 0 (by decide +kernel) (Nat.le_of_ble_eq_true rfl) rfl ?_
  refine V_aload_n (pc := 0) dX8_about_0 rfl rfl ?_
  refine V_iload_n (pc := 1) dX8_about_1 rfl rfl ?_
  refine V_inv1 (pc := 2) (ci := 8) dX8_about_2 ml_X8_150 (by decide) rfl ⟨by decide, rfl⟩ (by first | decide | omega) (Nat.le_of_ble_eq_true rfl) (c_X8_isShip μ hO hM) ?_
  rintro _ μ2 ⟨rfl, hμ⟩
  obtain rfl := hμ.symm
  refine V_ifne (pc := 5) (tgt := 13) dX8_about_5 (by decide) (fun h5 => ?_) (fun h5 => ?_)
  · have h5 := bI_ne h5; obtain ⟨i, hi, rfl⟩ := inN_of (by omega) h5
    refine V_iload_n (pc := 13) dX8_about_13 rfl rfl ?_
    refine V_iconst (pc := 14) (v := 0) dX8_about_14 (by decide) ?_
    refine V_iconst (pc := 15) (v := 4) dX8_about_15 (by decide) ?_
    refine V_ins3 (pc := 16) dX8_about_16 ml_X8_88 (by first | decide | omega) (Nat.le_of_ble_eq_true rfl) (c_X8_within μ) ?_
    rintro _ μ2 ⟨rfl, hμ⟩
    obtain rfl := hμ.symm
    rw [inW_N (n := 5) (by decide)]
    refine V_ifeq (pc := 19) (tgt := 31) dX8_about_19 (by decide) (fun h19 => ?_) (fun h19 => ?_)
    · have h19 := bI_e h19
      refine V_bipush (pc := 31) (v := (-102)) dX8_about_31 (by decide) ?_
      refine V_iret (pc := 33) dX8_about_33 rfl ?_
      refine ⟨congrArg (fun z => some (Value.int z)) ?_, rfl⟩
      first
      | (simp only [fAbout, h5, h19, nn_nI (j := i) (by omega), nn_nI (j := j) (by omega), if_true])
      | (simp [fAbout, h5, h19]; done)
      | (simp [fAbout, h5]; done)
    have h19 := bI_ne h19; obtain ⟨j, hj, rfl⟩ := inN_of (by decide) h19
    refine V_aload_n (pc := 22) dX8_about_22 rfl rfl ?_
    refine V_iload_n (pc := 23) dX8_about_23 rfl rfl ?_
    refine V_iload_n (pc := 24) dX8_about_24 rfl rfl ?_
    refine V_inv2 (pc := 25) (ci := 8) dX8_about_25 ml_X8_153 (by decide) rfl ⟨by decide, rfl⟩ (by first | decide | omega) (Nat.le_of_ble_eq_true rfl) (c_X8_shipNow μ hO hM hi (show j ≤ 4 by omega)) ?_
    rintro _ μ2 ⟨rfl, hμ⟩
    obtain rfl := hμ.symm
    refine V_goto (pc := 28) (tgt := 33) dX8_about_28 (by decide) ?_
    refine V_iret (pc := 33) dX8_about_33 rfl ?_
    refine ⟨congrArg (fun z => some (Value.int z)) ?_, rfl⟩
    first
    | (simp only [fAbout, h5, h19, nn_nI (j := i) (by omega), nn_nI (j := j) (by omega), if_true])
    | (simp [fAbout, h5, h19]; done)
    | (simp [fAbout, h5]; done)
  have h5 := bI_e h5
  refine V_bipush (pc := 8) (v := (-101)) dX8_about_8 (by decide) ?_
  refine V_goto (pc := 10) (tgt := 33) dX8_about_10 (by decide) ?_
  refine V_iret (pc := 33) dX8_about_33 rfl ?_
  refine ⟨congrArg (fun z => some (Value.int z)) ?_, rfl⟩
  first
  | (simp only [fAbout, h5, h19, nn_nI (j := i) (by omega), nn_nI (j := j) (by omega), if_true])
  | (simp [fAbout, h5, h19]; done)
  | (simp [fAbout, h5]; done)
theorem dX8_as_0 : decode cX8_as 0 = .ok (.aload_n 0, 1) := by decide +kernel
theorem dX8_as_1 : decode cX8_as 1 = .ok (.iload_n 1, 1) := by decide +kernel
theorem dX8_as_2 : decode cX8_as 2 = .ok (.invokevirtual 150, 3) := by decide +kernel
theorem dX8_as_5 : decode cX8_as 5 = .ok (.ifCond .ne 6, 3) := by decide +kernel
theorem dX8_as_8 : decode cX8_as 8 = .ok (.bipush (-101), 2) := by decide +kernel
theorem dX8_as_10 : decode cX8_as 10 = .ok (.ireturn, 1) := by decide +kernel
theorem dX8_as_11 : decode cX8_as 11 = .ok (.iload_n 2, 1) := by decide +kernel
theorem dX8_as_12 : decode cX8_as 12 = .ok (.iconst 0, 1) := by decide +kernel
theorem dX8_as_13 : decode cX8_as 13 = .ok (.iconst 4, 1) := by decide +kernel
theorem dX8_as_14 : decode cX8_as 14 = .ok (.invokestatic 88, 3) := by decide +kernel
theorem dX8_as_17 : decode cX8_as 17 = .ok (.ifCond .ne 6, 3) := by decide +kernel
theorem dX8_as_20 : decode cX8_as 20 = .ok (.bipush (-102), 2) := by decide +kernel
theorem dX8_as_22 : decode cX8_as 22 = .ok (.ireturn, 1) := by decide +kernel
theorem dX8_as_23 : decode cX8_as 23 = .ok (.aload_n 0, 1) := by decide +kernel
theorem dX8_as_24 : decode cX8_as 24 = .ok (.getfield 16, 3) := by decide +kernel
theorem dX8_as_27 : decode cX8_as 27 = .ok (.iload_n 1, 1) := by decide +kernel
theorem dX8_as_28 : decode cX8_as 28 = .ok (.iaload, 1) := by decide +kernel
theorem dX8_as_29 : decode cX8_as 29 = .ok (.istore_n 3, 1) := by decide +kernel
theorem dX8_as_30 : decode cX8_as 30 = .ok (.iload_n 2, 1) := by decide +kernel
theorem dX8_as_31 : decode cX8_as 31 = .ok (.ifCond .eq 18, 3) := by decide +kernel
theorem dX8_as_34 : decode cX8_as 34 = .ok (.iload_n 3, 1) := by decide +kernel
theorem dX8_as_35 : decode cX8_as 35 = .ok (.iload_n 2, 1) := by decide +kernel
theorem dX8_as_36 : decode cX8_as 36 = .ok (.if_icmp .eq 13, 3) := by decide +kernel
theorem dX8_as_39 : decode cX8_as 39 = .ok (.iload_n 2, 1) := by decide +kernel
theorem dX8_as_40 : decode cX8_as 40 = .ok (.iconst 3, 1) := by decide +kernel
theorem dX8_as_41 : decode cX8_as 41 = .ok (.if_icmp .ne 12, 3) := by decide +kernel
theorem dX8_as_44 : decode cX8_as 44 = .ok (.iload_n 3, 1) := by decide +kernel
theorem dX8_as_45 : decode cX8_as 45 = .ok (.iconst 4, 1) := by decide +kernel
theorem dX8_as_46 : decode cX8_as 46 = .ok (.if_icmp .ne 7, 3) := by decide +kernel
theorem dX8_as_49 : decode cX8_as 49 = .ok (.iload_n 1, 1) := by decide +kernel
theorem dX8_as_50 : decode cX8_as 50 = .ok (.goto 4, 3) := by decide +kernel
theorem dX8_as_53 : decode cX8_as 53 = .ok (.iconst (-1), 1) := by decide +kernel
theorem dX8_as_54 : decode cX8_as 54 = .ok (.ireturn, 1) := by decide +kernel
set_option maxHeartbeats 4000000 in
set_option maxRecDepth 100000 in
theorem c_X8_as {l : Launch} {g : GW} {a : AT} {x y : Int32} (μ : Mm) (hO : AOK a) (hM : RM μ a)  : Con l g yX8_as cX8_as 4 (some .int) 2 [.ref 65, .int x, .int y] μ (fun r μ' => r = some (.int (fAs a x y)) ∧ μ' = μ) := by
  obtain ⟨m1, m2, m3, m4, m5, m6, m7, m8, m9, m10, m11, m12, m13⟩ := id hM
  obtain ⟨o1, o2, o3, o4, o5, ⟨s1, s2, s3, s4⟩, oK, o8, o9, o10⟩ := id hO
  refine Con.of [.ref 65, .int x, .int y, .null] 1 (by decide +kernel) (Nat.le_of_ble_eq_true rfl) rfl ?_
  refine V_aload_n (pc := 0) dX8_as_0 rfl rfl ?_
  refine V_iload_n (pc := 1) dX8_as_1 rfl rfl ?_
  refine V_inv1 (pc := 2) (ci := 8) dX8_as_2 ml_X8_150 (by decide) rfl ⟨by decide, rfl⟩ (by first | decide | omega) (Nat.le_of_ble_eq_true rfl) (c_X8_isShip μ hO hM) ?_
  rintro _ μ2 ⟨rfl, hμ⟩
  obtain rfl := hμ.symm
  refine V_ifne (pc := 5) (tgt := 11) dX8_as_5 (by decide) (fun h5 => ?_) (fun h5 => ?_)
  · have h5 := bI_ne h5; obtain ⟨i, hi, rfl⟩ := inN_of (by omega) h5
    refine V_iload_n (pc := 11) dX8_as_11 rfl rfl ?_
    refine V_iconst (pc := 12) (v := 0) dX8_as_12 (by decide) ?_
    refine V_iconst (pc := 13) (v := 4) dX8_as_13 (by decide) ?_
    refine V_ins3 (pc := 14) dX8_as_14 ml_X8_88 (by first | decide | omega) (Nat.le_of_ble_eq_true rfl) (c_X8_within μ) ?_
    rintro _ μ2 ⟨rfl, hμ⟩
    obtain rfl := hμ.symm
    rw [inW_N (n := 5) (by decide)]
    refine V_ifne (pc := 17) (tgt := 23) dX8_as_17 (by decide) (fun h17 => ?_) (fun h17 => ?_)
    · have h17 := bI_ne h17; obtain ⟨j, hj, rfl⟩ := inN_of (by decide) h17; have hκ := (s4 i (by omega)).1
      refine V_aload_n (pc := 23) dX8_as_23 rfl rfl ?_
      refine V_getR (pc := 24) (ci := 8) (j := 6) (k2 := 68) dX8_as_24 fl_X8_16 (fun _ _ _ _ => rfl) (by decide) rfl (rf_8_6 rfl) ?_
      refine V_iload_n (pc := 27) dX8_as_27 rfl rfl ?_
      refine V_iald (pc := 28) (j := i) dX8_as_28 (by decide) rfl rfl (by show i < 6; omega) ?_
      rw [(m6 i hi).1]
      refine V_istore3 (pc := 29) dX8_as_29 (by decide) rfl ?_
      refine V_iload_n (pc := 30) dX8_as_30 rfl rfl ?_
      refine V_ifeq (pc := 31) (tgt := 49) dX8_as_31 (by decide) (fun h31 => ?_) (fun h31 => ?_)
      · have h31 := (nI_eq (a := j) (b := 0) (by omega) (by omega)).mp h31
        have e1 : isA (sK (aS a) i) j = true := by unfold isA; simp only [Bool.or_eq_true, Bool.and_eq_true, beq_iff_eq]; omega
        refine V_iload_n (pc := 49) dX8_as_49 rfl rfl ?_
        refine V_goto (pc := 50) (tgt := 54) dX8_as_50 (by decide) ?_
        refine V_iret (pc := 54) dX8_as_54 rfl ?_
        have e0 : fAs a (nI i) (nI j) = if isA (sK (aS a) i) j then nI i else -1 := by simp only [fAs, h5, h17, nn_nI (j := i) (by omega), nn_nI (j := j) (by omega), if_true]
        rw [e0]
        rw [e1]
        exact ⟨rfl, rfl⟩
      have h31 := mt (nI_eq (a := j) (b := 0) (by omega) (by omega)).mpr h31
      refine V_iload_n (pc := 34) dX8_as_34 rfl rfl ?_
      refine V_iload_n (pc := 35) dX8_as_35 rfl rfl ?_
      refine V_icmpeq (pc := 36) (tgt := 49) dX8_as_36 (by decide) (fun h36 => ?_) (fun h36 => ?_)
      · have h36 := (nI_eq (a := sK (aS a) i) (b := j) (by omega) (by omega)).mp h36
        have e1 : isA (sK (aS a) i) j = true := by unfold isA; simp only [Bool.or_eq_true, Bool.and_eq_true, beq_iff_eq]; omega
        refine V_iload_n (pc := 49) dX8_as_49 rfl rfl ?_
        refine V_goto (pc := 50) (tgt := 54) dX8_as_50 (by decide) ?_
        refine V_iret (pc := 54) dX8_as_54 rfl ?_
        have e0 : fAs a (nI i) (nI j) = if isA (sK (aS a) i) j then nI i else -1 := by simp only [fAs, h5, h17, nn_nI (j := i) (by omega), nn_nI (j := j) (by omega), if_true]
        rw [e0]
        rw [e1]
        exact ⟨rfl, rfl⟩
      have h36 := mt (nI_eq (a := sK (aS a) i) (b := j) (by omega) (by omega)).mpr h36
      refine V_iload_n (pc := 39) dX8_as_39 rfl rfl ?_
      refine V_iconst (pc := 40) (v := 3) dX8_as_40 (by decide) ?_
      refine V_icmpne (pc := 41) (tgt := 53) dX8_as_41 (by decide) (fun h41 => ?_) (fun h41 => ?_)
      · have h41 := mt (nI_eq (a := j) (b := 3) (by omega) (by omega)).mpr h41
        have e1 : isA (sK (aS a) i) j = false := by unfold isA; rw [Bool.eq_false_iff]; simp only [ne_eq, Bool.or_eq_true, Bool.and_eq_true, beq_iff_eq]; omega
        refine V_iconst (pc := 53) (v := (-1)) dX8_as_53 (by decide) ?_
        refine V_iret (pc := 54) dX8_as_54 rfl ?_
        have e0 : fAs a (nI i) (nI j) = if isA (sK (aS a) i) j then nI i else -1 := by simp only [fAs, h5, h17, nn_nI (j := i) (by omega), nn_nI (j := j) (by omega), if_true]
        rw [e0]
        rw [e1]
        exact ⟨rfl, rfl⟩
      have h41 := (nI_eq (a := j) (b := 3) (by omega) (by omega)).mp h41
      refine V_iload_n (pc := 44) dX8_as_44 rfl rfl ?_
      refine V_iconst (pc := 45) (v := 4) dX8_as_45 (by decide) ?_
      refine V_icmpne (pc := 46) (tgt := 53) dX8_as_46 (by decide) (fun h46 => ?_) (fun h46 => ?_)
      · have h46 := mt (nI_eq (a := sK (aS a) i) (b := 4) (by omega) (by omega)).mpr h46
        have e1 : isA (sK (aS a) i) j = false := by unfold isA; rw [Bool.eq_false_iff]; simp only [ne_eq, Bool.or_eq_true, Bool.and_eq_true, beq_iff_eq]; omega
        refine V_iconst (pc := 53) (v := (-1)) dX8_as_53 (by decide) ?_
        refine V_iret (pc := 54) dX8_as_54 rfl ?_
        have e0 : fAs a (nI i) (nI j) = if isA (sK (aS a) i) j then nI i else -1 := by simp only [fAs, h5, h17, nn_nI (j := i) (by omega), nn_nI (j := j) (by omega), if_true]
        rw [e0]
        rw [e1]
        exact ⟨rfl, rfl⟩
      have h46 := (nI_eq (a := sK (aS a) i) (b := 4) (by omega) (by omega)).mp h46
      have e1 : isA (sK (aS a) i) j = true := by unfold isA; simp only [Bool.or_eq_true, Bool.and_eq_true, beq_iff_eq]; omega
      refine V_iload_n (pc := 49) dX8_as_49 rfl rfl ?_
      refine V_goto (pc := 50) (tgt := 54) dX8_as_50 (by decide) ?_
      refine V_iret (pc := 54) dX8_as_54 rfl ?_
      have e0 : fAs a (nI i) (nI j) = if isA (sK (aS a) i) j then nI i else -1 := by simp only [fAs, h5, h17, nn_nI (j := i) (by omega), nn_nI (j := j) (by omega), if_true]
      rw [e0]
      rw [e1]
      exact ⟨rfl, rfl⟩
    have h17 := bI_e h17
    refine V_bipush (pc := 20) (v := (-102)) dX8_as_20 (by decide) ?_
    refine V_iret (pc := 22) dX8_as_22 rfl ?_
    exact ⟨congrArg (fun z => some (Value.int z)) (by simp [fAs, h5, h17]), rfl⟩
  have h5 := bI_e h5
  refine V_bipush (pc := 8) (v := (-101)) dX8_as_8 (by decide) ?_
  refine V_iret (pc := 10) dX8_as_10 rfl ?_
  exact ⟨congrArg (fun z => some (Value.int z)) (by simp [fAs, h5]), rfl⟩
theorem dX8_homeMany_0 : decode cX8_homeMany 0 = .ok (.iconst 0, 1) := by decide +kernel
theorem dX8_homeMany_1 : decode cX8_homeMany 1 = .ok (.istore_n 1, 1) := by decide +kernel
theorem dX8_homeMany_2 : decode cX8_homeMany 2 = .ok (.iconst 0, 1) := by decide +kernel
theorem dX8_homeMany_3 : decode cX8_homeMany 3 = .ok (.istore_n 2, 1) := by decide +kernel
theorem dX8_homeMany_4 : decode cX8_homeMany 4 = .ok (.iload_n 2, 1) := by decide +kernel
theorem dX8_homeMany_5 : decode cX8_homeMany 5 = .ok (.aload_n 0, 1) := by decide +kernel
theorem dX8_homeMany_6 : decode cX8_homeMany 6 = .ok (.getfield 129, 3) := by decide +kernel
theorem dX8_homeMany_9 : decode cX8_homeMany 9 = .ok (.if_icmp .ge 28, 3) := by decide +kernel
theorem dX8_homeMany_12 : decode cX8_homeMany 12 = .ok (.iload_n 1, 1) := by decide +kernel
theorem dX8_homeMany_13 : decode cX8_homeMany 13 = .ok (.aload_n 0, 1) := by decide +kernel
theorem dX8_homeMany_14 : decode cX8_homeMany 14 = .ok (.getfield 19, 3) := by decide +kernel
theorem dX8_homeMany_17 : decode cX8_homeMany 17 = .ok (.iload_n 2, 1) := by decide +kernel
theorem dX8_homeMany_18 : decode cX8_homeMany 18 = .ok (.iaload, 1) := by decide +kernel
theorem dX8_homeMany_19 : decode cX8_homeMany 19 = .ok (.bipush 9, 2) := by decide +kernel
theorem dX8_homeMany_21 : decode cX8_homeMany 21 = .ok (.if_icmp .ne 7, 3) := by decide +kernel
theorem dX8_homeMany_24 : decode cX8_homeMany 24 = .ok (.iconst 1, 1) := by decide +kernel
theorem dX8_homeMany_25 : decode cX8_homeMany 25 = .ok (.goto 4, 3) := by decide +kernel
theorem dX8_homeMany_28 : decode cX8_homeMany 28 = .ok (.iconst 0, 1) := by decide +kernel
theorem dX8_homeMany_29 : decode cX8_homeMany 29 = .ok (.iadd, 1) := by decide +kernel
theorem dX8_homeMany_30 : decode cX8_homeMany 30 = .ok (.istore_n 1, 1) := by decide +kernel
theorem dX8_homeMany_31 : decode cX8_homeMany 31 = .ok (.iinc 2 1, 3) := by decide +kernel
theorem dX8_homeMany_34 : decode cX8_homeMany 34 = .ok (.goto (-30), 3) := by decide +kernel
theorem dX8_homeMany_37 : decode cX8_homeMany 37 = .ok (.iload_n 1, 1) := by decide +kernel
theorem dX8_homeMany_38 : decode cX8_homeMany 38 = .ok (.ireturn, 1) := by decide +kernel
set_option maxHeartbeats 4000000 in
set_option maxRecDepth 100000 in
theorem c_X8_homeMany {l : Launch} {g : GW} {a : AT}  (μ : Mm) (hO : AOK a) (hM : RM μ a)  : Con l g yX8_homeMany cX8_homeMany 3 (some .int) 0 [.ref 65] μ (fun r μ' => r = some (.int (nI (homeT (sP (aS a)) (sN (aS a))))) ∧ μ' = μ) := by
  obtain ⟨m1, m2, m3, m4, m5, m6, m7, m8, m9, m10, m11, m12, m13⟩ := id hM
  obtain ⟨o1, o2, o3, o4, o5, ⟨s1, s2, s3, s4⟩, oK, o8, o9, o10⟩ := id hO
  refine Con.of [.ref 65, .null, .null] 2 (by decide +kernel) (Nat.le_of_ble_eq_true rfl) rfl ?_
  refine V_iconst (pc := 0) (v := 0) dX8_homeMany_0 (by decide) ?_
  refine V_istore1 (pc := 1) dX8_homeMany_1 (by decide) rfl ?_
  refine V_iconst (pc := 2) (v := 0) dX8_homeMany_2 (by decide) ?_
  refine V_istore2 (pc := 3) dX8_homeMany_3 (by decide) rfl ?_
  have loop : ∀ (n i : Nat) (acc : Int32), i ≤ sN (aS a) → sN (aS a) < i + n → (acc = nI (homeT (sP (aS a)) i)) → V l g RX8 cX8_homeMany 3 (some .int) 0 4 [.ref 65, .int acc, .int (nI i)] [] μ (fun r μ' => r = some (.int (nI (homeT (sP (aS a)) (sN (aS a))))) ∧ μ' = μ) := by
    intro n
    induction n with
    | zero => intro i acc h1 h2; exact absurd h2 (by omega)
    | succ n ih =>
      intro i acc hle hfu hacc
      refine V_iload_n (pc := 4) dX8_homeMany_4 rfl rfl ?_
      refine V_aload_n (pc := 5) dX8_homeMany_5 rfl rfl ?_
      refine V_getI (pc := 6) (ci := 8) (j := 5) dX8_homeMany_6 fl_X8_129 (fun _ _ _ _ => rfl) (by decide) rfl ?_
      refine V_icmpge (pc := 9) (tgt := 37) dX8_homeMany_9 (by decide) (fun h9 => ?_) (fun h9 => ?_)
      · rw [m5, nI_leI (by omega) (by omega)] at h9; obtain rfl : i = sN (aS a) := by omega
        refine V_iload_n (pc := 37) dX8_homeMany_37 rfl rfl ?_
        refine V_iret (pc := 38) dX8_homeMany_38 rfl ?_
        exact ⟨by rw [hacc], rfl⟩
      rw [m5, nI_leI (by omega) (by omega)] at h9; have hlt : i < sN (aS a) := (by omega); have hp9 := (s4 i (by omega)).2.1
      refine V_iload_n (pc := 12) dX8_homeMany_12 rfl rfl ?_
      refine V_aload_n (pc := 13) dX8_homeMany_13 rfl rfl ?_
      refine V_getR (pc := 14) (ci := 8) (j := 7) (k2 := 69) dX8_homeMany_14 fl_X8_19 (fun _ _ _ _ => rfl) (by decide) rfl (rf_8_7 rfl) ?_
      refine V_iload_n (pc := 17) dX8_homeMany_17 rfl rfl ?_
      refine V_iald (pc := 18) (j := i) dX8_homeMany_18 (by decide) rfl rfl (by show i < 6; omega) ?_
      rw [(m6 i hlt).2.1]
      refine V_bipush (pc := 19) (v := 9) dX8_homeMany_19 (by decide) ?_
      refine V_icmpne (pc := 21) (tgt := 28) dX8_homeMany_21 (by decide) (fun h21 => ?_) (fun h21 => ?_)
      · have h21 := mt (nI_eq (a := sP (aS a) i) (b := 9) (by omega) (by omega)).mpr h21
        refine V_iconst (pc := 28) (v := 0) dX8_homeMany_28 (by decide) ?_
        refine V_iadd (pc := 29) dX8_homeMany_29 ?_
        refine V_istore1 (pc := 30) dX8_homeMany_30 (by decide) rfl ?_
        refine V_iinc2 (pc := 31) (v := nI (i + 1)) dX8_homeMany_31 (nI_1 i) (by decide) rfl ?_
        refine V_goto (pc := 34) (tgt := 4) dX8_homeMany_34 (by decide) ?_
        exact ih (i + 1) _ (by omega) (by omega) (by show _ = nI (homeT (sP (aS a)) i + if sP (aS a) i = 9 then 1 else 0); first | (rw [if_neg h21, hacc]; exact nI_add _ 0) | (rw [if_pos h21, hacc]; exact nI_1 _))
      have h21 := (nI_eq (a := sP (aS a) i) (b := 9) (by omega) (by omega)).mp h21
      refine V_iconst (pc := 24) (v := 1) dX8_homeMany_24 (by decide) ?_
      refine V_goto (pc := 25) (tgt := 29) dX8_homeMany_25 (by decide) ?_
      refine V_iadd (pc := 29) dX8_homeMany_29 ?_
      refine V_istore1 (pc := 30) dX8_homeMany_30 (by decide) rfl ?_
      refine V_iinc2 (pc := 31) (v := nI (i + 1)) dX8_homeMany_31 (nI_1 i) (by decide) rfl ?_
      refine V_goto (pc := 34) (tgt := 4) dX8_homeMany_34 (by decide) ?_
      exact ih (i + 1) _ (by omega) (by omega) (by show _ = nI (homeT (sP (aS a)) i + if sP (aS a) i = 9 then 1 else 0); first | (rw [if_neg h21, hacc]; exact nI_add _ 0) | (rw [if_pos h21, hacc]; exact nI_1 _))
  exact loop (sN (aS a) + 1) 0 _ (by omega) (by omega) rfl
theorem dX8_spentBy_0 : decode cX8_spentBy 0 = .ok (.iload_n 2, 1) := by decide +kernel
theorem dX8_spentBy_1 : decode cX8_spentBy 1 = .ok (.iconst (-1), 1) := by decide +kernel
theorem dX8_spentBy_2 : decode cX8_spentBy 2 = .ok (.if_icmp .eq 8, 3) := by decide +kernel
theorem dX8_spentBy_5 : decode cX8_spentBy 5 = .ok (.iload_n 0, 1) := by decide +kernel
theorem dX8_spentBy_6 : decode cX8_spentBy 6 = .ok (.iconst 4, 1) := by decide +kernel
theorem dX8_spentBy_7 : decode cX8_spentBy 7 = .ok (.if_icmp .ne 7, 3) := by decide +kernel
theorem dX8_spentBy_10 : decode cX8_spentBy 10 = .ok (.iload_n 1, 1) := by decide +kernel
theorem dX8_spentBy_11 : decode cX8_spentBy 11 = .ok (.goto 8, 3) := by decide +kernel
theorem dX8_spentBy_14 : decode cX8_spentBy 14 = .ok (.iload_n 1, 1) := by decide +kernel
theorem dX8_spentBy_15 : decode cX8_spentBy 15 = .ok (.iconst 1, 1) := by decide +kernel
theorem dX8_spentBy_16 : decode cX8_spentBy 16 = .ok (.iload_n 2, 1) := by decide +kernel
theorem dX8_spentBy_17 : decode cX8_spentBy 17 = .ok (.ishl, 1) := by decide +kernel
theorem dX8_spentBy_18 : decode cX8_spentBy 18 = .ok (.ior, 1) := by decide +kernel
theorem dX8_spentBy_19 : decode cX8_spentBy 19 = .ok (.ireturn, 1) := by decide +kernel
set_option maxHeartbeats 4000000 in
set_option maxRecDepth 100000 in
theorem c_X8_spentBy {l : Launch} {g : GW} {κ S k : Nat} (μ : Mm) (hκ : κ ≤ 4) (hS : S < 64) (hk : k ≤ 6) : Con l g yX8_spentBy cX8_spentBy 3 (some .int) 0 [.int (nI κ), .int (nI S), .int (cI k)] μ (fun r μ' => r = some (.int (nI (spB κ S k))) ∧ μ' = μ) := by
  refine Con.of [.int (nI κ), .int (nI S), .int (cI k)] 0 (by decide +kernel) (Nat.le_of_ble_eq_true rfl) rfl ?_
  refine V_iload_n (pc := 0) dX8_spentBy_0 rfl rfl ?_
  refine V_iconst (pc := 1) (v := (-1)) dX8_spentBy_1 (by decide) ?_
  refine V_icmpeq (pc := 2) (tgt := 10) dX8_spentBy_2 (by decide) (fun h2 => ?_) (fun h2 => ?_)
  · have h2 := (cI_m1 (by omega)).mp h2
    refine V_iload_n (pc := 10) dX8_spentBy_10 rfl rfl ?_
    refine V_goto (pc := 11) (tgt := 19) dX8_spentBy_11 (by decide) ?_
    refine V_iret (pc := 19) dX8_spentBy_19 rfl ?_
    refine ⟨congrArg (fun z => some (Value.int z)) ?_, rfl⟩
    first
    | (rw [show spB κ S k = S from if_pos (Or.inl h2)])
    | (rw [show spB κ S k = S from if_pos (Or.inr h7)])
    | (rw [show spB κ S k = S ||| 2 ^ (k - 1) from if_neg (fun q => q.elim h2 h7), show cI k = nI (k - 1) from by rw [← cI_s, Nat.sub_add_cancel (by omega)]]; exact bit_set S hS (k - 1) (by omega))
  have h2 := mt (cI_m1 (a := k) (by omega)).mpr h2
  refine V_iload_n (pc := 5) dX8_spentBy_5 rfl rfl ?_
  refine V_iconst (pc := 6) (v := 4) dX8_spentBy_6 (by decide) ?_
  refine V_icmpne (pc := 7) (tgt := 14) dX8_spentBy_7 (by decide) (fun h7 => ?_) (fun h7 => ?_)
  · have h7 := mt (nI_eq (a := κ) (b := 4) (by omega) (by omega)).mpr h7
    refine V_iload_n (pc := 14) dX8_spentBy_14 rfl rfl ?_
    refine V_iconst (pc := 15) (v := 1) dX8_spentBy_15 (by decide) ?_
    refine V_iload_n (pc := 16) dX8_spentBy_16 rfl rfl ?_
    refine V_ishl (pc := 17) dX8_spentBy_17 ?_
    refine V_ior (pc := 18) dX8_spentBy_18 ?_
    refine V_iret (pc := 19) dX8_spentBy_19 rfl ?_
    refine ⟨congrArg (fun z => some (Value.int z)) ?_, rfl⟩
    first
    | (rw [show spB κ S k = S from if_pos (Or.inl h2)])
    | (rw [show spB κ S k = S from if_pos (Or.inr h7)])
    | (rw [show spB κ S k = S ||| 2 ^ (k - 1) from if_neg (fun q => q.elim h2 h7), show cI k = nI (k - 1) from by rw [← cI_s, Nat.sub_add_cancel (by omega)]]; exact bit_set S hS (k - 1) (by omega))
  have h7 := (nI_eq (a := κ) (b := 4) (by omega) (by omega)).mp h7
  refine V_iload_n (pc := 10) dX8_spentBy_10 rfl rfl ?_
  refine V_goto (pc := 11) (tgt := 19) dX8_spentBy_11 (by decide) ?_
  refine V_iret (pc := 19) dX8_spentBy_19 rfl ?_
  refine ⟨congrArg (fun z => some (Value.int z)) ?_, rfl⟩
  first
  | (rw [show spB κ S k = S from if_pos (Or.inl h2)])
  | (rw [show spB κ S k = S from if_pos (Or.inr h7)])
  | (rw [show spB κ S k = S ||| 2 ^ (k - 1) from if_neg (fun q => q.elim h2 h7), show cI k = nI (k - 1) from by rw [← cI_s, Nat.sub_add_cancel (by omega)]]; exact bit_set S hS (k - 1) (by omega))
theorem dX8_at_0 : decode cX8_at 0 = .ok (.sipush 640, 3) := by decide +kernel
theorem dX8_at_3 : decode cX8_at 3 = .ok (.iload_n 0, 1) := by decide +kernel
theorem dX8_at_4 : decode cX8_at 4 = .ok (.imul, 1) := by decide +kernel
theorem dX8_at_5 : decode cX8_at 5 = .ok (.bipush 10, 2) := by decide +kernel
theorem dX8_at_7 : decode cX8_at 7 = .ok (.iload_n 1, 1) := by decide +kernel
theorem dX8_at_8 : decode cX8_at 8 = .ok (.imul, 1) := by decide +kernel
theorem dX8_at_9 : decode cX8_at 9 = .ok (.iadd, 1) := by decide +kernel
theorem dX8_at_10 : decode cX8_at 10 = .ok (.iload_n 2, 1) := by decide +kernel
theorem dX8_at_11 : decode cX8_at 11 = .ok (.iadd, 1) := by decide +kernel
theorem dX8_at_12 : decode cX8_at 12 = .ok (.ireturn, 1) := by decide +kernel
set_option maxHeartbeats 4000000 in
set_option maxRecDepth 100000 in
theorem c_X8_at {l : Launch} {g : GW} {l2 S p : Nat} (μ : Mm)  : Con l g yX8_at cX8_at 3 (some .int) 0 [.int (nI l2), .int (nI S), .int (nI p)] μ (fun r μ' => r = some (.int (nI (640 * l2 + 10 * S + p))) ∧ μ' = μ) := by
  refine Con.of [.int (nI l2), .int (nI S), .int (nI p)] 0 (by decide +kernel) (Nat.le_of_ble_eq_true rfl) rfl ?_
  refine V_sipush (pc := 0) (v := 640) dX8_at_0 (by decide) ?_
  refine V_iload_n (pc := 3) dX8_at_3 rfl rfl ?_
  refine V_imul (pc := 4) dX8_at_4 ?_
  refine V_bipush (pc := 5) (v := 10) dX8_at_5 (by decide) ?_
  refine V_iload_n (pc := 7) dX8_at_7 rfl rfl ?_
  refine V_imul (pc := 8) dX8_at_8 ?_
  refine V_iadd (pc := 9) dX8_at_9 ?_
  refine V_iload_n (pc := 10) dX8_at_10 rfl rfl ?_
  refine V_iadd (pc := 11) dX8_at_11 ?_
  refine V_iret (pc := 12) dX8_at_12 rfl ?_
  exact ⟨congrArg (fun z => some (Value.int z)) (by rw [show (640 : Int32) = nI 640 from rfl, show (10 : Int32) = nI 10 from rfl, pk_mul, pk_mul, nI_add, nI_add]), rfl⟩
theorem dX8_power_0 : decode cX8_power 0 = .ok (.lconst 1, 1) := by decide +kernel
theorem dX8_power_1 : decode cX8_power 1 = .ok (.lstore_n 1, 1) := by decide +kernel
theorem dX8_power_2 : decode cX8_power 2 = .ok (.iconst 0, 1) := by decide +kernel
theorem dX8_power_3 : decode cX8_power 3 = .ok (.istore_n 3, 1) := by decide +kernel
theorem dX8_power_4 : decode cX8_power 4 = .ok (.iload_n 3, 1) := by decide +kernel
theorem dX8_power_5 : decode cX8_power 5 = .ok (.iload_n 0, 1) := by decide +kernel
theorem dX8_power_6 : decode cX8_power 6 = .ok (.if_icmp .ge 15, 3) := by decide +kernel
theorem dX8_power_9 : decode cX8_power 9 = .ok (.lload_n 1, 1) := by decide +kernel
theorem dX8_power_10 : decode cX8_power 10 = .ok (.ldc2_w 195, 3) := by decide +kernel
theorem dX8_power_13 : decode cX8_power 13 = .ok (.lmul, 1) := by decide +kernel
theorem dX8_power_14 : decode cX8_power 14 = .ok (.lstore_n 1, 1) := by decide +kernel
theorem dX8_power_15 : decode cX8_power 15 = .ok (.iinc 3 1, 3) := by decide +kernel
theorem dX8_power_18 : decode cX8_power 18 = .ok (.goto (-14), 3) := by decide +kernel
theorem dX8_power_21 : decode cX8_power 21 = .ok (.lload_n 1, 1) := by decide +kernel
theorem dX8_power_22 : decode cX8_power 22 = .ok (.lreturn, 1) := by decide +kernel
set_option maxHeartbeats 4000000 in
set_option maxRecDepth 100000 in
theorem c_X8_power {l : Launch} {g : GW} {d : Nat} (μ : Mm) (hd : d ≤ 6) : Con l g yX8_power cX8_power 4 (some .long) 0 [.int (nI d)] μ (fun r μ' => r = some (.long (lN (30 ^ d))) ∧ μ' = μ) := by
  refine Con.of [.int (nI d), .null, .null, .null] 3 (by decide +kernel) (Nat.le_of_ble_eq_true rfl) rfl ?_
  refine V_lconst (pc := 0) (v := 1) dX8_power_0 (by decide) ?_
  refine V_lstore1 (pc := 1) dX8_power_1 (by decide) rfl ?_
  refine V_iconst (pc := 2) (v := 0) dX8_power_2 (by decide) ?_
  refine V_istore3 (pc := 3) dX8_power_3 (by decide) rfl ?_
  have loop : ∀ (n i : Nat) (u : Int64), i ≤ d → d < i + n → (u = lN (p30N i)) → V l g RX8 cX8_power 4 (some .long) 0 4 [.int (nI d), .long u, .null, .int (nI i)] [] μ (fun r μ' => r = some (.long (lN (30 ^ d))) ∧ μ' = μ) := by
    intro n
    induction n with
    | zero => intro i u h1 h2; exact absurd h2 (by omega)
    | succ n ih =>
      intro i u hle hfu hu
      refine V_iload_n (pc := 4) dX8_power_4 rfl rfl ?_
      refine V_iload_n (pc := 5) dX8_power_5 rfl rfl ?_
      refine V_icmpge (pc := 6) (tgt := 21) dX8_power_6 (by decide) (fun h6 => ?_) (fun h6 => ?_)
      · rw [nI_leI (by omega) (by omega)] at h6; obtain rfl : d = i := by omega
        refine V_lload_n (pc := 21) dX8_power_21 rfl rfl ?_
        refine V_lret (pc := 22) dX8_power_22 rfl ?_
        exact ⟨by rw [hu, p30N_eq], rfl⟩
      rw [nI_leI (by omega) (by omega)] at h6; have hlt : i < d := by omega
      refine V_lload_n (pc := 9) dX8_power_9 rfl rfl ?_
      refine V_ldc2 (pc := 10) (v := 30) ct_X8_195 dX8_power_10 ?_
      refine V_lmul (pc := 13) dX8_power_13 ?_
      refine V_lstore1 (pc := 14) dX8_power_14 (by decide) rfl ?_
      refine V_iinc3 (pc := 15) (v := nI (i + 1)) dX8_power_15 (nI_1 i) (by decide) rfl ?_
      refine V_goto (pc := 18) (tgt := 4) dX8_power_18 (by decide) ?_
      exact ih (i + 1) _ (by omega) (by omega) (by rw [hu, show (30 : Int64) = lN 30 from rfl, lN_mul]; rfl)
  exact loop (d + 1) 0 _ (by omega) (by omega) rfl
theorem dX8_lowest_0 : decode cX8_lowest 0 = .ok (.lload_n 0, 1) := by decide +kernel
theorem dX8_lowest_1 : decode cX8_lowest 1 = .ok (.lstore 5, 2) := by decide +kernel
theorem dX8_lowest_3 : decode cX8_lowest 3 = .ok (.lload_n 2, 1) := by decide +kernel
theorem dX8_lowest_4 : decode cX8_lowest 4 = .ok (.lstore 7, 2) := by decide +kernel
theorem dX8_lowest_6 : decode cX8_lowest 6 = .ok (.lload 7, 2) := by decide +kernel
theorem dX8_lowest_8 : decode cX8_lowest 8 = .ok (.lconst 0, 1) := by decide +kernel
theorem dX8_lowest_9 : decode cX8_lowest 9 = .ok (.lcmp, 1) := by decide +kernel
theorem dX8_lowest_10 : decode cX8_lowest 10 = .ok (.ifCond .eq 21, 3) := by decide +kernel
theorem dX8_lowest_13 : decode cX8_lowest 13 = .ok (.lload 5, 2) := by decide +kernel
theorem dX8_lowest_15 : decode cX8_lowest 15 = .ok (.lload 7, 2) := by decide +kernel
theorem dX8_lowest_17 : decode cX8_lowest 17 = .ok (.lrem, 1) := by decide +kernel
theorem dX8_lowest_18 : decode cX8_lowest 18 = .ok (.lstore 9, 2) := by decide +kernel
theorem dX8_lowest_20 : decode cX8_lowest 20 = .ok (.lload 7, 2) := by decide +kernel
theorem dX8_lowest_22 : decode cX8_lowest 22 = .ok (.lstore 5, 2) := by decide +kernel
theorem dX8_lowest_24 : decode cX8_lowest 24 = .ok (.lload 9, 2) := by decide +kernel
theorem dX8_lowest_26 : decode cX8_lowest 26 = .ok (.lstore 7, 2) := by decide +kernel
theorem dX8_lowest_28 : decode cX8_lowest 28 = .ok (.goto (-22), 3) := by decide +kernel
theorem dX8_lowest_31 : decode cX8_lowest 31 = .ok (.iload 4, 2) := by decide +kernel
theorem dX8_lowest_33 : decode cX8_lowest 33 = .ok (.ifCond .ne 10, 3) := by decide +kernel
theorem dX8_lowest_36 : decode cX8_lowest 36 = .ok (.lload_n 0, 1) := by decide +kernel
theorem dX8_lowest_37 : decode cX8_lowest 37 = .ok (.lload 5, 2) := by decide +kernel
theorem dX8_lowest_39 : decode cX8_lowest 39 = .ok (.ldiv, 1) := by decide +kernel
theorem dX8_lowest_40 : decode cX8_lowest 40 = .ok (.goto 7, 3) := by decide +kernel
theorem dX8_lowest_43 : decode cX8_lowest 43 = .ok (.lload_n 2, 1) := by decide +kernel
theorem dX8_lowest_44 : decode cX8_lowest 44 = .ok (.lload 5, 2) := by decide +kernel
theorem dX8_lowest_46 : decode cX8_lowest 46 = .ok (.ldiv, 1) := by decide +kernel
theorem dX8_lowest_47 : decode cX8_lowest 47 = .ok (.lreturn, 1) := by decide +kernel
set_option maxHeartbeats 4000000 in
set_option maxRecDepth 100000 in
theorem c_X8_lowest {l : Launch} {g : GW} {a0 b0 : Nat} {z : Int32} (μ : Mm) (ha0 : a0 < 2 ^ 31) (hb0 : b0 < 2 ^ 31) (hb1 : 0 < b0) : Con l g yX8_lowest cX8_lowest 11 (some .long) 0 [.long (lN a0), .long (lN b0), .int z] μ (fun r μ' => r = some (.long (lN ((if z = 0 then a0 else b0) / Nat.gcd a0 b0))) ∧ μ' = μ) := by
  have hg0 : 0 < Nat.gcd a0 b0 := Nat.gcd_pos_of_pos_right _ hb1
  have hg2 : Nat.gcd a0 b0 ≤ b0 := Nat.gcd_le_right _ hb1
  refine Con.of [.long (lN a0), .null, .long (lN b0), .null, .int z, .null, .null, .null, .null, .null, .null] 6 (by decide +kernel) (Nat.le_of_ble_eq_true rfl) rfl ?_
  refine V_lload_n (pc := 0) dX8_lowest_0 rfl rfl ?_
  refine V_lstore5 (pc := 1) dX8_lowest_1 (by decide) rfl ?_
  refine V_lload_n (pc := 3) dX8_lowest_3 rfl rfl ?_
  refine V_lstore7 (pc := 4) dX8_lowest_4 (by decide) rfl ?_
  have loop : ∀ (n a b : Nat) (y9 y10 : Value), b < n → a < 2 ^ 31 → b < 2 ^ 31 → Nat.gcd a b = Nat.gcd a0 b0 → V l g RX8 cX8_lowest 11 (some .long) 0 6 [.long (lN a0), .null, .long (lN b0), .null, .int z, .long (lN a), .null, .long (lN b), .null, y9, y10] [] μ (fun r μ' => r = some (.long (lN ((if z = 0 then a0 else b0) / Nat.gcd a0 b0))) ∧ μ' = μ) := by
    intro n
    induction n with
    | zero => intro a b y9 y10 h; exact absurd h (by omega)
    | succ n ih =>
      intro a b y9 y10 hn ha hb hg
      refine V_lload (pc := 6) dX8_lowest_6 rfl ?_
      refine V_lconst (pc := 8) (v := 0) dX8_lowest_8 (by decide) ?_
      refine V_lcmp (pc := 9) dX8_lowest_9 ?_
      refine V_ifeq (pc := 10) (tgt := 31) dX8_lowest_10 (by decide) (fun h10 => ?_) (fun h10 => ?_)
      · rw [cmp0 (by omega)] at h10; subst h10; rw [Nat.gcd_zero_right] at hg
        refine V_iload (pc := 31) dX8_lowest_31 rfl ?_
        refine V_ifne (pc := 33) (tgt := 43) dX8_lowest_33 (by decide) (fun h33 => ?_) (fun h33 => ?_)
        · refine V_lload_n (pc := 43) dX8_lowest_43 rfl rfl ?_
          refine V_lload (pc := 44) dX8_lowest_44 rfl ?_
          refine V_ldiv (pc := 46) dX8_lowest_46 (fun q => absurd ((pk_lEQ (a := a) (b := 0) (by omega) (by decide)).mp q) (by omega)) ?_
          refine V_lret (pc := 47) dX8_lowest_47 rfl ?_
          refine ⟨congrArg (fun z => some (Value.long z)) ?_, rfl⟩
          first
          | (rw [if_neg h33, ← hg]; exact pk_lDiv (by omega) (by omega) (by omega))
          | (rw [if_pos h33, ← hg]; exact pk_lDiv (by omega) (by omega) (by omega))
        refine V_lload_n (pc := 36) dX8_lowest_36 rfl rfl ?_
        refine V_lload (pc := 37) dX8_lowest_37 rfl ?_
        refine V_ldiv (pc := 39) dX8_lowest_39 (fun q => absurd ((pk_lEQ (a := a) (b := 0) (by omega) (by decide)).mp q) (by omega)) ?_
        refine V_goto (pc := 40) (tgt := 47) dX8_lowest_40 (by decide) ?_
        refine V_lret (pc := 47) dX8_lowest_47 rfl ?_
        refine ⟨congrArg (fun z => some (Value.long z)) ?_, rfl⟩
        first
        | (rw [if_neg h33, ← hg]; exact pk_lDiv (by omega) (by omega) (by omega))
        | (rw [if_pos h33, ← hg]; exact pk_lDiv (by omega) (by omega) (by omega))
      rw [cmp0 (by omega)] at h10
      refine V_lload (pc := 13) dX8_lowest_13 rfl ?_
      refine V_lload (pc := 15) dX8_lowest_15 rfl ?_
      refine V_lrem (pc := 17) dX8_lowest_17 (fun q => h10 ((pk_lEQ (a := b) (b := 0) (by omega) (by decide)).mp q)) ?_
      rw [pk_lRem (by omega) (by omega) (by omega)]
      refine V_lstore9 (pc := 18) dX8_lowest_18 (by decide) rfl ?_
      refine V_lload (pc := 20) dX8_lowest_20 rfl ?_
      refine V_lstore5 (pc := 22) dX8_lowest_22 (by decide) rfl ?_
      refine V_lload (pc := 24) dX8_lowest_24 rfl ?_
      refine V_lstore7 (pc := 26) dX8_lowest_26 (by decide) rfl ?_
      refine V_goto (pc := 28) (tgt := 6) dX8_lowest_28 (by decide) ?_
      exact ih b (a % b) _ _ (by have := Nat.mod_lt a (show b > 0 by omega); omega) hb (by have := Nat.mod_lt a (show b > 0 by omega); omega) (by rw [← gcd_step h10]; exact hg)
  exact loop (b0 + 1) a0 b0 _ _ (by omega) ha0 hb0 rfl
