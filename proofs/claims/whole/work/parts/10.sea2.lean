theorem dX4_beginCall_0 : decode cX4_beginCall 0 = .ok (.aload_n 0, 1) := by decide +kernel
theorem dX4_beginCall_1 : decode cX4_beginCall 1 = .ok (.getfield 11, 3) := by decide +kernel
theorem dX4_beginCall_4 : decode cX4_beginCall 4 = .ok (.iload_n 1, 1) := by decide +kernel
theorem dX4_beginCall_5 : decode cX4_beginCall 5 = .ok (.aaload, 1) := by decide +kernel
theorem dX4_beginCall_6 : decode cX4_beginCall 6 = .ok (.iload_n 2, 1) := by decide +kernel
theorem dX4_beginCall_7 : decode cX4_beginCall 7 = .ok (.putfield 67, 3) := by decide +kernel
theorem dX4_beginCall_10 : decode cX4_beginCall 10 = .ok (.iload_n 2, 1) := by decide +kernel
theorem dX4_beginCall_11 : decode cX4_beginCall 11 = .ok (.iconst (-1), 1) := by decide +kernel
theorem dX4_beginCall_12 : decode cX4_beginCall 12 = .ok (.if_icmp .eq 28, 3) := by decide +kernel
theorem dX4_beginCall_15 : decode cX4_beginCall 15 = .ok (.aload_n 0, 1) := by decide +kernel
theorem dX4_beginCall_16 : decode cX4_beginCall 16 = .ok (.getfield 11, 3) := by decide +kernel
theorem dX4_beginCall_19 : decode cX4_beginCall 19 = .ok (.iload_n 1, 1) := by decide +kernel
theorem dX4_beginCall_20 : decode cX4_beginCall 20 = .ok (.aaload, 1) := by decide +kernel
theorem dX4_beginCall_21 : decode cX4_beginCall 21 = .ok (.iload_n 2, 1) := by decide +kernel
theorem dX4_beginCall_22 : decode cX4_beginCall 22 = .ok (.invokevirtual 77, 3) := by decide +kernel
theorem dX4_beginCall_25 : decode cX4_beginCall 25 = .ok (.ifCond .eq 15, 3) := by decide +kernel
theorem dX4_beginCall_28 : decode cX4_beginCall 28 = .ok (.aload_n 0, 1) := by decide +kernel
theorem dX4_beginCall_29 : decode cX4_beginCall 29 = .ok (.dup, 1) := by decide +kernel
theorem dX4_beginCall_30 : decode cX4_beginCall 30 = .ok (.getfield 35, 3) := by decide +kernel
theorem dX4_beginCall_33 : decode cX4_beginCall 33 = .ok (.iconst 1, 1) := by decide +kernel
theorem dX4_beginCall_34 : decode cX4_beginCall 34 = .ok (.iload_n 2, 1) := by decide +kernel
theorem dX4_beginCall_35 : decode cX4_beginCall 35 = .ok (.ishl, 1) := by decide +kernel
theorem dX4_beginCall_36 : decode cX4_beginCall 36 = .ok (.ior, 1) := by decide +kernel
theorem dX4_beginCall_37 : decode cX4_beginCall 37 = .ok (.putfield 35, 3) := by decide +kernel
theorem dX4_beginCall_40 : decode cX4_beginCall 40 = .ok (.return_, 1) := by decide +kernel
set_option maxHeartbeats 4000000 in
set_option maxRecDepth 100000 in
theorem c_X4_beginCall {l : Launch} {g : GW} {s i c : Nat} {σ : SeaT} (μ : Mm) (hs : s = 4 ∨ s = 13 ∨ s = 22) (hS : SeaR μ s σ) (hi : i < 6) (hc : c ≤ 6) : Con l g yX4_beginCall cX4_beginCall 3 none 1 [.ref s, .int (nI i), .int (cI c)] μ (fun r μ' => r = none ∧ SeaR μ' s (begC σ i c) ∧ FrM (seaS s) μ μ') := by
  have hS0 := hS
  obtain ⟨hs1, hs2, hs3, hs4, hs5, hs6, hrow⟩ := seaF hs
  obtain ⟨r1, r2, r3, r4, r5, r6, r7, r8, r9⟩ := hS
  refine Con.of [.ref s, .int (nI i), .int (cI c)] 0 (by decide +kernel) (Nat.le_of_ble_eq_true rfl) rfl ?_
  refine V_aload_n (pc := 0) dX4_beginCall_0 rfl rfl ?_
  refine V_getR (pc := 1) (ci := 4) (j := 0) (k2 := (s + 1)) dX4_beginCall_1 fl_X4_11 (fun _ _ _ _ => rfl) (by first | decide | omega) (by first | rfl | assumption | exact (hrow _ (by omega)).2 | decide) (rf_4_0 (by first | rfl | assumption | exact (hrow _ (by omega)).2 | decide)) ?_
  refine V_iload_n (pc := 4) dX4_beginCall_4 rfl rfl ?_
  refine V_aald14 (pc := 5) (j := i) dX4_beginCall_5 (by first | decide | omega) (by first | rfl | assumption | exact (hrow _ (by omega)).2 | decide) rfl (by omega) ?_
  refine V_iload_n (pc := 6) dX4_beginCall_6 rfl rfl ?_
  refine V_putI (pc := 7) (ci := 5) (j := 2) dX4_beginCall_7 fl_X4_67 (fun _ _ _ _ _ => rfl) rfl rfl (by first | decide | omega) (by first | rfl | assumption | exact (hrow _ (by omega)).2 | decide) ?_
  have hS1 := hS0.setC hi hc rfl
  have hF1 : FrM (seaS s) μ (setI μ (s + 1 + 1 + i) 2 (cI c)) := FrM.rf.set (Or.inr (by omega))
  generalize setI μ (s + 1 + 1 + i) 2 (cI c) = μ1 at hS1 hF1 ⊢
  refine V_iload_n (pc := 10) dX4_beginCall_10 rfl rfl ?_
  refine V_iconst (pc := 11) (v := (-1)) dX4_beginCall_11 (by decide) ?_
  refine V_icmpeq (pc := 12) (tgt := 40) dX4_beginCall_12 (by decide) (fun h12 => ?_) (fun h12 => ?_)
  · have h12 := (cI_m1 (by omega)).mp h12
    refine V_vret (pc := 40) dX4_beginCall_40 rfl ?_
    first
      | exact ⟨rfl, by rw [show begC σ i c = wC σ i c from if_neg (fun q => q.1 h12)]; exact hS1, hF1⟩
      | exact ⟨rfl, by rw [show begC σ i (n + 1) = wC σ i (n + 1) from if_neg (fun q => by rw [hcc, hκ] at h25; simp at h25; exact q.2 h25)]; exact hS1, hF1⟩
      | exact ⟨rfl, by rw [show begC σ i (n + 1) = wS (wC σ i (n + 1)) (sS σ ||| 2 ^ n) from if_pos ⟨by omega, by rw [hcc, hκ] at h25; simpa using h25⟩]; exact hS1.setS (bit_set_lt _ r4 n (by omega)) (by rw [hS1.2.2.1, cI_s]; exact bit_set _ r4 n (by omega)), hF1.set (Or.inl rfl)⟩
  have h12 := mt (cI_m1 (a := c) (by omega)).mpr h12; obtain ⟨n, rfl⟩ : ∃ n, c = n + 1 := ⟨c - 1, by omega⟩
  refine V_aload_n (pc := 15) dX4_beginCall_15 rfl rfl ?_
  refine V_getR (pc := 16) (ci := 4) (j := 0) (k2 := (s + 1)) dX4_beginCall_16 fl_X4_11 (fun _ _ _ _ => rfl) (by first | decide | omega) (by first | rfl | assumption | exact (hrow _ (by omega)).2 | decide) (rf_4_0 (by first | rfl | assumption | exact (hrow _ (by omega)).2 | decide)) ?_
  refine V_iload_n (pc := 19) dX4_beginCall_19 rfl rfl ?_
  refine V_aald14 (pc := 20) (j := i) dX4_beginCall_20 (by first | decide | omega) (by first | rfl | assumption | exact (hrow _ (by omega)).2 | decide) rfl (by omega) ?_
  refine V_iload_n (pc := 21) dX4_beginCall_21 rfl rfl ?_
  refine V_inv1 (pc := 22) (ci := 5) dX4_beginCall_22 ml_X4_77 (by first | decide | omega) (by first | rfl | assumption | exact (hrow _ (by omega)).2 | decide) ⟨by decide, rfl⟩ (by decide) (Nat.le_of_ble_eq_true rfl) (c_X5_spends μ1 (by omega) (hrow i (by omega)).2 (hS1.2.2.2.2.2.2.2.1 i hi) hc) ?_
  rintro _ μ2 ⟨rfl, hμ⟩
  obtain rfl := hμ.symm
  have hκ : sK (wC σ i (n + 1)) i = sK σ i := rfl
  have hcc : sC (wC σ i (n + 1)) i = n + 1 := up1_eq
  refine V_ifeq (pc := 25) (tgt := 40) dX4_beginCall_25 (by decide) (fun h25 => ?_) (fun h25 => ?_)
  · have h25 := (bI_0 _).mp h25
    refine V_vret (pc := 40) dX4_beginCall_40 rfl ?_
    first
      | exact ⟨rfl, by rw [show begC σ i c = wC σ i c from if_neg (fun q => q.1 h12)]; exact hS1, hF1⟩
      | exact ⟨rfl, by rw [show begC σ i (n + 1) = wC σ i (n + 1) from if_neg (fun q => by rw [hcc, hκ] at h25; simp at h25; exact q.2 h25)]; exact hS1, hF1⟩
      | exact ⟨rfl, by rw [show begC σ i (n + 1) = wS (wC σ i (n + 1)) (sS σ ||| 2 ^ n) from if_pos ⟨by omega, by rw [hcc, hκ] at h25; simpa using h25⟩]; exact hS1.setS (bit_set_lt _ r4 n (by omega)) (by rw [hS1.2.2.1, cI_s]; exact bit_set _ r4 n (by omega)), hF1.set (Or.inl rfl)⟩
  have h25 : (sC (wC σ i (n + 1)) i == n + 1 && sK (wC σ i (n + 1)) i != 4) = true := by cases hf : (sC (wC σ i (n + 1)) i == n + 1 && sK (wC σ i (n + 1)) i != 4); exact absurd ((bI_0 _).mpr hf) h25; rfl
  refine V_aload_n (pc := 28) dX4_beginCall_28 rfl rfl ?_
  refine V_dup (pc := 29) dX4_beginCall_29 rfl ?_
  refine V_getI (pc := 30) (ci := 4) (j := 3) dX4_beginCall_30 fl_X4_35 (fun _ _ _ _ => rfl) (by first | decide | omega) (by first | rfl | assumption | exact (hrow _ (by omega)).2 | decide) ?_
  refine V_iconst (pc := 33) (v := 1) dX4_beginCall_33 (by decide) ?_
  refine V_iload_n (pc := 34) dX4_beginCall_34 rfl rfl ?_
  refine V_ishl (pc := 35) dX4_beginCall_35 ?_
  refine V_ior (pc := 36) dX4_beginCall_36 ?_
  refine V_putI (pc := 37) (ci := 4) (j := 3) dX4_beginCall_37 fl_X4_35 (fun _ _ _ _ _ => rfl) rfl rfl (by first | decide | omega) (by first | rfl | assumption | exact (hrow _ (by omega)).2 | decide) ?_
  refine V_vret (pc := 40) dX4_beginCall_40 rfl ?_
  first
    | exact ⟨rfl, by rw [show begC σ i c = wC σ i c from if_neg (fun q => q.1 h12)]; exact hS1, hF1⟩
    | exact ⟨rfl, by rw [show begC σ i (n + 1) = wC σ i (n + 1) from if_neg (fun q => by rw [hcc, hκ] at h25; simp at h25; exact q.2 h25)]; exact hS1, hF1⟩
    | exact ⟨rfl, by rw [show begC σ i (n + 1) = wS (wC σ i (n + 1)) (sS σ ||| 2 ^ n) from if_pos ⟨by omega, by rw [hcc, hκ] at h25; simpa using h25⟩]; exact hS1.setS (bit_set_lt _ r4 n (by omega)) (by rw [hS1.2.2.1, cI_s]; exact bit_set _ r4 n (by omega)), hF1.set (Or.inl rfl)⟩
theorem dX4_replaceCall_0 : decode cX4_replaceCall 0 = .ok (.aload_n 0, 1) := by decide +kernel
theorem dX4_replaceCall_1 : decode cX4_replaceCall 1 = .ok (.getfield 11, 3) := by decide +kernel
theorem dX4_replaceCall_4 : decode cX4_replaceCall 4 = .ok (.iload_n 1, 1) := by decide +kernel
theorem dX4_replaceCall_5 : decode cX4_replaceCall 5 = .ok (.aaload, 1) := by decide +kernel
theorem dX4_replaceCall_6 : decode cX4_replaceCall 6 = .ok (.getfield 67, 3) := by decide +kernel
theorem dX4_replaceCall_9 : decode cX4_replaceCall 9 = .ok (.istore_n 3, 1) := by decide +kernel
theorem dX4_replaceCall_10 : decode cX4_replaceCall 10 = .ok (.aload_n 0, 1) := by decide +kernel
theorem dX4_replaceCall_11 : decode cX4_replaceCall 11 = .ok (.getfield 11, 3) := by decide +kernel
theorem dX4_replaceCall_14 : decode cX4_replaceCall 14 = .ok (.iload_n 1, 1) := by decide +kernel
theorem dX4_replaceCall_15 : decode cX4_replaceCall 15 = .ok (.aaload, 1) := by decide +kernel
theorem dX4_replaceCall_16 : decode cX4_replaceCall 16 = .ok (.iconst (-1), 1) := by decide +kernel
theorem dX4_replaceCall_17 : decode cX4_replaceCall 17 = .ok (.putfield 67, 3) := by decide +kernel
theorem dX4_replaceCall_20 : decode cX4_replaceCall 20 = .ok (.iload_n 3, 1) := by decide +kernel
theorem dX4_replaceCall_21 : decode cX4_replaceCall 21 = .ok (.iconst (-1), 1) := by decide +kernel
theorem dX4_replaceCall_22 : decode cX4_replaceCall 22 = .ok (.if_icmp .eq 25, 3) := by decide +kernel
theorem dX4_replaceCall_25 : decode cX4_replaceCall 25 = .ok (.aload_n 0, 1) := by decide +kernel
theorem dX4_replaceCall_26 : decode cX4_replaceCall 26 = .ok (.iload_n 3, 1) := by decide +kernel
theorem dX4_replaceCall_27 : decode cX4_replaceCall 27 = .ok (.invokevirtual 70, 3) := by decide +kernel
theorem dX4_replaceCall_30 : decode cX4_replaceCall 30 = .ok (.ifCond .ne 17, 3) := by decide +kernel
theorem dX4_replaceCall_33 : decode cX4_replaceCall 33 = .ok (.aload_n 0, 1) := by decide +kernel
theorem dX4_replaceCall_34 : decode cX4_replaceCall 34 = .ok (.dup, 1) := by decide +kernel
theorem dX4_replaceCall_35 : decode cX4_replaceCall 35 = .ok (.getfield 35, 3) := by decide +kernel
theorem dX4_replaceCall_38 : decode cX4_replaceCall 38 = .ok (.iconst 1, 1) := by decide +kernel
theorem dX4_replaceCall_39 : decode cX4_replaceCall 39 = .ok (.iload_n 3, 1) := by decide +kernel
theorem dX4_replaceCall_40 : decode cX4_replaceCall 40 = .ok (.ishl, 1) := by decide +kernel
theorem dX4_replaceCall_41 : decode cX4_replaceCall 41 = .ok (.iconst (-1), 1) := by decide +kernel
theorem dX4_replaceCall_42 : decode cX4_replaceCall 42 = .ok (.ixor, 1) := by decide +kernel
theorem dX4_replaceCall_43 : decode cX4_replaceCall 43 = .ok (.iand, 1) := by decide +kernel
theorem dX4_replaceCall_44 : decode cX4_replaceCall 44 = .ok (.putfield 35, 3) := by decide +kernel
theorem dX4_replaceCall_47 : decode cX4_replaceCall 47 = .ok (.aload_n 0, 1) := by decide +kernel
theorem dX4_replaceCall_48 : decode cX4_replaceCall 48 = .ok (.iload_n 1, 1) := by decide +kernel
theorem dX4_replaceCall_49 : decode cX4_replaceCall 49 = .ok (.iload_n 2, 1) := by decide +kernel
theorem dX4_replaceCall_50 : decode cX4_replaceCall 50 = .ok (.invokevirtual 74, 3) := by decide +kernel
theorem dX4_replaceCall_53 : decode cX4_replaceCall 53 = .ok (.iload_n 3, 1) := by decide +kernel
theorem dX4_replaceCall_54 : decode cX4_replaceCall 54 = .ok (.ireturn, 1) := by decide +kernel
set_option maxHeartbeats 4000000 in
set_option maxRecDepth 100000 in
theorem c_X4_replaceCall {l : Launch} {g : GW} {s i c : Nat} {σ : SeaT} (μ : Mm) (hs : s = 4 ∨ s = 13 ∨ s = 22) (hS : SeaR μ s σ) (hi : i < 6) (hc : c ≤ 6) : Con l g yX4_replaceCall cX4_replaceCall 4 (some .int) 2 [.ref s, .int (nI i), .int (cI c)] μ (fun r μ' => r = some (.int (cI (sC σ i))) ∧ SeaR μ' s (repC σ i c) ∧ FrM (seaS s) μ μ') := by
  have hS0 := hS
  obtain ⟨hs1, hs2, hs3, hs4, hs5, hs6, hrow⟩ := seaF hs
  obtain ⟨r1, r2, r3, r4, r5, r6, r7, r8, r9⟩ := hS
  refine Con.of [.ref s, .int (nI i), .int (cI c), .null] 1 (by decide +kernel) (Nat.le_of_ble_eq_true rfl) rfl ?_
  refine V_aload_n (pc := 0) dX4_replaceCall_0 rfl rfl ?_
  refine V_getR (pc := 1) (ci := 4) (j := 0) (k2 := (s + 1)) dX4_replaceCall_1 fl_X4_11 (fun _ _ _ _ => rfl) (by first | decide | omega) (by first | rfl | assumption | exact (hrow _ (by omega)).2 | decide) (rf_4_0 (by first | rfl | assumption | exact (hrow _ (by omega)).2 | decide)) ?_
  refine V_iload_n (pc := 4) dX4_replaceCall_4 rfl rfl ?_
  refine V_aald14 (pc := 5) (j := i) dX4_replaceCall_5 (by first | decide | omega) (by first | rfl | assumption | exact (hrow _ (by omega)).2 | decide) rfl (by omega) ?_
  refine V_getI (pc := 6) (ci := 5) (j := 2) dX4_replaceCall_6 fl_X4_67 (fun _ _ _ _ => rfl) (by first | decide | omega) (by first | rfl | assumption | exact (hrow _ (by omega)).2 | decide) ?_
  refine V_istore3 (pc := 9) dX4_replaceCall_9 (by decide) rfl ?_
  refine V_aload_n (pc := 10) dX4_replaceCall_10 rfl rfl ?_
  refine V_getR (pc := 11) (ci := 4) (j := 0) (k2 := (s + 1)) dX4_replaceCall_11 fl_X4_11 (fun _ _ _ _ => rfl) (by first | decide | omega) (by first | rfl | assumption | exact (hrow _ (by omega)).2 | decide) (rf_4_0 (by first | rfl | assumption | exact (hrow _ (by omega)).2 | decide)) ?_
  refine V_iload_n (pc := 14) dX4_replaceCall_14 rfl rfl ?_
  refine V_aald14 (pc := 15) (j := i) dX4_replaceCall_15 (by first | decide | omega) (by first | rfl | assumption | exact (hrow _ (by omega)).2 | decide) rfl (by omega) ?_
  refine V_iconst (pc := 16) (v := (-1)) dX4_replaceCall_16 (by decide) ?_
  refine V_putI (pc := 17) (ci := 5) (j := 2) dX4_replaceCall_17 fl_X4_67 (fun _ _ _ _ _ => rfl) rfl rfl (by first | decide | omega) (by first | rfl | assumption | exact (hrow _ (by omega)).2 | decide) ?_
  have hS1 := hS0.setC (c := 0) (x := -1) hi (by omega) cI_0.symm
  have hF1 : FrM (seaS s) μ (setI μ (s + 1 + 1 + i) 2 (-1)) := FrM.rf.set (Or.inr (by omega))
  obtain ⟨z1, z2, z3, z4, z5, z6, z7, z8⟩ := r8 i hi
  rw [z5]
  generalize setI μ (s + 1 + 1 + i) 2 (-1) = μ1 at hS1 hF1 ⊢
  have J : ∀ μ2, SeaR μ2 s (if sC σ i ≠ 0 ∧ anyC (wC σ i 0) (sC σ i) (sN (wC σ i 0)) = false then wS (wC σ i 0) (clr (sS (wC σ i 0)) (sC σ i - 1)) else wC σ i 0) → FrM (seaS s) μ μ2 → V l g RX4 cX4_replaceCall 4 (some .int) 2 47 [.ref s, .int (nI i), .int (cI c), .int (cI (sC σ i))] [] μ2 (fun r μ' => r = some (.int (cI (sC σ i))) ∧ SeaR μ' s (repC σ i c) ∧ FrM (seaS s) μ μ') := by
    intro μ2 hx hF2
    refine V_aload_n (pc := 47) dX4_replaceCall_47 rfl rfl ?_
    refine V_iload_n (pc := 48) dX4_replaceCall_48 rfl rfl ?_
    refine V_iload_n (pc := 49) dX4_replaceCall_49 rfl rfl ?_
    refine V_inv2 (pc := 50) (ci := 4) dX4_replaceCall_50 ml_X4_74 (by first | decide | omega) (by first | rfl | assumption | exact (hrow _ (by omega)).2 | decide) ⟨by decide, rfl⟩ (by decide) (Nat.le_of_ble_eq_true rfl) (c_X4_beginCall μ2 hs hx hi hc) ?_
    rintro _ μ3 ⟨rfl, hS3, hF3⟩
    refine V_iload_n (pc := 53) dX4_replaceCall_53 rfl rfl ?_
    refine V_iret (pc := 54) dX4_replaceCall_54 rfl ?_
    exact ⟨rfl, hS3, hF2.tr hF3 (fun _ q => q)⟩
  refine V_iload_n (pc := 20) dX4_replaceCall_20 rfl rfl ?_
  refine V_iconst (pc := 21) (v := (-1)) dX4_replaceCall_21 (by decide) ?_
  refine V_icmpeq (pc := 22) (tgt := 47) dX4_replaceCall_22 (by decide) (fun h22 => ?_) (fun h22 => ?_)
  · have h22 := (cI_m1 (by omega)).mp h22; exact J _ (by rw [if_neg (fun q => q.1 h22)]; exact hS1) hF1
  have h22 := mt (cI_m1 (a := sC σ i) (by omega)).mpr h22
  refine V_aload_n (pc := 25) dX4_replaceCall_25 rfl rfl ?_
  refine V_iload_n (pc := 26) dX4_replaceCall_26 rfl rfl ?_
  refine V_inv1 (pc := 27) (ci := 4) dX4_replaceCall_27 ml_X4_70 (by first | decide | omega) (by first | rfl | assumption | exact (hrow _ (by omega)).2 | decide) ⟨by decide, rfl⟩ (by decide) (Nat.le_of_ble_eq_true rfl) (c_X4_isSpentToday μ1 hs hS1 z6) ?_
  rintro _ μ2 ⟨rfl, hμ⟩
  obtain rfl := hμ.symm
  refine V_ifne (pc := 30) (tgt := 47) dX4_replaceCall_30 (by decide) (fun h30 => ?_) (fun h30 => ?_)
  · have h30 : anyC (wC σ i 0) (sC σ i) (sN (wC σ i 0)) = true := (by cases hf : anyC (wC σ i 0) (sC σ i) (sN (wC σ i 0)); exact absurd ((bI_0 _).mpr hf) h30; rfl); exact J _ (by rw [if_neg (fun q => by rw [h30] at q; exact absurd q.2 (by decide))]; exact hS1) hF1
  have h30 := (bI_0 _).mp h30
  refine V_aload_n (pc := 33) dX4_replaceCall_33 rfl rfl ?_
  refine V_dup (pc := 34) dX4_replaceCall_34 rfl ?_
  refine V_getI (pc := 35) (ci := 4) (j := 3) dX4_replaceCall_35 fl_X4_35 (fun _ _ _ _ => rfl) (by first | decide | omega) (by first | rfl | assumption | exact (hrow _ (by omega)).2 | decide) ?_
  refine V_iconst (pc := 38) (v := 1) dX4_replaceCall_38 (by decide) ?_
  refine V_iload_n (pc := 39) dX4_replaceCall_39 rfl rfl ?_
  refine V_ishl (pc := 40) dX4_replaceCall_40 ?_
  refine V_iconst (pc := 41) (v := (-1)) dX4_replaceCall_41 (by decide) ?_
  refine V_ixor (pc := 42) dX4_replaceCall_42 ?_
  refine V_iand (pc := 43) dX4_replaceCall_43 ?_
  refine V_putI (pc := 44) (ci := 4) (j := 3) dX4_replaceCall_44 fl_X4_35 (fun _ _ _ _ _ => rfl) rfl rfl (by first | decide | omega) (by first | rfl | assumption | exact (hrow _ (by omega)).2 | decide) ?_
  exact J _ (by rw [if_pos ⟨h22, h30⟩]; exact hS1.setS (clr_lt _ r4 (sC σ i - 1) (by omega)) (by rw [hS1.2.2.1, show cI (sC σ i) = nI (sC σ i - 1) from by rw [← cI_s, Nat.sub_add_cancel (by omega)]]; exact bit_clr _ r4 _ (by omega))) (hF1.set (Or.inl rfl))
