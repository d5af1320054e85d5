theorem dX3_takesMark_0 : decode cX3_takesMark 0 = .ok (.iload_n 1, 1) := by decide +kernel
theorem dX3_takesMark_1 : decode cX3_takesMark 1 = .ok (.iload_n 2, 1) := by decide +kernel
theorem dX3_takesMark_2 : decode cX3_takesMark 2 = .ok (.if_icmp .eq 5, 3) := by decide +kernel
theorem dX3_takesMark_5 : decode cX3_takesMark 5 = .ok (.iconst 0, 1) := by decide +kernel
theorem dX3_takesMark_6 : decode cX3_takesMark 6 = .ok (.ireturn, 1) := by decide +kernel
theorem dX3_takesMark_7 : decode cX3_takesMark 7 = .ok (.aload_n 0, 1) := by decide +kernel
theorem dX3_takesMark_8 : decode cX3_takesMark 8 = .ok (.iload_n 3, 1) := by decide +kernel
theorem dX3_takesMark_9 : decode cX3_takesMark 9 = .ok (.putfield 16, 3) := by decide +kernel
theorem dX3_takesMark_12 : decode cX3_takesMark 12 = .ok (.iconst 1, 1) := by decide +kernel
theorem dX3_takesMark_13 : decode cX3_takesMark 13 = .ok (.ireturn, 1) := by decide +kernel
set_option maxHeartbeats 4000000 in
set_option maxRecDepth 100000 in
theorem c_X3_takesMark {l : Launch} {g : GW} {c m t : Nat} (μ : Mm) (hc : c < 127) (hm : m < 127) : Con l g yX3_takesMark cX3_takesMark 4 (some .boolean) 0 [.ref 3, .int (nI c), .int (nI m), .int (nI t)] μ (fun r μ' => if c = m then r = some (.int 1) ∧ μ' = setI μ 3 0 (nI t) else r = some (.int 0) ∧ μ' = μ) := by
  refine Con.of [.ref 3, .int (nI c), .int (nI m), .int (nI t)] 0 (by decide +kernel) (Nat.le_of_ble_eq_true rfl) rfl ?_
  refine V_iload_n (pc := 0) dX3_takesMark_0 rfl rfl ?_
  refine V_iload_n (pc := 1) dX3_takesMark_1 rfl rfl ?_
  refine V_icmpeq (pc := 2) (tgt := 7) dX3_takesMark_2 (by decide) (fun h2 => ?_) (fun h2 => ?_)
  · have h2 := (nI_eq (a := c) (b := m) (by omega) (by omega)).mp h2
    refine V_aload_n (pc := 7) dX3_takesMark_7 rfl rfl ?_
    refine V_iload_n (pc := 8) dX3_takesMark_8 rfl rfl ?_
    refine V_putI (pc := 9) (ci := 3) (j := 0) dX3_takesMark_9 fl_X3_16 (fun _ _ _ _ _ => rfl) rfl rfl (by decide) rfl ?_
    refine V_iconst (pc := 12) (v := 1) dX3_takesMark_12 (by decide) ?_
    refine V_zret (pc := 13) dX3_takesMark_13 rfl (by first | exact Or.inl rfl | exact Or.inr rfl | assumption) ?_
    first | (rw [if_pos h2]; exact ⟨rfl, rfl⟩) | (rw [if_neg h2]; exact ⟨rfl, rfl⟩)
  have h2 := mt (nI_eq (a := c) (b := m) (by omega) (by omega)).mpr h2
  refine V_iconst (pc := 5) (v := 0) dX3_takesMark_5 (by decide) ?_
  refine V_zret (pc := 6) dX3_takesMark_6 rfl (by first | exact Or.inl rfl | exact Or.inr rfl | assumption) ?_
  first | (rw [if_pos h2]; exact ⟨rfl, rfl⟩) | (rw [if_neg h2]; exact ⟨rfl, rfl⟩)
theorem dX3_takesName_0 : decode cX3_takesName 0 = .ok (.iload_n 1, 1) := by decide +kernel
theorem dX3_takesName_1 : decode cX3_takesName 1 = .ok (.bipush 48, 2) := by decide +kernel
theorem dX3_takesName_3 : decode cX3_takesName 3 = .ok (.isub, 1) := by decide +kernel
theorem dX3_takesName_4 : decode cX3_takesName 4 = .ok (.istore 4, 2) := by decide +kernel
theorem dX3_takesName_6 : decode cX3_takesName 6 = .ok (.iload 4, 2) := by decide +kernel
theorem dX3_takesName_8 : decode cX3_takesName 8 = .ok (.invokestatic 51, 3) := by decide +kernel
theorem dX3_takesName_11 : decode cX3_takesName 11 = .ok (.ifCond .eq 14, 3) := by decide +kernel
theorem dX3_takesName_14 : decode cX3_takesName 14 = .ok (.aload_n 2, 1) := by decide +kernel
theorem dX3_takesName_15 : decode cX3_takesName 15 = .ok (.getfield 54, 3) := by decide +kernel
theorem dX3_takesName_18 : decode cX3_takesName 18 = .ok (.iload 4, 2) := by decide +kernel
theorem dX3_takesName_20 : decode cX3_takesName 20 = .ok (.iaload, 1) := by decide +kernel
theorem dX3_takesName_21 : decode cX3_takesName 21 = .ok (.iconst (-1), 1) := by decide +kernel
theorem dX3_takesName_22 : decode cX3_takesName 22 = .ok (.if_icmp .eq 5, 3) := by decide +kernel
theorem dX3_takesName_25 : decode cX3_takesName 25 = .ok (.iconst 0, 1) := by decide +kernel
theorem dX3_takesName_26 : decode cX3_takesName 26 = .ok (.ireturn, 1) := by decide +kernel
theorem dX3_takesName_27 : decode cX3_takesName 27 = .ok (.aload_n 2, 1) := by decide +kernel
theorem dX3_takesName_28 : decode cX3_takesName 28 = .ok (.getfield 54, 3) := by decide +kernel
theorem dX3_takesName_31 : decode cX3_takesName 31 = .ok (.iload 4, 2) := by decide +kernel
theorem dX3_takesName_33 : decode cX3_takesName 33 = .ok (.aload_n 0, 1) := by decide +kernel
theorem dX3_takesName_34 : decode cX3_takesName 34 = .ok (.getfield 20, 3) := by decide +kernel
theorem dX3_takesName_37 : decode cX3_takesName 37 = .ok (.iastore, 1) := by decide +kernel
theorem dX3_takesName_38 : decode cX3_takesName 38 = .ok (.aload_n 0, 1) := by decide +kernel
theorem dX3_takesName_39 : decode cX3_takesName 39 = .ok (.iload_n 3, 1) := by decide +kernel
theorem dX3_takesName_40 : decode cX3_takesName 40 = .ok (.putfield 16, 3) := by decide +kernel
theorem dX3_takesName_43 : decode cX3_takesName 43 = .ok (.iconst 1, 1) := by decide +kernel
theorem dX3_takesName_44 : decode cX3_takesName 44 = .ok (.ireturn, 1) := by decide +kernel
set_option maxHeartbeats 4000000 in
set_option maxRecDepth 100000 in
theorem c_X3_takesName {l : Launch} {g : GW} {c b t x w : Nat} {tn : Nat → Nat → Nat} {ow : Nat → Nat} (μ : Mm) (hc : c < 127) (ht : t ≤ 6) (hb : b = 49 ∨ b = 57) (hB : BkR μ b tn ow) (hR : RdR μ x w) : Con l g yX3_takesName cX3_takesName 5 (some .boolean) 1 [.ref 3, .int (nI c), .ref b, .int (nI t)] μ (fun r μ' => if 48 ≤ c ∧ c < 54 ∧ ow (c - 48) = 0 then r = some (.int 1) ∧ RdR μ' t w ∧ BkR μ' b tn (up1 ow (c - 48) (w + 1)) ∧ FrM (rdS b) μ μ' else r = some (.int 0) ∧ μ' = μ) := by
  obtain ⟨hb1, hb2, hb3, hb4, hb5, hb6, hrow⟩ := bkF hb
  obtain ⟨d1, d2, d3, d4⟩ := id hR
  refine Con.of [.ref 3, .int (nI c), .ref b, .int (nI t), .null] 1 (by decide +kernel) (Nat.le_of_ble_eq_true rfl) rfl ?_
  refine V_iload_n (pc := 0) dX3_takesName_0 rfl rfl ?_
  refine V_bipush (pc := 1) (v := 48) dX3_takesName_1 (by decide) ?_
  refine V_isub (pc := 3) dX3_takesName_3 ?_
  refine V_istore4 (pc := 4) dX3_takesName_4 (by decide) rfl ?_
  refine V_iload (pc := 6) dX3_takesName_6 rfl ?_
  refine V_ins1 (pc := 8) dX3_takesName_8 ml_X3_51 (by first | decide | omega) (Nat.le_of_ble_eq_true rfl) (c_X7_isName μ) ?_
  rintro _ μ2 ⟨rfl, hμ⟩
  obtain rfl := hμ.symm
  rw [inR_name c hc]
  refine V_ifeq (pc := 11) (tgt := 25) dX3_takesName_11 (by decide) (fun h11 => ?_) (fun h11 => ?_)
  · have h11 := (bI_0 _).mp h11; have h11 : ¬ (48 ≤ c ∧ c < 54) := of_decide_eq_false h11; have hno : ¬ (48 ≤ c ∧ c < 54 ∧ ow (c - 48) = 0) := fun q => h11 ⟨q.1, q.2.1⟩
    refine V_iconst (pc := 25) (v := 0) dX3_takesName_25 (by decide) ?_
    refine V_zret (pc := 26) dX3_takesName_26 rfl (by first | exact Or.inl rfl | exact Or.inr rfl | assumption) ?_
    rw [if_neg hno]
    exact ⟨rfl, rfl⟩
  have h11 : 48 ≤ c ∧ c < 54 := by rcases Decidable.em (48 ≤ c ∧ c < 54) with q | q; exact q; exact absurd ((bI_0 _).mpr (decide_eq_false q)) h11
  refine V_aload_n (pc := 14) dX3_takesName_14 rfl rfl ?_
  refine V_getR (pc := 15) (ci := 0) (j := 1) (k2 := (b + 7)) dX3_takesName_15 fl_X3_54 (fun _ _ _ _ => rfl) (by first | decide | omega) (by first | rfl | assumption | decide) (rf_0_1 (by first | rfl | assumption | decide)) ?_
  refine V_iload (pc := 18) dX3_takesName_18 rfl ?_
  refine V_iald (pc := 20) (j := (c - 48)) dX3_takesName_20 (by first | decide | omega) (by first | rfl | assumption | decide) (sub48 c hc h11.1) (by omega) ?_
  refine V_iconst (pc := 21) (v := (-1)) dX3_takesName_21 (by decide) ?_
  refine V_icmpeq (pc := 22) (tgt := 27) dX3_takesName_22 (by decide) (fun h22 => ?_) (fun h22 => ?_)
  · rw [hB.2.1 _ (by omega), cI_m1 (by have := hB.2.2.1 (c - 48) (by omega); omega)] at h22
    refine V_aload_n (pc := 27) dX3_takesName_27 rfl rfl ?_
    refine V_getR (pc := 28) (ci := 0) (j := 1) (k2 := (b + 7)) dX3_takesName_28 fl_X3_54 (fun _ _ _ _ => rfl) (by first | decide | omega) (by first | rfl | assumption | decide) (rf_0_1 (by first | rfl | assumption | decide)) ?_
    refine V_iload (pc := 31) dX3_takesName_31 rfl ?_
    refine V_aload_n (pc := 33) dX3_takesName_33 rfl rfl ?_
    refine V_getI (pc := 34) (ci := 3) (j := 1) dX3_takesName_34 fl_X3_20 (fun _ _ _ _ => rfl) (by decide) rfl ?_
    refine V_iast (pc := 37) (j := (c - 48)) dX3_takesName_37 (by first | decide | omega) (by first | rfl | assumption | decide) (sub48 c hc h11.1) (by omega) ?_
    refine V_aload_n (pc := 38) dX3_takesName_38 rfl rfl ?_
    refine V_iload_n (pc := 39) dX3_takesName_39 rfl rfl ?_
    refine V_putI (pc := 40) (ci := 3) (j := 0) dX3_takesName_40 fl_X3_16 (fun _ _ _ _ _ => rfl) rfl rfl (by decide) rfl ?_
    refine V_iconst (pc := 43) (v := 1) dX3_takesName_43 (by decide) ?_
    refine V_zret (pc := 44) dX3_takesName_44 rfl (by first | exact Or.inl rfl | exact Or.inr rfl | assumption) ?_
    rw [if_pos ⟨h11.1, h11.2, h22⟩]
    have k1 := hB.own (n := c - 48) (by omega) d4 d3
    refine ⟨rfl, RdR.setX (hR.kept (fun j => get_ne (by omega))) ht rfl, k1.kept (FrM.rf.set (S := fun k => k = 3) rfl) (fun k h1 h2 q => by have : k = 3 := q; omega), (FrM.rf.set (Or.inr (by omega))).set (Or.inl rfl)⟩
  rw [hB.2.1 _ (by omega), cI_m1 (by have := hB.2.2.1 (c - 48) (by omega); omega)] at h22; have hno : ¬ (48 ≤ c ∧ c < 54 ∧ ow (c - 48) = 0) := fun q => h22 q.2.2
  refine V_iconst (pc := 25) (v := 0) dX3_takesName_25 (by decide) ?_
  refine V_zret (pc := 26) dX3_takesName_26 rfl (by first | exact Or.inl rfl | exact Or.inr rfl | assumption) ?_
  rw [if_neg hno]
  exact ⟨rfl, rfl⟩
theorem dX3_takesNextWind_0 : decode cX3_takesNextWind 0 = .ok (.aload_n 0, 1) := by decide +kernel
theorem dX3_takesNextWind_1 : decode cX3_takesNextWind 1 = .ok (.getfield 20, 3) := by decide +kernel
theorem dX3_takesNextWind_4 : decode cX3_takesNextWind 4 = .ok (.iconst 3, 1) := by decide +kernel
theorem dX3_takesNextWind_5 : decode cX3_takesNextWind 5 = .ok (.if_icmp .ge 14, 3) := by decide +kernel
theorem dX3_takesNextWind_8 : decode cX3_takesNextWind 8 = .ok (.aload_n 0, 1) := by decide +kernel
theorem dX3_takesNextWind_9 : decode cX3_takesNextWind 9 = .ok (.iload_n 1, 1) := by decide +kernel
theorem dX3_takesNextWind_10 : decode cX3_takesNextWind 10 = .ok (.bipush 47, 2) := by decide +kernel
theorem dX3_takesNextWind_12 : decode cX3_takesNextWind 12 = .ok (.iconst 0, 1) := by decide +kernel
theorem dX3_takesNextWind_13 : decode cX3_takesNextWind 13 = .ok (.invokevirtual 36, 3) := by decide +kernel
theorem dX3_takesNextWind_16 : decode cX3_takesNextWind 16 = .ok (.ifCond .ne 5, 3) := by decide +kernel
theorem dX3_takesNextWind_19 : decode cX3_takesNextWind 19 = .ok (.iconst 0, 1) := by decide +kernel
theorem dX3_takesNextWind_20 : decode cX3_takesNextWind 20 = .ok (.ireturn, 1) := by decide +kernel
theorem dX3_takesNextWind_21 : decode cX3_takesNextWind 21 = .ok (.aload_n 0, 1) := by decide +kernel
theorem dX3_takesNextWind_22 : decode cX3_takesNextWind 22 = .ok (.dup, 1) := by decide +kernel
theorem dX3_takesNextWind_23 : decode cX3_takesNextWind 23 = .ok (.getfield 20, 3) := by decide +kernel
theorem dX3_takesNextWind_26 : decode cX3_takesNextWind 26 = .ok (.iconst 1, 1) := by decide +kernel
theorem dX3_takesNextWind_27 : decode cX3_takesNextWind 27 = .ok (.iadd, 1) := by decide +kernel
theorem dX3_takesNextWind_28 : decode cX3_takesNextWind 28 = .ok (.putfield 20, 3) := by decide +kernel
theorem dX3_takesNextWind_31 : decode cX3_takesNextWind 31 = .ok (.iconst 1, 1) := by decide +kernel
theorem dX3_takesNextWind_32 : decode cX3_takesNextWind 32 = .ok (.ireturn, 1) := by decide +kernel
set_option maxHeartbeats 4000000 in
set_option maxRecDepth 100000 in
theorem c_X3_takesNextWind {l : Launch} {g : GW} {c x w : Nat} (μ : Mm) (hc : c < 127) (hR : RdR μ x w) : Con l g yX3_takesNextWind cX3_takesNextWind 2 (some .boolean) 1 [.ref 3, .int (nI c)] μ (fun r μ' => if w < 3 ∧ c = 47 then r = some (.int 1) ∧ RdR μ' 0 (w + 1) ∧ FrM (fun k => k = 3) μ μ' else r = some (.int 0) ∧ μ' = μ) := by
  obtain ⟨d1, d2, d3, d4⟩ := id hR
  refine Con.of [.ref 3, .int (nI c)] 0 (by decide +kernel) (Nat.le_of_ble_eq_true rfl) rfl ?_
  refine V_aload_n (pc := 0) dX3_takesNextWind_0 rfl rfl ?_
  refine V_getI (pc := 1) (ci := 3) (j := 1) dX3_takesNextWind_1 fl_X3_20 (fun _ _ _ _ => rfl) (by decide) rfl ?_
  refine V_iconst (pc := 4) (v := 3) dX3_takesNextWind_4 (by decide) ?_
  refine V_icmpge (pc := 5) (tgt := 19) dX3_takesNextWind_5 (by decide) (fun h5 => ?_) (fun h5 => ?_)
  · rw [d3] at h5; have h5 := (nI_leI (a := 3) (b := w) (by decide) (by omega)).mp h5; have hno : ¬ (w < 3 ∧ c = 47) := fun q => by omega
    refine V_iconst (pc := 19) (v := 0) dX3_takesNextWind_19 (by decide) ?_
    refine V_zret (pc := 20) dX3_takesNextWind_20 rfl (by first | exact Or.inl rfl | exact Or.inr rfl | assumption) ?_
    rw [if_neg hno]
    exact ⟨rfl, rfl⟩
  rw [d3] at h5; have h5 := mt (nI_leI (a := 3) (b := w) (by decide) (by omega)).mpr h5
  refine V_aload_n (pc := 8) dX3_takesNextWind_8 rfl rfl ?_
  refine V_iload_n (pc := 9) dX3_takesNextWind_9 rfl rfl ?_
  refine V_bipush (pc := 10) (v := 47) dX3_takesNextWind_10 (by decide) ?_
  refine V_iconst (pc := 12) (v := 0) dX3_takesNextWind_12 (by decide) ?_
  refine V_inv3 (pc := 13) (ci := 3) dX3_takesNextWind_13 ml_X3_36 (by decide) rfl ⟨by decide, rfl⟩ (by decide) (Nat.le_of_ble_eq_true rfl) (c_X3_takesMark (m := 47) (t := 0) μ hc (by decide)) ?_
  intro r μ1 hq
  by_cases hc7 : c = 47
  rotate_left
  · rw [if_neg hc7] at hq
    obtain ⟨rfl, hμ⟩ := hq
    obtain rfl := hμ.symm
    refine V_ifne (pc := 16) (tgt := 21) dX3_takesNextWind_16 (by decide) (fun h => absurd rfl h) (fun _ => ?_)
    refine V_iconst (pc := 19) (v := 0) dX3_takesNextWind_19 (by decide) ?_
    refine V_zret (pc := 20) dX3_takesNextWind_20 rfl (Or.inl rfl) ?_
    rw [if_neg (fun q => hc7 q.2)]
    exact ⟨rfl, rfl⟩
  rw [if_pos hc7] at hq
  obtain ⟨rfl, rfl⟩ := hq
  refine V_ifne (pc := 16) (tgt := 21) dX3_takesNextWind_16 (by decide) (fun h16 => ?_) (fun h16 => ?_)
  · refine V_aload_n (pc := 21) dX3_takesNextWind_21 rfl rfl ?_
    refine V_dup (pc := 22) dX3_takesNextWind_22 rfl ?_
    refine V_getI (pc := 23) (ci := 3) (j := 1) dX3_takesNextWind_23 fl_X3_20 (fun _ _ _ _ => rfl) (by decide) rfl ?_
    refine V_iconst (pc := 26) (v := 1) dX3_takesNextWind_26 (by decide) ?_
    refine V_iadd (pc := 27) dX3_takesNextWind_27 ?_
    refine V_putI (pc := 28) (ci := 3) (j := 1) dX3_takesNextWind_28 fl_X3_20 (fun _ _ _ _ _ => rfl) rfl rfl (by decide) rfl ?_
    refine V_iconst (pc := 31) (v := 1) dX3_takesNextWind_31 (by decide) ?_
    refine V_zret (pc := 32) dX3_takesNextWind_32 rfl (by first | exact Or.inl rfl | exact Or.inr rfl | assumption) ?_
    rw [if_pos ⟨by omega, hc7⟩]
    refine ⟨rfl, ⟨by rw [get_ne (by omega), get_eq], by omega, by rw [get_eq, get_ne (by omega), d3]; exact nI_1 w, by omega⟩, ((FrM.rf (S := fun k => k = 3)).set rfl).set rfl⟩
  exact absurd h16 (by decide)
theorem dX3_takesTenths_0 : decode cX3_takesTenths 0 = .ok (.aload_n 0, 1) := by decide +kernel
theorem dX3_takesTenths_1 : decode cX3_takesTenths 1 = .ok (.getfield 16, 3) := by decide +kernel
theorem dX3_takesTenths_4 : decode cX3_takesTenths 4 = .ok (.iconst 3, 1) := by decide +kernel
theorem dX3_takesTenths_5 : decode cX3_takesTenths 5 = .ok (.isub, 1) := by decide +kernel
theorem dX3_takesTenths_6 : decode cX3_takesTenths 6 = .ok (.istore_n 3, 1) := by decide +kernel
theorem dX3_takesTenths_7 : decode cX3_takesTenths 7 = .ok (.iload_n 1, 1) := by decide +kernel
theorem dX3_takesTenths_8 : decode cX3_takesTenths 8 = .ok (.bipush 48, 2) := by decide +kernel
theorem dX3_takesTenths_10 : decode cX3_takesTenths 10 = .ok (.isub, 1) := by decide +kernel
theorem dX3_takesTenths_11 : decode cX3_takesTenths 11 = .ok (.istore 4, 2) := by decide +kernel
theorem dX3_takesTenths_13 : decode cX3_takesTenths 13 = .ok (.iload_n 3, 1) := by decide +kernel
theorem dX3_takesTenths_14 : decode cX3_takesTenths 14 = .ok (.invokestatic 57, 3) := by decide +kernel
theorem dX3_takesTenths_17 : decode cX3_takesTenths 17 = .ok (.ifCond .eq 28, 3) := by decide +kernel
theorem dX3_takesTenths_20 : decode cX3_takesTenths 20 = .ok (.iload 4, 2) := by decide +kernel
theorem dX3_takesTenths_22 : decode cX3_takesTenths 22 = .ok (.ifCond .lt 23, 3) := by decide +kernel
theorem dX3_takesTenths_25 : decode cX3_takesTenths 25 = .ok (.iload 4, 2) := by decide +kernel
theorem dX3_takesTenths_27 : decode cX3_takesTenths 27 = .ok (.bipush 9, 2) := by decide +kernel
theorem dX3_takesTenths_29 : decode cX3_takesTenths 29 = .ok (.if_icmp .gt 16, 3) := by decide +kernel
theorem dX3_takesTenths_32 : decode cX3_takesTenths 32 = .ok (.iload 4, 2) := by decide +kernel
theorem dX3_takesTenths_34 : decode cX3_takesTenths 34 = .ok (.aload_n 2, 1) := by decide +kernel
theorem dX3_takesTenths_35 : decode cX3_takesTenths 35 = .ok (.getfield 60, 3) := by decide +kernel
theorem dX3_takesTenths_38 : decode cX3_takesTenths 38 = .ok (.iconst 4, 1) := by decide +kernel
theorem dX3_takesTenths_39 : decode cX3_takesTenths 39 = .ok (.aaload, 1) := by decide +kernel
theorem dX3_takesTenths_40 : decode cX3_takesTenths 40 = .ok (.iload_n 3, 1) := by decide +kernel
theorem dX3_takesTenths_41 : decode cX3_takesTenths 41 = .ok (.iaload, 1) := by decide +kernel
theorem dX3_takesTenths_42 : decode cX3_takesTenths 42 = .ok (.if_icmp .le 5, 3) := by decide +kernel
theorem dX3_takesTenths_45 : decode cX3_takesTenths 45 = .ok (.iconst 0, 1) := by decide +kernel
theorem dX3_takesTenths_46 : decode cX3_takesTenths 46 = .ok (.ireturn, 1) := by decide +kernel
theorem dX3_takesTenths_47 : decode cX3_takesTenths 47 = .ok (.aload_n 2, 1) := by decide +kernel
theorem dX3_takesTenths_48 : decode cX3_takesTenths 48 = .ok (.getfield 60, 3) := by decide +kernel
theorem dX3_takesTenths_51 : decode cX3_takesTenths 51 = .ok (.aload_n 0, 1) := by decide +kernel
theorem dX3_takesTenths_52 : decode cX3_takesTenths 52 = .ok (.getfield 20, 3) := by decide +kernel
theorem dX3_takesTenths_55 : decode cX3_takesTenths 55 = .ok (.aaload, 1) := by decide +kernel
theorem dX3_takesTenths_56 : decode cX3_takesTenths 56 = .ok (.iload_n 3, 1) := by decide +kernel
theorem dX3_takesTenths_57 : decode cX3_takesTenths 57 = .ok (.iload 4, 2) := by decide +kernel
theorem dX3_takesTenths_59 : decode cX3_takesTenths 59 = .ok (.iastore, 1) := by decide +kernel
theorem dX3_takesTenths_60 : decode cX3_takesTenths 60 = .ok (.aload_n 2, 1) := by decide +kernel
theorem dX3_takesTenths_61 : decode cX3_takesTenths 61 = .ok (.getfield 60, 3) := by decide +kernel
theorem dX3_takesTenths_64 : decode cX3_takesTenths 64 = .ok (.iconst 4, 1) := by decide +kernel
theorem dX3_takesTenths_65 : decode cX3_takesTenths 65 = .ok (.aaload, 1) := by decide +kernel
theorem dX3_takesTenths_66 : decode cX3_takesTenths 66 = .ok (.iload_n 3, 1) := by decide +kernel
theorem dX3_takesTenths_67 : decode cX3_takesTenths 67 = .ok (.dup2, 1) := by decide +kernel
theorem dX3_takesTenths_68 : decode cX3_takesTenths 68 = .ok (.iaload, 1) := by decide +kernel
theorem dX3_takesTenths_69 : decode cX3_takesTenths 69 = .ok (.iload 4, 2) := by decide +kernel
theorem dX3_takesTenths_71 : decode cX3_takesTenths 71 = .ok (.isub, 1) := by decide +kernel
theorem dX3_takesTenths_72 : decode cX3_takesTenths 72 = .ok (.iastore, 1) := by decide +kernel
theorem dX3_takesTenths_73 : decode cX3_takesTenths 73 = .ok (.aload_n 0, 1) := by decide +kernel
theorem dX3_takesTenths_74 : decode cX3_takesTenths 74 = .ok (.dup, 1) := by decide +kernel
theorem dX3_takesTenths_75 : decode cX3_takesTenths 75 = .ok (.getfield 16, 3) := by decide +kernel
theorem dX3_takesTenths_78 : decode cX3_takesTenths 78 = .ok (.iconst 1, 1) := by decide +kernel
theorem dX3_takesTenths_79 : decode cX3_takesTenths 79 = .ok (.iadd, 1) := by decide +kernel
theorem dX3_takesTenths_80 : decode cX3_takesTenths 80 = .ok (.putfield 16, 3) := by decide +kernel
theorem dX3_takesTenths_83 : decode cX3_takesTenths 83 = .ok (.iconst 1, 1) := by decide +kernel
theorem dX3_takesTenths_84 : decode cX3_takesTenths 84 = .ok (.ireturn, 1) := by decide +kernel
set_option maxHeartbeats 4000000 in
set_option maxRecDepth 100000 in
theorem c_X3_takesTenths {l : Launch} {g : GW} {c b x w : Nat} {tn : Nat → Nat → Nat} {ow : Nat → Nat} (μ : Mm) (hc : c < 127) (hx : 3 ≤ x) (hx5 : x ≤ 5) (hb : b = 49 ∨ b = 57) (hB : BkR μ b tn ow) (hR : RdR μ x w) (h0 : tn w (x - 3) = 0) : Con l g yX3_takesTenths cX3_takesTenths 5 (some .boolean) 1 [.ref 3, .int (nI c), .ref b] μ (fun r μ' => if 48 ≤ c ∧ c ≤ 57 ∧ c - 48 ≤ tn 4 (x - 3) then r = some (.int 1) ∧ RdR μ' (x + 1) w ∧ BkR μ' b (up2N (up2N tn w (x - 3) (c - 48)) 4 (x - 3) (tn 4 (x - 3) - (c - 48))) ow ∧ FrM (rdS b) μ μ' else r = some (.int 0) ∧ μ' = μ) := by
  obtain ⟨hb1, hb2, hb3, hb4, hb5, hb6, hrow⟩ := bkF hb
  obtain ⟨d1, d2, d3, d4⟩ := id hR
  have hl4 := hB.le (w := 4) (s := x - 3) (by omega) (by omega)
  refine Con.of [.ref 3, .int (nI c), .ref b, .null, .null] 2 (by decide +kernel) (Nat.le_of_ble_eq_true rfl) rfl ?_
  refine V_aload_n (pc := 0) dX3_takesTenths_0 rfl rfl ?_
  refine V_getI (pc := 1) (ci := 3) (j := 0) dX3_takesTenths_1 fl_X3_16 (fun _ _ _ _ => rfl) (by decide) rfl ?_
  refine V_iconst (pc := 4) (v := 3) dX3_takesTenths_4 (by decide) ?_
  rw [d1]
  refine V_isub (pc := 5) dX3_takesTenths_5 ?_
  rw [show nI x - (3 : Int32) = nI (x - 3) from pk_sub (b := 3) hx]
  refine V_istore3 (pc := 6) dX3_takesTenths_6 (by decide) rfl ?_
  refine V_iload_n (pc := 7) dX3_takesTenths_7 rfl rfl ?_
  refine V_bipush (pc := 8) (v := 48) dX3_takesTenths_8 (by decide) ?_
  refine V_isub (pc := 10) dX3_takesTenths_10 ?_
  refine V_istore4 (pc := 11) dX3_takesTenths_11 (by decide) rfl ?_
  refine V_iload_n (pc := 13) dX3_takesTenths_13 rfl rfl ?_
  refine V_ins1 (pc := 14) dX3_takesTenths_14 ml_X3_57 (by first | decide | omega) (Nat.le_of_ble_eq_true rfl) (c_X7_isSign μ) ?_
  rintro _ μ2 ⟨rfl, hμ⟩
  obtain rfl := hμ.symm
  rw [show inR (nI (x - 3)) 3 = true from inR_nI (n := 3) rfl (by decide) (by omega)]
  refine V_ifeq (pc := 17) (tgt := 45) dX3_takesTenths_17 (by decide) (fun h17 => ?_) (fun h17 => ?_)
  · exact absurd h17 (by decide)
  refine V_iload (pc := 20) dX3_takesTenths_20 rfl ?_
  refine V_iflt (pc := 22) (tgt := 45) dX3_takesTenths_22 (by decide) (fun h22 => ?_) (fun h22 => ?_)
  · rw [sub48_lt c hc] at h22; have hno : ¬ (48 ≤ c ∧ c ≤ 57 ∧ c - 48 ≤ tn 4 (x - 3)) := fun q => by omega
    refine V_iconst (pc := 45) (v := 0) dX3_takesTenths_45 (by decide) ?_
    refine V_zret (pc := 46) dX3_takesTenths_46 rfl (by first | exact Or.inl rfl | exact Or.inr rfl | assumption) ?_
    rw [if_neg hno]
    exact ⟨rfl, rfl⟩
  rw [sub48_lt c hc] at h22
  refine V_iload (pc := 25) dX3_takesTenths_25 rfl ?_
  refine V_bipush (pc := 27) (v := 9) dX3_takesTenths_27 (by decide) ?_
  refine V_icmpgt (pc := 29) (tgt := 45) dX3_takesTenths_29 (by decide) (fun h29 => ?_) (fun h29 => ?_)
  · rw [sub48_gt c hc] at h29; have hno : ¬ (48 ≤ c ∧ c ≤ 57 ∧ c - 48 ≤ tn 4 (x - 3)) := fun q => by omega
    refine V_iconst (pc := 45) (v := 0) dX3_takesTenths_45 (by decide) ?_
    refine V_zret (pc := 46) dX3_takesTenths_46 rfl (by first | exact Or.inl rfl | exact Or.inr rfl | assumption) ?_
    rw [if_neg hno]
    exact ⟨rfl, rfl⟩
  rw [sub48_gt c hc] at h29; have e48 := sub48 c hc (by omega); rw [e48]
  refine V_iload (pc := 32) dX3_takesTenths_32 rfl ?_
  refine V_aload_n (pc := 34) dX3_takesTenths_34 rfl rfl ?_
  refine V_getR (pc := 35) (ci := 0) (j := 0) (k2 := (b + 1)) dX3_takesTenths_35 fl_X3_60 (fun _ _ _ _ => rfl) (by first | decide | omega) (by first | rfl | assumption | exact (hrow _ (by omega)).2.1 | decide) (rf_0_0 (by first | rfl | assumption | exact (hrow _ (by omega)).2.1 | decide)) ?_
  refine V_iconst (pc := 38) (v := 4) dX3_takesTenths_38 (by decide) ?_
  refine V_aald15 (pc := 39) (j := 4) dX3_takesTenths_39 (by first | decide | omega) (by first | rfl | assumption | exact (hrow _ (by omega)).2.1 | decide) rfl (by omega) ?_
  refine V_iload_n (pc := 40) dX3_takesTenths_40 rfl rfl ?_
  refine V_iald (pc := 41) (j := (x - 3)) dX3_takesTenths_41 (by first | decide | omega) (by first | rfl | assumption | exact (hrow _ (by omega)).2.1 | decide) rfl (by have := (hrow 4 (by omega)).2.2; omega) ?_
  refine V_icmple (pc := 42) (tgt := 47) dX3_takesTenths_42 (by decide) (fun h42 => ?_) (fun h42 => ?_)
  · rw [hB.1 4 (x - 3) (by omega) (by omega), nI_leI (by omega) (by omega)] at h42
    refine V_aload_n (pc := 47) dX3_takesTenths_47 rfl rfl ?_
    refine V_getR (pc := 48) (ci := 0) (j := 0) (k2 := (b + 1)) dX3_takesTenths_48 fl_X3_60 (fun _ _ _ _ => rfl) (by first | decide | omega) (by first | rfl | assumption | exact (hrow _ (by omega)).2.1 | decide) (rf_0_0 (by first | rfl | assumption | exact (hrow _ (by omega)).2.1 | decide)) ?_
    refine V_aload_n (pc := 51) dX3_takesTenths_51 rfl rfl ?_
    refine V_getI (pc := 52) (ci := 3) (j := 1) dX3_takesTenths_52 fl_X3_20 (fun _ _ _ _ => rfl) (by decide) rfl ?_
    refine V_aald15 (pc := 55) (j := w) dX3_takesTenths_55 (by first | decide | omega) (by first | rfl | assumption | exact (hrow _ (by omega)).2.1 | decide) d3 (by omega) ?_
    refine V_iload_n (pc := 56) dX3_takesTenths_56 rfl rfl ?_
    refine V_iload (pc := 57) dX3_takesTenths_57 rfl ?_
    refine V_iast (pc := 59) (j := (x - 3)) dX3_takesTenths_59 (by first | decide | omega) (by first | rfl | assumption | exact (hrow _ (by omega)).2.1 | decide) rfl (by have := (hrow w (by omega)).2.2; omega) ?_
    refine V_aload_n (pc := 60) dX3_takesTenths_60 rfl rfl ?_
    refine V_getR (pc := 61) (ci := 0) (j := 0) (k2 := (b + 1)) dX3_takesTenths_61 fl_X3_60 (fun _ _ _ _ => rfl) (by first | decide | omega) (by first | rfl | assumption | exact (hrow _ (by omega)).2.1 | decide) (rf_0_0 (by first | rfl | assumption | exact (hrow _ (by omega)).2.1 | decide)) ?_
    refine V_iconst (pc := 64) (v := 4) dX3_takesTenths_64 (by decide) ?_
    refine V_aald15 (pc := 65) (j := 4) dX3_takesTenths_65 (by first | decide | omega) (by first | rfl | assumption | exact (hrow _ (by omega)).2.1 | decide) rfl (by omega) ?_
    refine V_iload_n (pc := 66) dX3_takesTenths_66 rfl rfl ?_
    refine V_dup2_11 (pc := 67) dX3_takesTenths_67 rfl rfl ?_
    refine V_iald (pc := 68) (j := (x - 3)) dX3_takesTenths_68 (by first | decide | omega) (by first | rfl | assumption | exact (hrow _ (by omega)).2.1 | decide) rfl (by have := (hrow 4 (by omega)).2.2; omega) ?_
    rw [show (setI μ (b + 1 + 1 + w) (x - 3) (nI (c - 48))).1 (b + 1 + 1 + 4) (x - 3) = nI (tn 4 (x - 3)) from by rw [get_ne (by omega)]; exact hB.1 4 (x - 3) (by omega) (by omega)]
    refine V_iload (pc := 69) dX3_takesTenths_69 rfl ?_
    refine V_isub (pc := 71) dX3_takesTenths_71 ?_
    refine V_iast (pc := 72) (j := (x - 3)) dX3_takesTenths_72 (by first | decide | omega) (by first | rfl | assumption | exact (hrow _ (by omega)).2.1 | decide) rfl (by have := (hrow 4 (by omega)).2.2; omega) ?_
    refine V_aload_n (pc := 73) dX3_takesTenths_73 rfl rfl ?_
    refine V_dup (pc := 74) dX3_takesTenths_74 rfl ?_
    refine V_getI (pc := 75) (ci := 3) (j := 0) dX3_takesTenths_75 fl_X3_16 (fun _ _ _ _ => rfl) (by decide) rfl ?_
    refine V_iconst (pc := 78) (v := 1) dX3_takesTenths_78 (by decide) ?_
    refine V_iadd (pc := 79) dX3_takesTenths_79 ?_
    refine V_putI (pc := 80) (ci := 3) (j := 0) dX3_takesTenths_80 fl_X3_16 (fun _ _ _ _ _ => rfl) rfl rfl (by decide) rfl ?_
    refine V_iconst (pc := 83) (v := 1) dX3_takesTenths_83 (by decide) ?_
    refine V_zret (pc := 84) dX3_takesTenths_84 rfl (by first | exact Or.inl rfl | exact Or.inr rfl | assumption) ?_
    rw [if_pos ⟨by omega, by omega, h42⟩]
    have k1 := hB.ten (s := x - 3) (w := w) (v := c - 48) (by omega) d4 h0 h42 rfl (y := nI (tn 4 (x - 3)) - nI (c - 48)) (pk_sub h42)
    have k2 : FrM (rdS b) μ (setI (setI μ (b + 1 + 1 + w) (x - 3) (nI (c - 48))) (b + 1 + 1 + 4) (x - 3) (nI (tn 4 (x - 3)) - nI (c - 48))) := (FrM.rf.set (Or.inr (by omega))).set (Or.inr (by omega))
    have k3 : RdR (setI (setI μ (b + 1 + 1 + w) (x - 3) (nI (c - 48))) (b + 1 + 1 + 4) (x - 3) (nI (tn 4 (x - 3)) - nI (c - 48))) x w := hR.kept (fun j => by rw [get_ne (by omega), get_ne (by omega)])
    exact ⟨rfl, k3.setX (by omega) (by rw [k3.1]; exact nI_1 x), k1.kept (FrM.rf.set (S := fun k => k = 3) rfl) (fun k h1 h2 q => by have : k = 3 := q; omega), k2.set (Or.inl rfl)⟩
  rw [hB.1 4 (x - 3) (by omega) (by omega), nI_leI (by omega) (by omega)] at h42; have hno : ¬ (48 ≤ c ∧ c ≤ 57 ∧ c - 48 ≤ tn 4 (x - 3)) := fun q => h42 q.2.2
  refine V_iconst (pc := 45) (v := 0) dX3_takesTenths_45 (by decide) ?_
  refine V_zret (pc := 46) dX3_takesTenths_46 rfl (by first | exact Or.inl rfl | exact Or.inr rfl | assumption) ?_
  rw [if_neg hno]
  exact ⟨rfl, rfl⟩
theorem dX3_atEnd_0 : decode cX3_atEnd 0 = .ok (.aload_n 0, 1) := by decide +kernel
theorem dX3_atEnd_1 : decode cX3_atEnd 1 = .ok (.getfield 20, 3) := by decide +kernel
theorem dX3_atEnd_4 : decode cX3_atEnd 4 = .ok (.iconst 3, 1) := by decide +kernel
theorem dX3_atEnd_5 : decode cX3_atEnd 5 = .ok (.if_icmp .ne 16, 3) := by decide +kernel
theorem dX3_atEnd_8 : decode cX3_atEnd 8 = .ok (.aload_n 0, 1) := by decide +kernel
theorem dX3_atEnd_9 : decode cX3_atEnd 9 = .ok (.getfield 16, 3) := by decide +kernel
theorem dX3_atEnd_12 : decode cX3_atEnd 12 = .ok (.bipush 6, 2) := by decide +kernel
theorem dX3_atEnd_14 : decode cX3_atEnd 14 = .ok (.if_icmp .ne 7, 3) := by decide +kernel
theorem dX3_atEnd_17 : decode cX3_atEnd 17 = .ok (.iconst 1, 1) := by decide +kernel
theorem dX3_atEnd_18 : decode cX3_atEnd 18 = .ok (.goto 4, 3) := by decide +kernel
theorem dX3_atEnd_21 : decode cX3_atEnd 21 = .ok (.iconst 0, 1) := by decide +kernel
theorem dX3_atEnd_22 : decode cX3_atEnd 22 = .ok (.ireturn, 1) := by decide +kernel
set_option maxHeartbeats 4000000 in
set_option maxRecDepth 100000 in
theorem c_X3_atEnd {l : Launch} {g : GW} {x w : Nat} (μ : Mm) (hR : RdR μ x w) : Con l g yX3_atEnd cX3_atEnd 1 (some .boolean) 0 [.ref 3] μ (fun r μ' => r = some (.int (bI (w == 3 && x == 6))) ∧ μ' = μ) := by
  obtain ⟨d1, d2, d3, d4⟩ := id hR
  refine Con.of [.ref 3] 0 (by decide +kernel) (Nat.le_of_ble_eq_true rfl) rfl ?_
  refine V_aload_n (pc := 0) dX3_atEnd_0 rfl rfl ?_
  refine V_getI (pc := 1) (ci := 3) (j := 1) dX3_atEnd_1 fl_X3_20 (fun _ _ _ _ => rfl) (by decide) rfl ?_
  refine V_iconst (pc := 4) (v := 3) dX3_atEnd_4 (by decide) ?_
  refine V_icmpne (pc := 5) (tgt := 21) dX3_atEnd_5 (by decide) (fun h5 => ?_) (fun h5 => ?_)
  · rw [d3] at h5; have h5 := mt (nI_eq (a := w) (b := 3) (by omega) (by omega)).mpr h5
    refine V_iconst (pc := 21) (v := 0) dX3_atEnd_21 (by decide) ?_
    refine V_zret (pc := 22) dX3_atEnd_22 rfl (by first | exact Or.inl rfl | exact Or.inr rfl | assumption) ?_
    exact ⟨congrArg (fun z => some (Value.int z)) (by simp_all [bI]), rfl⟩
  rw [d3] at h5; have h5 := (nI_eq (a := w) (b := 3) (by omega) (by omega)).mp h5
  refine V_aload_n (pc := 8) dX3_atEnd_8 rfl rfl ?_
  refine V_getI (pc := 9) (ci := 3) (j := 0) dX3_atEnd_9 fl_X3_16 (fun _ _ _ _ => rfl) (by decide) rfl ?_
  refine V_bipush (pc := 12) (v := 6) dX3_atEnd_12 (by decide) ?_
  refine V_icmpne (pc := 14) (tgt := 21) dX3_atEnd_14 (by decide) (fun h14 => ?_) (fun h14 => ?_)
  · rw [d1] at h14; have h14 := mt (nI_eq (a := x) (b := 6) (by omega) (by omega)).mpr h14
    refine V_iconst (pc := 21) (v := 0) dX3_atEnd_21 (by decide) ?_
    refine V_zret (pc := 22) dX3_atEnd_22 rfl (by first | exact Or.inl rfl | exact Or.inr rfl | assumption) ?_
    exact ⟨congrArg (fun z => some (Value.int z)) (by simp_all [bI]), rfl⟩
  rw [d1] at h14; have h14 := (nI_eq (a := x) (b := 6) (by omega) (by omega)).mp h14
  refine V_iconst (pc := 17) (v := 1) dX3_atEnd_17 (by decide) ?_
  refine V_goto (pc := 18) (tgt := 22) dX3_atEnd_18 (by decide) ?_
  refine V_zret (pc := 22) dX3_atEnd_22 rfl (by first | exact Or.inl rfl | exact Or.inr rfl | assumption) ?_
  exact ⟨congrArg (fun z => some (Value.int z)) (by simp_all [bI]), rfl⟩
