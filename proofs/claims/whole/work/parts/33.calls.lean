theorem dX7_likely_0 : decode cX7_likely 0 = .ok (.aload_n 0, 1) := by decide +kernel
theorem dX7_likely_1 : decode cX7_likely 1 = .ok (.iload_n 1, 1) := by decide +kernel
theorem dX7_likely_2 : decode cX7_likely 2 = .ok (.invokevirtual 126, 3) := by decide +kernel
theorem dX7_likely_5 : decode cX7_likely 5 = .ok (.ifCond .ne 7, 3) := by decide +kernel
theorem dX7_likely_8 : decode cX7_likely 8 = .ok (.ldc2_w 164, 3) := by decide +kernel
theorem dX7_likely_11 : decode cX7_likely 11 = .ok (.lreturn, 1) := by decide +kernel
theorem dX7_likely_12 : decode cX7_likely 12 = .ok (.iload_n 2, 1) := by decide +kernel
theorem dX7_likely_13 : decode cX7_likely 13 = .ok (.iconst 1, 1) := by decide +kernel
theorem dX7_likely_14 : decode cX7_likely 14 = .ok (.if_icmp .lt 15, 3) := by decide +kernel
theorem dX7_likely_17 : decode cX7_likely 17 = .ok (.iload_n 2, 1) := by decide +kernel
theorem dX7_likely_18 : decode cX7_likely 18 = .ok (.iconst 4, 1) := by decide +kernel
theorem dX7_likely_19 : decode cX7_likely 19 = .ok (.if_icmp .gt 10, 3) := by decide +kernel
theorem dX7_likely_22 : decode cX7_likely 22 = .ok (.iload_n 3, 1) := by decide +kernel
theorem dX7_likely_23 : decode cX7_likely 23 = .ok (.invokestatic 166, 3) := by decide +kernel
theorem dX7_likely_26 : decode cX7_likely 26 = .ok (.ifCond .ne 7, 3) := by decide +kernel
theorem dX7_likely_29 : decode cX7_likely 29 = .ok (.ldc2_w 169, 3) := by decide +kernel
theorem dX7_likely_32 : decode cX7_likely 32 = .ok (.lreturn, 1) := by decide +kernel
theorem dX7_likely_33 : decode cX7_likely 33 = .ok (.aload_n 0, 1) := by decide +kernel
theorem dX7_likely_34 : decode cX7_likely 34 = .ok (.getfield 26, 3) := by decide +kernel
theorem dX7_likely_37 : decode cX7_likely 37 = .ok (.getfield 129, 3) := by decide +kernel
theorem dX7_likely_40 : decode cX7_likely 40 = .ok (.iload_n 1, 1) := by decide +kernel
theorem dX7_likely_41 : decode cX7_likely 41 = .ok (.aaload, 1) := by decide +kernel
theorem dX7_likely_42 : decode cX7_likely 42 = .ok (.astore 4, 2) := by decide +kernel
theorem dX7_likely_44 : decode cX7_likely 44 = .ok (.aload_n 0, 1) := by decide +kernel
theorem dX7_likely_45 : decode cX7_likely 45 = .ok (.getfield 46, 3) := by decide +kernel
theorem dX7_likely_48 : decode cX7_likely 48 = .ok (.aload_n 0, 1) := by decide +kernel
theorem dX7_likely_49 : decode cX7_likely 49 = .ok (.getfield 53, 3) := by decide +kernel
theorem dX7_likely_52 : decode cX7_likely 52 = .ok (.aload 4, 2) := by decide +kernel
theorem dX7_likely_54 : decode cX7_likely 54 = .ok (.getfield 171, 3) := by decide +kernel
theorem dX7_likely_57 : decode cX7_likely 57 = .ok (.iload_n 2, 1) := by decide +kernel
theorem dX7_likely_58 : decode cX7_likely 58 = .ok (.invokevirtual 174, 3) := by decide +kernel
theorem dX7_likely_61 : decode cX7_likely 61 = .ok (.aload_n 0, 1) := by decide +kernel
theorem dX7_likely_62 : decode cX7_likely 62 = .ok (.getfield 46, 3) := by decide +kernel
theorem dX7_likely_65 : decode cX7_likely 65 = .ok (.iload_n 2, 1) := by decide +kernel
theorem dX7_likely_66 : decode cX7_likely 66 = .ok (.aload 4, 2) := by decide +kernel
theorem dX7_likely_68 : decode cX7_likely 68 = .ok (.getfield 142, 3) := by decide +kernel
theorem dX7_likely_71 : decode cX7_likely 71 = .ok (.aload_n 0, 1) := by decide +kernel
theorem dX7_likely_72 : decode cX7_likely 72 = .ok (.getfield 26, 3) := by decide +kernel
theorem dX7_likely_75 : decode cX7_likely 75 = .ok (.invokevirtual 178, 3) := by decide +kernel
theorem dX7_likely_78 : decode cX7_likely 78 = .ok (.invokevirtual 181, 3) := by decide +kernel
theorem dX7_likely_81 : decode cX7_likely 81 = .ok (.getstatic 185, 3) := by decide +kernel
theorem dX7_likely_84 : decode cX7_likely 84 = .ok (.iload_n 2, 1) := by decide +kernel
theorem dX7_likely_85 : decode cX7_likely 85 = .ok (.iaload, 1) := by decide +kernel
theorem dX7_likely_86 : decode cX7_likely 86 = .ok (.iload_n 3, 1) := by decide +kernel
theorem dX7_likely_87 : decode cX7_likely 87 = .ok (.invokestatic 188, 3) := by decide +kernel
theorem dX7_likely_90 : decode cX7_likely 90 = .ok (.lreturn, 1) := by decide +kernel
set_option maxHeartbeats 4000000 in
set_option maxRecDepth 100000 in
theorem c_X7_likely {l : Launch} {g : GW} {a : AT} {x y z : Int32} (μ : Mm) (hA : RC μ a)  : Con l g yX7_likely cX7_likely 5 (some .long) 14 [.ref 0, .int x, .int y, .int z] μ (fun r μ' => r = some (.long (fLikely a x y z)) ∧ RC μ' a ∧ FrC μ μ') := by
  obtain ⟨a1, a2, a3, a4, ⟨b, hb, hcur, hdrf, hB⟩, hS, hK, hD, hW⟩ := id hA
  obtain ⟨r1, r2, r3, r4, r5, r6, r7, r8, r9⟩ := id hS
  obtain ⟨w1, w2, w3, w4, w5, w6⟩ := id hW
  obtain ⟨p1, p2, p3⟩ := id a1
  obtain ⟨hb1, hb2, hb3, hb4, hb5, hb6, hrow⟩ := bkF hb
  have hship : ∀ i, i < 6 → 4 + 1 + 1 + i < 88 ∧ kt (4 + 1 + 1 + i) = 5 := (seaF (Or.inl rfl)).2.2.2.2.2.2
  have h4 : (4 : Nat) = 4 ∨ (4 : Nat) = 13 ∨ (4 : Nat) = 22 := Or.inl rfl
  refine Con.of [.ref 0, .int x, .int y, .int z, .null] 1 (by decide +kernel) (Nat.le_of_ble_eq_true rfl) rfl ?_
  refine V_aload_n (pc := 0) dX7_likely_0 rfl rfl ?_
  refine V_iload_n (pc := 1) dX7_likely_1 rfl rfl ?_
  refine V_inv1 (pc := 2) (ci := 7) dX7_likely_2 ml_X7_126 (by decide) rfl ⟨by decide, rfl⟩ (by first | decide | omega) (Nat.le_of_ble_eq_true rfl) (c_X7_isShip μ hA) ?_
  rintro _ μ2 ⟨rfl, hμ⟩
  obtain rfl := hμ.symm
  refine V_ifne (pc := 5) (tgt := 12) dX7_likely_5 (by decide) (fun h5 => ?_) (fun h5 => ?_)
  · have h5 := bI_ne h5; obtain ⟨i, hi, rfl⟩ := inN_of (by omega) h5; obtain ⟨z1, z2, z3, z4, z5, z6, z7, z8⟩ := id (r8 i (by omega))
    refine V_iload_n (pc := 12) dX7_likely_12 rfl rfl ?_
    refine V_iconst (pc := 13) (v := 1) dX7_likely_13 (by decide) ?_
    refine V_icmplt (pc := 14) (tgt := 29) dX7_likely_14 (by decide) (fun h14 => ?_) (fun h14 => ?_)
    · have e9 : inD y 4 = false := inD_f1 h14
      refine V_ldc2 (pc := 29) (v := (-102)) ct_X7_169 dX7_likely_29 ?_
      refine V_lret (pc := 32) dX7_likely_32 rfl ?_
      refine ⟨congrArg (fun z => some (Value.long z)) ?_, hA, FrC.rf⟩
      first
      | (simp [fLikely, h5, e9]; done)
      | (simp [fLikely, h5, e9, h26]; done)
    refine V_iload_n (pc := 17) dX7_likely_17 rfl rfl ?_
    refine V_iconst (pc := 18) (v := 4) dX7_likely_18 (by decide) ?_
    refine V_icmpgt (pc := 19) (tgt := 29) dX7_likely_19 (by decide) (fun h19 => ?_) (fun h19 => ?_)
    · have e9 : inD y 4 = false := inD_f2 (M := 4) (by decide) h19
      refine V_ldc2 (pc := 29) (v := (-102)) ct_X7_169 dX7_likely_29 ?_
      refine V_lret (pc := 32) dX7_likely_32 rfl ?_
      refine ⟨congrArg (fun z => some (Value.long z)) ?_, hA, FrC.rf⟩
      first
      | (simp [fLikely, h5, e9]; done)
      | (simp [fLikely, h5, e9, h26]; done)
    have e9 : inD y 4 = true := inD_t (M := 4) (by decide) h14 h19
    refine V_iload_n (pc := 22) dX7_likely_22 rfl rfl ?_
    refine V_ins1 (pc := 23) dX7_likely_23 ml_X7_166 (by first | decide | omega) (Nat.le_of_ble_eq_true rfl) (c_X7_isPart μ) ?_
    rintro _ μ2 ⟨rfl, hμ⟩
    obtain rfl := hμ.symm
    refine V_ifne (pc := 26) (tgt := 33) dX7_likely_26 (by decide) (fun h26 => ?_) (fun h26 => ?_)
    · have h26 := bI_ne h26
      obtain ⟨d, hd, rfl⟩ := inD_of (by decide) e9
      have hT : TnOK (aTn a) := hB.2.2.2
      obtain ⟨q, hq, rfl⟩ : ∃ q, q ≤ 1 ∧ z = nI q := by
        unfold isPt at h26
        rw [Bool.or_eq_true, decide_eq_true_eq, decide_eq_true_eq] at h26
        rcases h26 with h | h
        · exact ⟨0, by omega, h⟩
        · exact ⟨1, by omega, h⟩
      refine V_aload_n (pc := 33) dX7_likely_33 rfl rfl ?_
      refine V_getR (pc := 34) (ci := 7) (j := 2) (k2 := 4) dX7_likely_34 fl_X7_26 (fun _ _ _ _ => rfl) (by decide) rfl (rf_7_2 rfl) ?_
      refine V_getR (pc := 37) (ci := 4) (j := 0) (k2 := 5) dX7_likely_37 fl_X7_129 (fun _ _ _ _ => rfl) (by decide) rfl (rf_4_0 rfl) ?_
      refine V_iload_n (pc := 40) dX7_likely_40 rfl rfl ?_
      refine V_aald14 (pc := 41) (j := i) dX7_likely_41 (by decide) rfl rfl (by show i < 6; omega) ?_
      refine V_astore4 (pc := 42) dX7_likely_42 (by decide) rfl ?_
      refine V_aload_n (pc := 44) dX7_likely_44 rfl rfl ?_
      refine V_getR (pc := 45) (ci := 7) (j := 6) (k2 := 33) dX7_likely_45 fl_X7_46 (fun _ _ _ _ => rfl) (by decide) rfl (rf_7_6 rfl) ?_
      refine V_aload_n (pc := 48) dX7_likely_48 rfl rfl ?_
      refine V_getR (pc := 49) (ci := 7) (j := 7) (k2 := b) dX7_likely_49 fl_X7_53 (fun _ _ _ _ => rfl) (by decide) rfl ((rf_7_7 rfl).trans hcur) ?_
      refine V_aload (pc := 52) dX7_likely_52 rfl ?_
      refine V_getI (pc := 54) (ci := 5) (j := 0) dX7_likely_54 fl_X7_171 (fun _ _ _ _ => rfl) (by first | decide | omega) (by first | rfl | assumption | exact (hship _ (by omega)).2 | exact (hrow _ (by omega)).2.1 | decide) ?_
      rw [z1]
      refine V_iload_n (pc := 57) dX7_likely_57 rfl rfl ?_
      refine V_inv3 (pc := 58) (ci := 1) dX7_likely_58 ml_X7_174 (by decide) rfl ⟨by decide, rfl⟩ (by first | decide | omega) (Nat.le_of_ble_eq_true rfl) (c_X1_begin μ hb hB z2 hd) ?_
      rintro _ μ1 ⟨rfl, k1, k2, k3⟩
      have hS1 : SeaR μ1 4 (aS a) := hS.kept k3 (fun k hk q => by rcases hk with z | z <;> omega)
      refine V_aload_n (pc := 61) dX7_likely_61 rfl rfl ?_
      refine V_getR (pc := 62) (ci := 7) (j := 6) (k2 := 33) dX7_likely_62 fl_X7_46 (fun _ _ _ _ => rfl) (by decide) rfl (rf_7_6 rfl) ?_
      refine V_iload_n (pc := 65) dX7_likely_65 rfl rfl ?_
      refine V_aload (pc := 66) dX7_likely_66 rfl ?_
      refine V_getI (pc := 68) (ci := 5) (j := 1) dX7_likely_68 fl_X7_142 (fun _ _ _ _ => rfl) (by first | decide | omega) (by first | rfl | assumption | exact (hship _ (by omega)).2 | exact (hrow _ (by omega)).2.1 | decide) ?_
      rw [show μ1.1 (4 + 1 + 1 + i) 1 = nI (sP (aS a) i) from by rw [k3.1 _ (fun q => by omega)]; exact z3]
      refine V_aload_n (pc := 71) dX7_likely_71 rfl rfl ?_
      refine V_getR (pc := 72) (ci := 7) (j := 2) (k2 := 4) dX7_likely_72 fl_X7_26 (fun _ _ _ _ => rfl) (by decide) rfl (rf_7_2 rfl) ?_
      refine V_inv0 (pc := 75) (ci := 4) dX7_likely_75 ml_X7_178 (by decide) rfl ⟨by decide, rfl⟩ (by first | decide | omega) (Nat.le_of_ble_eq_true rfl) (c_X4_freeNames μ1 h4 hS1) ?_
      rintro _ μ2 ⟨rfl, hμ⟩
      obtain rfl := hμ.symm
      refine V_inv3 (pc := 78) (ci := 1) dX7_likely_78 ml_X7_181 (by decide) rfl ⟨by decide, rfl⟩ (by first | decide | omega) (Nat.le_of_ble_eq_true rfl) (c_X1_chances hT hd (d + 1) (Nat.le_refl _) μ1 (sP (aS a) i) (63 - sS (aS a)) k1 k2 z4 (by omega)) ?_
      rintro _ μ2 ⟨rfl, m1, m2, m3⟩
      refine V_gets (pc := 81) (k := 90) dX7_likely_81 (by decide) (by decide) gs_X7_185 ?_
      refine V_iload_n (pc := 84) dX7_likely_84 rfl rfl ?_
      refine V_sald (pc := 85) (j := (d + 1)) dX7_likely_85 (by decide) (by decide) rfl (by show d + 1 < 7; omega) ?_
      rw [stT90 (d + 1) (by omega)]
      refine V_iload_n (pc := 86) dX7_likely_86 rfl rfl ?_
      refine V_ins3 (pc := 87) dX7_likely_87 ml_X7_188 (by first | decide | omega) (Nat.le_of_ble_eq_true rfl) (c_X7_inLowestTerms (q := q) μ2 (by have := chT_le (ow := aOw a) (κ := sK (aS a) i) hT (d + 1) (sP (aS a) i) (63 - sS (aS a)); have := p30 (d := d + 1) hd; omega) (by have := p30 (d := d + 1) hd; omega) (Nat.pow_pos (by decide)) hq) ?_
      rintro _ μ3 ⟨rfl, hμ⟩
      obtain rfl := hμ.symm
      refine V_lret (pc := 90) dX7_likely_90 rfl ?_
      have k4 : FrM (fun k => 33 ≤ k ∧ k ≤ 48) μ μ2 := k3.tr m3 (fun k hk => by have := hk.1; have := hk.2; omega)
      refine ⟨congrArg (fun z => some (Value.long z)) ?_, hA.fc k4 (fun k hk => hk), k4.C (fun k hk => by omega)⟩
      have e0 : (nI q = 0) ↔ (q = 0) := nI_eq (a := q) (b := 0) (by omega) (by decide)
      simp only [fLikely, h5, e9, h26, Bool.and_self, if_true, nn_nI (j := i) (by omega), nn_nI (j := d + 1) (by omega), e0]
    have h26 := bI_e h26
    refine V_ldc2 (pc := 29) (v := (-102)) ct_X7_169 dX7_likely_29 ?_
    refine V_lret (pc := 32) dX7_likely_32 rfl ?_
    refine ⟨congrArg (fun z => some (Value.long z)) ?_, hA, FrC.rf⟩
    first
    | (simp [fLikely, h5, e9]; done)
    | (simp [fLikely, h5, e9, h26]; done)
  have h5 := bI_e h5
  refine V_ldc2 (pc := 8) (v := (-101)) ct_X7_164 dX7_likely_8 ?_
  refine V_lret (pc := 11) dX7_likely_11 rfl ?_
  refine ⟨congrArg (fun z => some (Value.long z)) ?_, hA, FrC.rf⟩
  simp [fLikely, h5]
theorem dX7_what_0 : decode cX7_what 0 = .ok (.aload_n 0, 1) := by decide +kernel
theorem dX7_what_1 : decode cX7_what 1 = .ok (.iload_n 1, 1) := by decide +kernel
theorem dX7_what_2 : decode cX7_what 2 = .ok (.invokevirtual 126, 3) := by decide +kernel
theorem dX7_what_5 : decode cX7_what 5 = .ok (.ifCond .eq 10, 3) := by decide +kernel
theorem dX7_what_8 : decode cX7_what 8 = .ok (.iload_n 2, 1) := by decide +kernel
theorem dX7_what_9 : decode cX7_what 9 = .ok (.invokestatic 100, 3) := by decide +kernel
theorem dX7_what_12 : decode cX7_what 12 = .ok (.ifCond .ne 6, 3) := by decide +kernel
theorem dX7_what_15 : decode cX7_what 15 = .ok (.bipush (-101), 2) := by decide +kernel
theorem dX7_what_17 : decode cX7_what 17 = .ok (.ireturn, 1) := by decide +kernel
theorem dX7_what_18 : decode cX7_what 18 = .ok (.iload_n 3, 1) := by decide +kernel
theorem dX7_what_19 : decode cX7_what 19 = .ok (.iconst 1, 1) := by decide +kernel
theorem dX7_what_20 : decode cX7_what 20 = .ok (.if_icmp .lt 8, 3) := by decide +kernel
theorem dX7_what_23 : decode cX7_what 23 = .ok (.iload_n 3, 1) := by decide +kernel
theorem dX7_what_24 : decode cX7_what 24 = .ok (.iconst 4, 1) := by decide +kernel
theorem dX7_what_25 : decode cX7_what 25 = .ok (.if_icmp .le 6, 3) := by decide +kernel
theorem dX7_what_28 : decode cX7_what 28 = .ok (.bipush (-102), 2) := by decide +kernel
theorem dX7_what_30 : decode cX7_what 30 = .ok (.ireturn, 1) := by decide +kernel
theorem dX7_what_31 : decode cX7_what 31 = .ok (.aload_n 0, 1) := by decide +kernel
theorem dX7_what_32 : decode cX7_what 32 = .ok (.getfield 26, 3) := by decide +kernel
theorem dX7_what_35 : decode cX7_what 35 = .ok (.getfield 129, 3) := by decide +kernel
theorem dX7_what_38 : decode cX7_what 38 = .ok (.iload_n 1, 1) := by decide +kernel
theorem dX7_what_39 : decode cX7_what 39 = .ok (.aaload, 1) := by decide +kernel
theorem dX7_what_40 : decode cX7_what 40 = .ok (.astore 4, 2) := by decide +kernel
theorem dX7_what_42 : decode cX7_what 42 = .ok (.aload_n 0, 1) := by decide +kernel
theorem dX7_what_43 : decode cX7_what 43 = .ok (.getfield 46, 3) := by decide +kernel
theorem dX7_what_46 : decode cX7_what 46 = .ok (.aload_n 0, 1) := by decide +kernel
theorem dX7_what_47 : decode cX7_what 47 = .ok (.getfield 53, 3) := by decide +kernel
theorem dX7_what_50 : decode cX7_what 50 = .ok (.aload 4, 2) := by decide +kernel
theorem dX7_what_52 : decode cX7_what 52 = .ok (.getfield 171, 3) := by decide +kernel
theorem dX7_what_55 : decode cX7_what 55 = .ok (.iload_n 3, 1) := by decide +kernel
theorem dX7_what_56 : decode cX7_what 56 = .ok (.invokevirtual 174, 3) := by decide +kernel
theorem dX7_what_59 : decode cX7_what 59 = .ok (.aload_n 0, 1) := by decide +kernel
theorem dX7_what_60 : decode cX7_what 60 = .ok (.getfield 46, 3) := by decide +kernel
theorem dX7_what_63 : decode cX7_what 63 = .ok (.iload_n 2, 1) := by decide +kernel
theorem dX7_what_64 : decode cX7_what 64 = .ok (.iload_n 3, 1) := by decide +kernel
theorem dX7_what_65 : decode cX7_what 65 = .ok (.aload 4, 2) := by decide +kernel
theorem dX7_what_67 : decode cX7_what 67 = .ok (.getfield 142, 3) := by decide +kernel
theorem dX7_what_70 : decode cX7_what 70 = .ok (.aload_n 0, 1) := by decide +kernel
theorem dX7_what_71 : decode cX7_what 71 = .ok (.getfield 26, 3) := by decide +kernel
theorem dX7_what_74 : decode cX7_what 74 = .ok (.invokevirtual 178, 3) := by decide +kernel
theorem dX7_what_77 : decode cX7_what 77 = .ok (.invokevirtual 192, 3) := by decide +kernel
theorem dX7_what_80 : decode cX7_what 80 = .ok (.ireturn, 1) := by decide +kernel
set_option maxHeartbeats 4000000 in
set_option maxRecDepth 100000 in
theorem c_X7_what {l : Launch} {g : GW} {a : AT} {x y z : Int32} (μ : Mm) (hA : RC μ a)  : Con l g yX7_what cX7_what 5 (some .int) 14 [.ref 0, .int x, .int y, .int z] μ (fun r μ' => r = some (.int (fWhat a x y z)) ∧ RC μ' a ∧ FrC μ μ') := by
  obtain ⟨a1, a2, a3, a4, ⟨b, hb, hcur, hdrf, hB⟩, hS, hK, hD, hW⟩ := id hA
  obtain ⟨r1, r2, r3, r4, r5, r6, r7, r8, r9⟩ := id hS
  obtain ⟨w1, w2, w3, w4, w5, w6⟩ := id hW
  obtain ⟨p1, p2, p3⟩ := id a1
  obtain ⟨hb1, hb2, hb3, hb4, hb5, hb6, hrow⟩ := bkF hb
  have hship : ∀ i, i < 6 → 4 + 1 + 1 + i < 88 ∧ kt (4 + 1 + 1 + i) = 5 := (seaF (Or.inl rfl)).2.2.2.2.2.2
  have h4 : (4 : Nat) = 4 ∨ (4 : Nat) = 13 ∨ (4 : Nat) = 22 := Or.inl rfl
  refine Con.of [.ref 0, .int x, .int y, .int z, .null] 1 (by decide +kernel) (Nat.le_of_ble_eq_true rfl) rfl ?_
  refine V_aload_n (pc := 0) dX7_what_0 rfl rfl ?_
  refine V_iload_n (pc := 1) dX7_what_1 rfl rfl ?_
  refine V_inv1 (pc := 2) (ci := 7) dX7_what_2 ml_X7_126 (by decide) rfl ⟨by decide, rfl⟩ (by first | decide | omega) (Nat.le_of_ble_eq_true rfl) (c_X7_isShip μ hA) ?_
  rintro _ μ2 ⟨rfl, hμ⟩
  obtain rfl := hμ.symm
  refine V_ifeq (pc := 5) (tgt := 15) dX7_what_5 (by decide) (fun h5 => ?_) (fun h5 => ?_)
  · have h5 := bI_e h5
    refine V_bipush (pc := 15) (v := (-101)) dX7_what_15 (by decide) ?_
    refine V_iret (pc := 17) dX7_what_17 rfl ?_
    refine ⟨congrArg (fun z => some (Value.int z)) ?_, hA, FrC.rf⟩
    first
    | (simp [fWhat, h5]; done)
    | (simp [fWhat, h5, h12]; done)
  have h5 := bI_ne h5
  refine V_iload_n (pc := 8) dX7_what_8 rfl rfl ?_
  refine V_ins1 (pc := 9) dX7_what_9 ml_X7_100 (by first | decide | omega) (Nat.le_of_ble_eq_true rfl) (c_X7_isSign μ) ?_
  rintro _ μ2 ⟨rfl, hμ⟩
  obtain rfl := hμ.symm
  refine V_ifne (pc := 12) (tgt := 18) dX7_what_12 (by decide) (fun h12 => ?_) (fun h12 => ?_)
  · have h12 := bI_ne h12; rw [inR_N (n := 3) (by decide)] at h12
    refine V_iload_n (pc := 18) dX7_what_18 rfl rfl ?_
    refine V_iconst (pc := 19) (v := 1) dX7_what_19 (by decide) ?_
    refine V_icmplt (pc := 20) (tgt := 28) dX7_what_20 (by decide) (fun h20 => ?_) (fun h20 => ?_)
    · have e9 : inD z 4 = false := inD_f1 h20
      refine V_bipush (pc := 28) (v := (-102)) dX7_what_28 (by decide) ?_
      refine V_iret (pc := 30) dX7_what_30 rfl ?_
      refine ⟨congrArg (fun z => some (Value.int z)) ?_, hA, FrC.rf⟩
      simp [fWhat, h5, h12, e9]
    refine V_iload_n (pc := 23) dX7_what_23 rfl rfl ?_
    refine V_iconst (pc := 24) (v := 4) dX7_what_24 (by decide) ?_
    refine V_icmple (pc := 25) (tgt := 31) dX7_what_25 (by decide) (fun h25 => ?_) (fun h25 => ?_)
    · have e9 : inD z 4 = true := inD_t (M := 4) (by decide) h20 (fun q => absurd h25 (by rw [Int32.lt_iff_toInt_lt] at q; rw [Int32.le_iff_toInt_le]; omega))
      obtain ⟨i, hi, rfl⟩ := inN_of (by omega) h5
      obtain ⟨z1, z2, z3, z4, z5, z6, z7, z8⟩ := id (r8 i (by omega))
      obtain ⟨j, hj, rfl⟩ := inN_of (by decide) h12
      obtain ⟨d, hd, rfl⟩ := inD_of (by decide) e9
      have hT : TnOK (aTn a) := hB.2.2.2
      refine V_aload_n (pc := 31) dX7_what_31 rfl rfl ?_
      refine V_getR (pc := 32) (ci := 7) (j := 2) (k2 := 4) dX7_what_32 fl_X7_26 (fun _ _ _ _ => rfl) (by decide) rfl (rf_7_2 rfl) ?_
      refine V_getR (pc := 35) (ci := 4) (j := 0) (k2 := 5) dX7_what_35 fl_X7_129 (fun _ _ _ _ => rfl) (by decide) rfl (rf_4_0 rfl) ?_
      refine V_iload_n (pc := 38) dX7_what_38 rfl rfl ?_
      refine V_aald14 (pc := 39) (j := i) dX7_what_39 (by decide) rfl rfl (by show i < 6; omega) ?_
      refine V_astore4 (pc := 40) dX7_what_40 (by decide) rfl ?_
      refine V_aload_n (pc := 42) dX7_what_42 rfl rfl ?_
      refine V_getR (pc := 43) (ci := 7) (j := 6) (k2 := 33) dX7_what_43 fl_X7_46 (fun _ _ _ _ => rfl) (by decide) rfl (rf_7_6 rfl) ?_
      refine V_aload_n (pc := 46) dX7_what_46 rfl rfl ?_
      refine V_getR (pc := 47) (ci := 7) (j := 7) (k2 := b) dX7_what_47 fl_X7_53 (fun _ _ _ _ => rfl) (by decide) rfl ((rf_7_7 rfl).trans hcur) ?_
      refine V_aload (pc := 50) dX7_what_50 rfl ?_
      refine V_getI (pc := 52) (ci := 5) (j := 0) dX7_what_52 fl_X7_171 (fun _ _ _ _ => rfl) (by first | decide | omega) (by first | rfl | assumption | exact (hship _ (by omega)).2 | exact (hrow _ (by omega)).2.1 | decide) ?_
      rw [z1]
      refine V_iload_n (pc := 55) dX7_what_55 rfl rfl ?_
      refine V_inv3 (pc := 56) (ci := 1) dX7_what_56 ml_X7_174 (by decide) rfl ⟨by decide, rfl⟩ (by first | decide | omega) (Nat.le_of_ble_eq_true rfl) (c_X1_begin μ hb hB z2 hd) ?_
      rintro _ μ1 ⟨rfl, k1, k2, k3⟩
      have hS1 : SeaR μ1 4 (aS a) := hS.kept k3 (fun k hk q => by rcases hk with z | z <;> omega)
      refine V_aload_n (pc := 59) dX7_what_59 rfl rfl ?_
      refine V_getR (pc := 60) (ci := 7) (j := 6) (k2 := 33) dX7_what_60 fl_X7_46 (fun _ _ _ _ => rfl) (by decide) rfl (rf_7_6 rfl) ?_
      refine V_iload_n (pc := 63) dX7_what_63 rfl rfl ?_
      refine V_iload_n (pc := 64) dX7_what_64 rfl rfl ?_
      refine V_aload (pc := 65) dX7_what_65 rfl ?_
      refine V_getI (pc := 67) (ci := 5) (j := 1) dX7_what_67 fl_X7_142 (fun _ _ _ _ => rfl) (by first | decide | omega) (by first | rfl | assumption | exact (hship _ (by omega)).2 | exact (hrow _ (by omega)).2.1 | decide) ?_
      rw [show μ1.1 (4 + 1 + 1 + i) 1 = nI (sP (aS a) i) from by rw [k3.1 _ (fun q => by omega)]; exact z3]
      refine V_aload_n (pc := 70) dX7_what_70 rfl rfl ?_
      refine V_getR (pc := 71) (ci := 7) (j := 2) (k2 := 4) dX7_what_71 fl_X7_26 (fun _ _ _ _ => rfl) (by decide) rfl (rf_7_2 rfl) ?_
      refine V_inv0 (pc := 74) (ci := 4) dX7_what_74 ml_X7_178 (by decide) rfl ⟨by decide, rfl⟩ (by first | decide | omega) (Nat.le_of_ble_eq_true rfl) (c_X4_freeNames μ1 h4 hS1) ?_
      rintro _ μ2 ⟨rfl, hμ⟩
      obtain rfl := hμ.symm
      refine V_inv4 (pc := 77) (ci := 1) dX7_what_77 ml_X7_192 (by decide) rfl ⟨by decide, rfl⟩ (by first | decide | omega) (Nat.le_of_ble_eq_true rfl) (c_X1_best (d := d) μ1 hT hd (Nat.le_refl _) hj k1 k2 z4 (by omega)) ?_
      rintro _ μ2 ⟨rfl, m1, m2, m3⟩
      refine V_iret (pc := 80) dX7_what_80 rfl ?_
      have k4 : FrM (fun k => 33 ≤ k ∧ k ≤ 48) μ μ2 := k3.tr m3 (fun k hk => by have := hk.1; have := hk.2; omega)
      refine ⟨congrArg (fun z => some (Value.int z)) ?_, hA.fc k4 (fun k hk => hk), k4.C (fun k hk => by omega)⟩
      simp only [fWhat, h5, e9, h12, Bool.and_self, if_true, nn_nI (j := i) (by omega), nn_nI (j := j) (by omega), nn_nI (j := d + 1) (by omega), Nat.add_sub_cancel]
    have e9 : inD z 4 = false := inD_f2 (M := 4) (by decide) (by rw [Int32.le_iff_toInt_le] at h25; rw [Int32.lt_iff_toInt_lt]; omega)
    refine V_bipush (pc := 28) (v := (-102)) dX7_what_28 (by decide) ?_
    refine V_iret (pc := 30) dX7_what_30 rfl ?_
    refine ⟨congrArg (fun z => some (Value.int z)) ?_, hA, FrC.rf⟩
    simp [fWhat, h5, h12, e9]
  have h12 := bI_e h12; rw [inR_N (n := 3) (by decide)] at h12
  refine V_bipush (pc := 15) (v := (-101)) dX7_what_15 (by decide) ?_
  refine V_iret (pc := 17) dX7_what_17 rfl ?_
  refine ⟨congrArg (fun z => some (Value.int z)) ?_, hA, FrC.rf⟩
  first
  | (simp [fWhat, h5]; done)
  | (simp [fWhat, h5, h12]; done)
theorem dX7_sure_0 : decode cX7_sure 0 = .ok (.aload_n 0, 1) := by decide +kernel
theorem dX7_sure_1 : decode cX7_sure 1 = .ok (.iload_n 1, 1) := by decide +kernel
theorem dX7_sure_2 : decode cX7_sure 2 = .ok (.invokevirtual 126, 3) := by decide +kernel
theorem dX7_sure_5 : decode cX7_sure 5 = .ok (.ifCond .ne 6, 3) := by decide +kernel
theorem dX7_sure_8 : decode cX7_sure 8 = .ok (.bipush (-101), 2) := by decide +kernel
theorem dX7_sure_10 : decode cX7_sure 10 = .ok (.ireturn, 1) := by decide +kernel
theorem dX7_sure_11 : decode cX7_sure 11 = .ok (.aload_n 0, 1) := by decide +kernel
theorem dX7_sure_12 : decode cX7_sure 12 = .ok (.getfield 26, 3) := by decide +kernel
theorem dX7_sure_15 : decode cX7_sure 15 = .ok (.getfield 129, 3) := by decide +kernel
theorem dX7_sure_18 : decode cX7_sure 18 = .ok (.iload_n 1, 1) := by decide +kernel
theorem dX7_sure_19 : decode cX7_sure 19 = .ok (.aaload, 1) := by decide +kernel
theorem dX7_sure_20 : decode cX7_sure 20 = .ok (.astore_n 2, 1) := by decide +kernel
theorem dX7_sure_21 : decode cX7_sure 21 = .ok (.aload_n 0, 1) := by decide +kernel
theorem dX7_sure_22 : decode cX7_sure 22 = .ok (.getfield 46, 3) := by decide +kernel
theorem dX7_sure_25 : decode cX7_sure 25 = .ok (.aload_n 0, 1) := by decide +kernel
theorem dX7_sure_26 : decode cX7_sure 26 = .ok (.getfield 53, 3) := by decide +kernel
theorem dX7_sure_29 : decode cX7_sure 29 = .ok (.aload_n 2, 1) := by decide +kernel
theorem dX7_sure_30 : decode cX7_sure 30 = .ok (.getfield 171, 3) := by decide +kernel
theorem dX7_sure_33 : decode cX7_sure 33 = .ok (.iconst 4, 1) := by decide +kernel
theorem dX7_sure_34 : decode cX7_sure 34 = .ok (.invokevirtual 174, 3) := by decide +kernel
theorem dX7_sure_37 : decode cX7_sure 37 = .ok (.iconst 0, 1) := by decide +kernel
theorem dX7_sure_38 : decode cX7_sure 38 = .ok (.istore_n 3, 1) := by decide +kernel
theorem dX7_sure_39 : decode cX7_sure 39 = .ok (.iload_n 3, 1) := by decide +kernel
theorem dX7_sure_40 : decode cX7_sure 40 = .ok (.iconst 4, 1) := by decide +kernel
theorem dX7_sure_41 : decode cX7_sure 41 = .ok (.if_icmp .gt 38, 3) := by decide +kernel
theorem dX7_sure_44 : decode cX7_sure 44 = .ok (.aload_n 0, 1) := by decide +kernel
theorem dX7_sure_45 : decode cX7_sure 45 = .ok (.getfield 46, 3) := by decide +kernel
theorem dX7_sure_48 : decode cX7_sure 48 = .ok (.iload_n 3, 1) := by decide +kernel
theorem dX7_sure_49 : decode cX7_sure 49 = .ok (.aload_n 2, 1) := by decide +kernel
theorem dX7_sure_50 : decode cX7_sure 50 = .ok (.getfield 142, 3) := by decide +kernel
theorem dX7_sure_53 : decode cX7_sure 53 = .ok (.aload_n 0, 1) := by decide +kernel
theorem dX7_sure_54 : decode cX7_sure 54 = .ok (.getfield 26, 3) := by decide +kernel
theorem dX7_sure_57 : decode cX7_sure 57 = .ok (.invokevirtual 178, 3) := by decide +kernel
theorem dX7_sure_60 : decode cX7_sure 60 = .ok (.invokevirtual 181, 3) := by decide +kernel
theorem dX7_sure_63 : decode cX7_sure 63 = .ok (.getstatic 185, 3) := by decide +kernel
theorem dX7_sure_66 : decode cX7_sure 66 = .ok (.iload_n 3, 1) := by decide +kernel
theorem dX7_sure_67 : decode cX7_sure 67 = .ok (.iaload, 1) := by decide +kernel
theorem dX7_sure_68 : decode cX7_sure 68 = .ok (.if_icmp .ne 5, 3) := by decide +kernel
theorem dX7_sure_71 : decode cX7_sure 71 = .ok (.iload_n 3, 1) := by decide +kernel
theorem dX7_sure_72 : decode cX7_sure 72 = .ok (.ireturn, 1) := by decide +kernel
theorem dX7_sure_73 : decode cX7_sure 73 = .ok (.iinc 3 1, 3) := by decide +kernel
theorem dX7_sure_76 : decode cX7_sure 76 = .ok (.goto (-37), 3) := by decide +kernel
theorem dX7_sure_79 : decode cX7_sure 79 = .ok (.iconst (-1), 1) := by decide +kernel
theorem dX7_sure_80 : decode cX7_sure 80 = .ok (.ireturn, 1) := by decide +kernel
set_option maxHeartbeats 4000000 in
set_option maxRecDepth 100000 in
theorem c_X7_sure {l : Launch} {g : GW} {a : AT} {x : Int32} (μ : Mm) (hA : RC μ a)  : Con l g yX7_sure cX7_sure 4 (some .int) 14 [.ref 0, .int x] μ (fun r μ' => r = some (.int (fSure a x)) ∧ RC μ' a ∧ FrC μ μ') := by
  obtain ⟨a1, a2, a3, a4, ⟨b, hb, hcur, hdrf, hB⟩, hS, hK, hD, hW⟩ := id hA
  obtain ⟨r1, r2, r3, r4, r5, r6, r7, r8, r9⟩ := id hS
  obtain ⟨w1, w2, w3, w4, w5, w6⟩ := id hW
  obtain ⟨p1, p2, p3⟩ := id a1
  obtain ⟨hb1, hb2, hb3, hb4, hb5, hb6, hrow⟩ := bkF hb
  have hship : ∀ i, i < 6 → 4 + 1 + 1 + i < 88 ∧ kt (4 + 1 + 1 + i) = 5 := (seaF (Or.inl rfl)).2.2.2.2.2.2
  have h4 : (4 : Nat) = 4 ∨ (4 : Nat) = 13 ∨ (4 : Nat) = 22 := Or.inl rfl
  refine Con.of [.ref 0, .int x, .null, .null] 2 (by decide +kernel) (Nat.le_of_ble_eq_true rfl) rfl ?_
  refine V_aload_n (pc := 0) dX7_sure_0 rfl rfl ?_
  refine V_iload_n (pc := 1) dX7_sure_1 rfl rfl ?_
  refine V_inv1 (pc := 2) (ci := 7) dX7_sure_2 ml_X7_126 (by decide) rfl ⟨by decide, rfl⟩ (by first | decide | omega) (Nat.le_of_ble_eq_true rfl) (c_X7_isShip μ hA) ?_
  rintro _ μ2 ⟨rfl, hμ⟩
  obtain rfl := hμ.symm
  refine V_ifne (pc := 5) (tgt := 11) dX7_sure_5 (by decide) (fun h5 => ?_) (fun h5 => ?_)
  · have h5 := bI_ne h5; obtain ⟨i, hi, rfl⟩ := inN_of (by omega) h5; obtain ⟨z1, z2, z3, z4, z5, z6, z7, z8⟩ := id (r8 i (by omega)); have hT : TnOK (aTn a) := hB.2.2.2
    refine V_aload_n (pc := 11) dX7_sure_11 rfl rfl ?_
    refine V_getR (pc := 12) (ci := 7) (j := 2) (k2 := 4) dX7_sure_12 fl_X7_26 (fun _ _ _ _ => rfl) (by decide) rfl (rf_7_2 rfl) ?_
    refine V_getR (pc := 15) (ci := 4) (j := 0) (k2 := 5) dX7_sure_15 fl_X7_129 (fun _ _ _ _ => rfl) (by decide) rfl (rf_4_0 rfl) ?_
    refine V_iload_n (pc := 18) dX7_sure_18 rfl rfl ?_
    refine V_aald14 (pc := 19) (j := i) dX7_sure_19 (by decide) rfl rfl (by show i < 6; omega) ?_
    refine V_astore2 (pc := 20) dX7_sure_20 (by decide) rfl ?_
    refine V_aload_n (pc := 21) dX7_sure_21 rfl rfl ?_
    refine V_getR (pc := 22) (ci := 7) (j := 6) (k2 := 33) dX7_sure_22 fl_X7_46 (fun _ _ _ _ => rfl) (by decide) rfl (rf_7_6 rfl) ?_
    refine V_aload_n (pc := 25) dX7_sure_25 rfl rfl ?_
    refine V_getR (pc := 26) (ci := 7) (j := 7) (k2 := b) dX7_sure_26 fl_X7_53 (fun _ _ _ _ => rfl) (by decide) rfl ((rf_7_7 rfl).trans hcur) ?_
    refine V_aload_n (pc := 29) dX7_sure_29 rfl rfl ?_
    refine V_getI (pc := 30) (ci := 5) (j := 0) dX7_sure_30 fl_X7_171 (fun _ _ _ _ => rfl) (by first | decide | omega) (by first | rfl | assumption | exact (hship _ (by omega)).2 | exact (hrow _ (by omega)).2.1 | decide) ?_
    rw [z1]
    refine V_iconst (pc := 33) (v := 4) dX7_sure_33 (by decide) ?_
    refine V_inv3 (pc := 34) (ci := 1) dX7_sure_34 ml_X7_174 (by decide) rfl ⟨by decide, rfl⟩ (by first | decide | omega) (Nat.le_of_ble_eq_true rfl) (c_X1_begin (N := 4) μ hb hB z2 (by omega)) ?_
    rintro _ μ1 ⟨rfl, k1, k2, k3⟩
    refine V_iconst (pc := 37) (v := 0) dX7_sure_37 (by decide) ?_
    refine V_istore3 (pc := 38) dX7_sure_38 (by decide) rfl ?_
    have loopA : ∀ (nA d : Nat) (μ2 : Mm), d ≤ 5 → 5 < d + nA → (FcR μ2 (aTn a) (aOw a) (sK (aS a) i)) → (MmR μ2 (aTn a) (aOw a) (sK (aS a) i) 4) → (FrM (fun k => 33 ≤ k ∧ k ≤ 48) μ μ2) → (suD (aTn a) (aOw a) (sK (aS a) i) (sP (aS a) i) (63 - sS (aS a)) 5 = suD (aTn a) (aOw a) (sK (aS a) i) (sP (aS a) i) (63 - sS (aS a)) (5 - d)) → V l g RX7 cX7_sure 4 (some .int) 14 39 [.ref 0, .int (nI i), .ref (4 + 1 + 1 + i), .int (nI d)] [] μ2 (fun r μ' => r = some (.int (fSure a (nI i))) ∧ RC μ' a ∧ FrC μ μ') := by
      intro nA
      induction nA with
      | zero => intro d μ2 h1 h2; exact absurd h2 (by omega)
      | succ nA ihA =>
        intro d μ2 hleA hfuA q1 q2 q3 q4
        refine V_iload_n (pc := 39) dX7_sure_39 rfl rfl ?_
        refine V_iconst (pc := 40) (v := 4) dX7_sure_40 (by decide) ?_
        refine V_icmpgt (pc := 41) (tgt := 79) dX7_sure_41 (by decide) (fun h41 => ?_) (fun h41 => ?_)
        · have h41 := (nI_ltI (a := 4) (b := d) (by decide) (by omega)).mp h41; obtain rfl : d = 5 := by omega
          refine V_iconst (pc := 79) (v := (-1)) dX7_sure_79 (by decide) ?_
          refine V_iret (pc := 80) dX7_sure_80 rfl ?_
          refine ⟨congrArg (fun z => some (Value.int z)) ?_, hA.fc q3 (fun k hk => hk), q3.C (fun k hk => by omega)⟩
          simp only [fSure, h5, if_true, nn_nI (j := i) (by omega), q4]
          rfl
        have hlt : d < 5 := by have := mt (nI_ltI (a := 4) (b := d) (by decide) (by omega)).mpr h41; omega
        refine V_aload_n (pc := 44) dX7_sure_44 rfl rfl ?_
        refine V_getR (pc := 45) (ci := 7) (j := 6) (k2 := 33) dX7_sure_45 fl_X7_46 (fun _ _ _ _ => rfl) (by decide) rfl (rf_7_6 rfl) ?_
        refine V_iload_n (pc := 48) dX7_sure_48 rfl rfl ?_
        refine V_aload_n (pc := 49) dX7_sure_49 rfl rfl ?_
        refine V_getI (pc := 50) (ci := 5) (j := 1) dX7_sure_50 fl_X7_142 (fun _ _ _ _ => rfl) (by first | decide | omega) (by first | rfl | assumption | exact (hship _ (by omega)).2 | exact (hrow _ (by omega)).2.1 | decide) ?_
        rw [show μ2.1 (4 + 1 + 1 + i) 1 = nI (sP (aS a) i) from by rw [q3.1 _ (fun q => by omega)]; exact z3]
        refine V_aload_n (pc := 53) dX7_sure_53 rfl rfl ?_
        refine V_getR (pc := 54) (ci := 7) (j := 2) (k2 := 4) dX7_sure_54 fl_X7_26 (fun _ _ _ _ => rfl) (by decide) rfl (rf_7_2 rfl) ?_
        refine V_inv0 (pc := 57) (ci := 4) dX7_sure_57 ml_X7_178 (by decide) rfl ⟨by decide, rfl⟩ (by first | decide | omega) (Nat.le_of_ble_eq_true rfl) (c_X4_freeNames μ2 h4 (hS.kept q3 (fun k hk q => by rcases hk with z | z <;> omega))) ?_
        rintro _ μ3 ⟨rfl, hμ⟩
        obtain rfl := hμ.symm
        refine V_inv3 (pc := 60) (ci := 1) dX7_sure_60 ml_X7_181 (by decide) rfl ⟨by decide, rfl⟩ (by first | decide | omega) (Nat.le_of_ble_eq_true rfl) (c_X1_chances hT (by omega) d (by omega) μ2 (sP (aS a) i) (63 - sS (aS a)) q1 q2 z4 (by omega)) ?_
        rintro _ μ3 ⟨rfl, m1, m2, m3⟩
        refine V_gets (pc := 63) (k := 90) dX7_sure_63 (by decide) (by decide) gs_X7_185 ?_
        refine V_iload_n (pc := 66) dX7_sure_66 rfl rfl ?_
        refine V_sald (pc := 67) (j := d) dX7_sure_67 (by decide) (by decide) rfl (by show d < 7; omega) ?_
        rw [stT90 d (by omega)]
        have hst := suD_step (tn := aTn a) (ow := aOw a) (κ := sK (aS a) i) (p := sP (aS a) i) (F := 63 - sS (aS a)) (d := d) (by omega)
        have k4 : FrM (fun k => 33 ≤ k ∧ k ≤ 48) μ μ3 := q3.tr m3 (fun k hk => by have := hk.1; have := hk.2; omega)
        have hcl := chT_le (ow := aOw a) (κ := sK (aS a) i) hT d (sP (aS a) i) (63 - sS (aS a))
        have hp30 := p30 (d := d) (by omega)
        refine V_icmpne (pc := 68) (tgt := 73) dX7_sure_68 (by decide) (fun h68 => ?_) (fun h68 => ?_)
        · have h68 := mt (nI_eq (a := chT (aTn a) (aOw a) (sK (aS a) i) d (sP (aS a) i) (63 - sS (aS a))) (b := 30 ^ d) (by omega) (by omega)).mpr h68
          refine V_iinc3 (pc := 73) (v := nI (d + 1)) dX7_sure_73 (nI_1 d) (by decide) rfl ?_
          refine V_goto (pc := 76) (tgt := 39) dX7_sure_76 (by decide) ?_
          exact ihA (d + 1) μ3 (by omega) (by omega) m1 m2 k4 (by rw [q4, hst, if_neg h68])
        have h68 := (nI_eq (a := chT (aTn a) (aOw a) (sK (aS a) i) d (sP (aS a) i) (63 - sS (aS a))) (b := 30 ^ d) (by omega) (by omega)).mp h68
        refine V_iload_n (pc := 71) dX7_sure_71 rfl rfl ?_
        refine V_iret (pc := 72) dX7_sure_72 rfl ?_
        refine ⟨congrArg (fun z => some (Value.int z)) ?_, hA.fc k4 (fun k hk => hk), k4.C (fun k hk => by omega)⟩
        simp only [fSure, h5, if_true, nn_nI (j := i) (by omega), q4, hst]
        rw [if_pos h68, if_neg (by omega)]
    exact loopA (5 + 1) 0 _ (by omega) (by omega) k1 k2 k3 rfl
  have h5 := bI_e h5
  refine V_bipush (pc := 8) (v := (-101)) dX7_sure_8 (by decide) ?_
  refine V_iret (pc := 10) dX7_sure_10 rfl ?_
  refine ⟨congrArg (fun z => some (Value.int z)) ?_, hA, FrC.rf⟩
  simp [fSure, h5]
theorem dX7_race_0 : decode cX7_race 0 = .ok (.aload_n 0, 1) := by decide +kernel
theorem dX7_race_1 : decode cX7_race 1 = .ok (.iload_n 1, 1) := by decide +kernel
theorem dX7_race_2 : decode cX7_race 2 = .ok (.invokevirtual 126, 3) := by decide +kernel
theorem dX7_race_5 : decode cX7_race 5 = .ok (.ifCond .eq 16, 3) := by decide +kernel
theorem dX7_race_8 : decode cX7_race 8 = .ok (.aload_n 0, 1) := by decide +kernel
theorem dX7_race_9 : decode cX7_race 9 = .ok (.iload_n 2, 1) := by decide +kernel
theorem dX7_race_10 : decode cX7_race 10 = .ok (.invokevirtual 126, 3) := by decide +kernel
theorem dX7_race_13 : decode cX7_race 13 = .ok (.ifCond .eq 8, 3) := by decide +kernel
theorem dX7_race_16 : decode cX7_race 16 = .ok (.iload_n 1, 1) := by decide +kernel
theorem dX7_race_17 : decode cX7_race 17 = .ok (.iload_n 2, 1) := by decide +kernel
theorem dX7_race_18 : decode cX7_race 18 = .ok (.if_icmp .ne 7, 3) := by decide +kernel
theorem dX7_race_21 : decode cX7_race 21 = .ok (.ldc2_w 164, 3) := by decide +kernel
theorem dX7_race_24 : decode cX7_race 24 = .ok (.lreturn, 1) := by decide +kernel
theorem dX7_race_25 : decode cX7_race 25 = .ok (.iload_n 3, 1) := by decide +kernel
theorem dX7_race_26 : decode cX7_race 26 = .ok (.iconst 1, 1) := by decide +kernel
theorem dX7_race_27 : decode cX7_race 27 = .ok (.if_icmp .lt 17, 3) := by decide +kernel
theorem dX7_race_30 : decode cX7_race 30 = .ok (.iload_n 3, 1) := by decide +kernel
theorem dX7_race_31 : decode cX7_race 31 = .ok (.bipush 6, 2) := by decide +kernel
theorem dX7_race_33 : decode cX7_race 33 = .ok (.if_icmp .gt 11, 3) := by decide +kernel
theorem dX7_race_36 : decode cX7_race 36 = .ok (.iload 4, 2) := by decide +kernel
theorem dX7_race_38 : decode cX7_race 38 = .ok (.invokestatic 166, 3) := by decide +kernel
theorem dX7_race_41 : decode cX7_race 41 = .ok (.ifCond .ne 7, 3) := by decide +kernel
theorem dX7_race_44 : decode cX7_race 44 = .ok (.ldc2_w 169, 3) := by decide +kernel
theorem dX7_race_47 : decode cX7_race 47 = .ok (.lreturn, 1) := by decide +kernel
theorem dX7_race_48 : decode cX7_race 48 = .ok (.aload_n 0, 1) := by decide +kernel
theorem dX7_race_49 : decode cX7_race 49 = .ok (.getfield 53, 3) := by decide +kernel
theorem dX7_race_52 : decode cX7_race 52 = .ok (.iload_n 3, 1) := by decide +kernel
theorem dX7_race_53 : decode cX7_race 53 = .ok (.aload_n 0, 1) := by decide +kernel
theorem dX7_race_54 : decode cX7_race 54 = .ok (.getfield 26, 3) := by decide +kernel
theorem dX7_race_57 : decode cX7_race 57 = .ok (.getfield 129, 3) := by decide +kernel
theorem dX7_race_60 : decode cX7_race 60 = .ok (.iload_n 1, 1) := by decide +kernel
theorem dX7_race_61 : decode cX7_race 61 = .ok (.aaload, 1) := by decide +kernel
theorem dX7_race_62 : decode cX7_race 62 = .ok (.getfield 142, 3) := by decide +kernel
theorem dX7_race_65 : decode cX7_race 65 = .ok (.aload_n 0, 1) := by decide +kernel
theorem dX7_race_66 : decode cX7_race 66 = .ok (.getfield 26, 3) := by decide +kernel
theorem dX7_race_69 : decode cX7_race 69 = .ok (.getfield 129, 3) := by decide +kernel
theorem dX7_race_72 : decode cX7_race 72 = .ok (.iload_n 2, 1) := by decide +kernel
theorem dX7_race_73 : decode cX7_race 73 = .ok (.aaload, 1) := by decide +kernel
theorem dX7_race_74 : decode cX7_race 74 = .ok (.getfield 142, 3) := by decide +kernel
theorem dX7_race_77 : decode cX7_race 77 = .ok (.invokestatic 199, 3) := by decide +kernel
theorem dX7_race_80 : decode cX7_race 80 = .ok (.istore 5, 2) := by decide +kernel
theorem dX7_race_82 : decode cX7_race 82 = .ok (.iload 5, 2) := by decide +kernel
theorem dX7_race_84 : decode cX7_race 84 = .ok (.getstatic 185, 3) := by decide +kernel
theorem dX7_race_87 : decode cX7_race 87 = .ok (.iload_n 3, 1) := by decide +kernel
theorem dX7_race_88 : decode cX7_race 88 = .ok (.iaload, 1) := by decide +kernel
theorem dX7_race_89 : decode cX7_race 89 = .ok (.iload 4, 2) := by decide +kernel
theorem dX7_race_91 : decode cX7_race 91 = .ok (.invokestatic 188, 3) := by decide +kernel
theorem dX7_race_94 : decode cX7_race 94 = .ok (.lreturn, 1) := by decide +kernel
set_option maxHeartbeats 4000000 in
set_option maxRecDepth 100000 in
theorem c_X7_race {l : Launch} {g : GW} {a : AT} {x y z p : Int32} (μ : Mm) (hA : RC μ a)  : Con l g yX7_race cX7_race 6 (some .long) 9 [.ref 0, .int x, .int y, .int z, .int p] μ (fun r μ' => r = some (.long (fRace a x y z p)) ∧ μ' = μ) := by
  obtain ⟨a1, a2, a3, a4, ⟨b, hb, hcur, hdrf, hB⟩, hS, hK, hD, hW⟩ := id hA
  obtain ⟨r1, r2, r3, r4, r5, r6, r7, r8, r9⟩ := id hS
  obtain ⟨w1, w2, w3, w4, w5, w6⟩ := id hW
  obtain ⟨p1, p2, p3⟩ := id a1
  obtain ⟨hb1, hb2, hb3, hb4, hb5, hb6, hrow⟩ := bkF hb
  have hship : ∀ i, i < 6 → 4 + 1 + 1 + i < 88 ∧ kt (4 + 1 + 1 + i) = 5 := (seaF (Or.inl rfl)).2.2.2.2.2.2
  have h4 : (4 : Nat) = 4 ∨ (4 : Nat) = 13 ∨ (4 : Nat) = 22 := Or.inl rfl
  refine Con.of [.ref 0, .int x, .int y, .int z, .int p, .null] 1 (by decide +kernel) (Nat.le_of_ble_eq_true rfl) rfl ?_
  refine V_aload_n (pc := 0) dX7_race_0 rfl rfl ?_
  refine V_iload_n (pc := 1) dX7_race_1 rfl rfl ?_
  refine V_inv1 (pc := 2) (ci := 7) dX7_race_2 ml_X7_126 (by decide) rfl ⟨by decide, rfl⟩ (by first | decide | omega) (Nat.le_of_ble_eq_true rfl) (c_X7_isShip μ hA) ?_
  rintro _ μ2 ⟨rfl, hμ⟩
  obtain rfl := hμ.symm
  refine V_ifeq (pc := 5) (tgt := 21) dX7_race_5 (by decide) (fun h5 => ?_) (fun h5 => ?_)
  · have h5 := bI_e h5
    refine V_ldc2 (pc := 21) (v := (-101)) ct_X7_164 dX7_race_21 ?_
    refine V_lret (pc := 24) dX7_race_24 rfl ?_
    refine ⟨congrArg (fun z => some (Value.long z)) ?_, rfl⟩
    first
    | (simp [fRace, h5]; done)
    | (simp [fRace, h13]; done)
    | (simp [fRace, h18]; done)
  have h5 := bI_ne h5
  refine V_aload_n (pc := 8) dX7_race_8 rfl rfl ?_
  refine V_iload_n (pc := 9) dX7_race_9 rfl rfl ?_
  refine V_inv1 (pc := 10) (ci := 7) dX7_race_10 ml_X7_126 (by decide) rfl ⟨by decide, rfl⟩ (by first | decide | omega) (Nat.le_of_ble_eq_true rfl) (c_X7_isShip μ hA) ?_
  rintro _ μ2 ⟨rfl, hμ⟩
  obtain rfl := hμ.symm
  refine V_ifeq (pc := 13) (tgt := 21) dX7_race_13 (by decide) (fun h13 => ?_) (fun h13 => ?_)
  · have h13 := bI_e h13
    refine V_ldc2 (pc := 21) (v := (-101)) ct_X7_164 dX7_race_21 ?_
    refine V_lret (pc := 24) dX7_race_24 rfl ?_
    refine ⟨congrArg (fun z => some (Value.long z)) ?_, rfl⟩
    first
    | (simp [fRace, h5]; done)
    | (simp [fRace, h13]; done)
    | (simp [fRace, h18]; done)
  have h13 := bI_ne h13
  refine V_iload_n (pc := 16) dX7_race_16 rfl rfl ?_
  refine V_iload_n (pc := 17) dX7_race_17 rfl rfl ?_
  refine V_icmpne (pc := 18) (tgt := 25) dX7_race_18 (by decide) (fun h18 => ?_) (fun h18 => ?_)
  · refine V_iload_n (pc := 25) dX7_race_25 rfl rfl ?_
    refine V_iconst (pc := 26) (v := 1) dX7_race_26 (by decide) ?_
    refine V_icmplt (pc := 27) (tgt := 44) dX7_race_27 (by decide) (fun h27 => ?_) (fun h27 => ?_)
    · have e9 : inD z 6 = false := inD_f1 h27
      refine V_ldc2 (pc := 44) (v := (-102)) ct_X7_169 dX7_race_44 ?_
      refine V_lret (pc := 47) dX7_race_47 rfl ?_
      refine ⟨congrArg (fun z => some (Value.long z)) ?_, rfl⟩
      first
      | (simp [fRace, h5, h13, h18, e9]; done)
      | (simp [fRace, h5, h13, h18, h41]; done)
    refine V_iload_n (pc := 30) dX7_race_30 rfl rfl ?_
    refine V_bipush (pc := 31) (v := 6) dX7_race_31 (by decide) ?_
    refine V_icmpgt (pc := 33) (tgt := 44) dX7_race_33 (by decide) (fun h33 => ?_) (fun h33 => ?_)
    · have e9 : inD z 6 = false := inD_f2 (M := 6) (by decide) h33
      refine V_ldc2 (pc := 44) (v := (-102)) ct_X7_169 dX7_race_44 ?_
      refine V_lret (pc := 47) dX7_race_47 rfl ?_
      refine ⟨congrArg (fun z => some (Value.long z)) ?_, rfl⟩
      first
      | (simp [fRace, h5, h13, h18, e9]; done)
      | (simp [fRace, h5, h13, h18, h41]; done)
    have e9 : inD z 6 = true := inD_t (M := 6) (by decide) h27 h33
    refine V_iload (pc := 36) dX7_race_36 rfl ?_
    refine V_ins1 (pc := 38) dX7_race_38 ml_X7_166 (by first | decide | omega) (Nat.le_of_ble_eq_true rfl) (c_X7_isPart μ) ?_
    rintro _ μ2 ⟨rfl, hμ⟩
    obtain rfl := hμ.symm
    refine V_ifne (pc := 41) (tgt := 48) dX7_race_41 (by decide) (fun h41 => ?_) (fun h41 => ?_)
    · have h41 := bI_ne h41
      obtain ⟨i, hi, rfl⟩ := inN_of (by omega) h5
      obtain ⟨z1, z2, z3, z4, z5, z6, z7, z8⟩ := id (r8 i (by omega))
      obtain ⟨j, hj, rfl⟩ := inN_of (by omega) h13
      obtain ⟨y1, y2, y3, y4, y5, y6, y7, y8⟩ := id (r8 j (by omega))
      obtain ⟨d, hd, rfl⟩ := inD_of (by decide) e9
      have hT : TnOK (aTn a) := hB.2.2.2
      obtain ⟨q, hq, rfl⟩ : ∃ q, q ≤ 1 ∧ p = nI q := by
        unfold isPt at h41
        rw [Bool.or_eq_true, decide_eq_true_eq, decide_eq_true_eq] at h41
        rcases h41 with h | h
        · exact ⟨0, by omega, h⟩
        · exact ⟨1, by omega, h⟩
      refine V_aload_n (pc := 48) dX7_race_48 rfl rfl ?_
      refine V_getR (pc := 49) (ci := 7) (j := 7) (k2 := b) dX7_race_49 fl_X7_53 (fun _ _ _ _ => rfl) (by decide) rfl ((rf_7_7 rfl).trans hcur) ?_
      refine V_iload_n (pc := 52) dX7_race_52 rfl rfl ?_
      refine V_aload_n (pc := 53) dX7_race_53 rfl rfl ?_
      refine V_getR (pc := 54) (ci := 7) (j := 2) (k2 := 4) dX7_race_54 fl_X7_26 (fun _ _ _ _ => rfl) (by decide) rfl (rf_7_2 rfl) ?_
      refine V_getR (pc := 57) (ci := 4) (j := 0) (k2 := 5) dX7_race_57 fl_X7_129 (fun _ _ _ _ => rfl) (by decide) rfl (rf_4_0 rfl) ?_
      refine V_iload_n (pc := 60) dX7_race_60 rfl rfl ?_
      refine V_aald14 (pc := 61) (j := i) dX7_race_61 (by decide) rfl rfl (by show i < 6; omega) ?_
      refine V_getI (pc := 62) (ci := 5) (j := 1) dX7_race_62 fl_X7_142 (fun _ _ _ _ => rfl) (by first | decide | omega) (by first | rfl | assumption | exact (hship _ (by omega)).2 | exact (hrow _ (by omega)).2.1 | decide) ?_
      rw [z3]
      refine V_aload_n (pc := 65) dX7_race_65 rfl rfl ?_
      refine V_getR (pc := 66) (ci := 7) (j := 2) (k2 := 4) dX7_race_66 fl_X7_26 (fun _ _ _ _ => rfl) (by decide) rfl (rf_7_2 rfl) ?_
      refine V_getR (pc := 69) (ci := 4) (j := 0) (k2 := 5) dX7_race_69 fl_X7_129 (fun _ _ _ _ => rfl) (by decide) rfl (rf_4_0 rfl) ?_
      refine V_iload_n (pc := 72) dX7_race_72 rfl rfl ?_
      refine V_aald14 (pc := 73) (j := j) dX7_race_73 (by decide) rfl rfl (by show j < 6; omega) ?_
      refine V_getI (pc := 74) (ci := 5) (j := 1) dX7_race_74 fl_X7_142 (fun _ _ _ _ => rfl) (by first | decide | omega) (by first | rfl | assumption | exact (hship _ (by omega)).2 | exact (hrow _ (by omega)).2.1 | decide) ?_
      rw [y3]
      refine V_ins4 (pc := 77) dX7_race_77 ml_X7_199 (by first | decide | omega) (Nat.le_of_ble_eq_true rfl) (c_X7_raceChances μ hb hB (d + 1) (sP (aS a) i) (sP (aS a) j) hd z4 y4) ?_
      rintro _ μ2 ⟨rfl, hμ⟩
      obtain rfl := hμ.symm
      refine V_istore5 (pc := 80) dX7_race_80 (by decide) rfl ?_
      refine V_iload (pc := 82) dX7_race_82 rfl ?_
      refine V_gets (pc := 84) (k := 90) dX7_race_84 (by decide) (by decide) gs_X7_185 ?_
      refine V_iload_n (pc := 87) dX7_race_87 rfl rfl ?_
      refine V_sald (pc := 88) (j := (d + 1)) dX7_race_88 (by decide) (by decide) rfl (by show d + 1 < 7; omega) ?_
      rw [stT90 (d + 1) (by omega)]
      refine V_iload (pc := 89) dX7_race_89 rfl ?_
      refine V_ins3 (pc := 91) dX7_race_91 ml_X7_188 (by first | decide | omega) (Nat.le_of_ble_eq_true rfl) (c_X7_inLowestTerms (q := q) μ (by have := raT_le (ow := aOw a) hT (d + 1) (sP (aS a) i) (sP (aS a) j); have := p30_6 (d := d + 1) hd; omega) (by have := p30_6 (d := d + 1) hd; omega) (Nat.pow_pos (by decide)) hq) ?_
      rintro _ μ2 ⟨rfl, hμ⟩
      obtain rfl := hμ.symm
      refine V_lret (pc := 94) dX7_race_94 rfl ?_
      refine ⟨congrArg (fun z => some (Value.long z)) ?_, rfl⟩
      have e0 : (nI q = 0) ↔ (q = 0) := nI_eq (a := q) (b := 0) (by omega) (by decide)
      simp only [fRace, h5, h13, e9, h41, h18, decide_false, Bool.not_false, Bool.and_self, if_true, nn_nI (j := i) (by omega), nn_nI (j := j) (by omega), nn_nI (j := d + 1) (by omega), e0]
    have h41 := bI_e h41
    refine V_ldc2 (pc := 44) (v := (-102)) ct_X7_169 dX7_race_44 ?_
    refine V_lret (pc := 47) dX7_race_47 rfl ?_
    refine ⟨congrArg (fun z => some (Value.long z)) ?_, rfl⟩
    first
    | (simp [fRace, h5, h13, h18, e9]; done)
    | (simp [fRace, h5, h13, h18, h41]; done)
  refine V_ldc2 (pc := 21) (v := (-101)) ct_X7_164 dX7_race_21 ?_
  refine V_lret (pc := 24) dX7_race_24 rfl ?_
  refine ⟨congrArg (fun z => some (Value.long z)) ?_, rfl⟩
  first
  | (simp [fRace, h5]; done)
  | (simp [fRace, h13]; done)
  | (simp [fRace, h18]; done)
