theorem dJ6_bitCount_0f7a4_0 : decode cJ6_bitCount_0f7a4 0 = .ok (.iload_n 0, 1) := by decide +kernel
theorem dJ6_bitCount_0f7a4_1 : decode cJ6_bitCount_0f7a4 1 = .ok (.iload_n 0, 1) := by decide +kernel
theorem dJ6_bitCount_0f7a4_2 : decode cJ6_bitCount_0f7a4 2 = .ok (.iconst 1, 1) := by decide +kernel
theorem dJ6_bitCount_0f7a4_3 : decode cJ6_bitCount_0f7a4 3 = .ok (.iushr, 1) := by decide +kernel
theorem dJ6_bitCount_0f7a4_4 : decode cJ6_bitCount_0f7a4 4 = .ok (.ldc_w 265, 3) := by decide +kernel
theorem dJ6_bitCount_0f7a4_7 : decode cJ6_bitCount_0f7a4 7 = .ok (.iand, 1) := by decide +kernel
theorem dJ6_bitCount_0f7a4_8 : decode cJ6_bitCount_0f7a4 8 = .ok (.isub, 1) := by decide +kernel
theorem dJ6_bitCount_0f7a4_9 : decode cJ6_bitCount_0f7a4 9 = .ok (.istore_n 0, 1) := by decide +kernel
theorem dJ6_bitCount_0f7a4_10 : decode cJ6_bitCount_0f7a4 10 = .ok (.iload_n 0, 1) := by decide +kernel
theorem dJ6_bitCount_0f7a4_11 : decode cJ6_bitCount_0f7a4 11 = .ok (.ldc_w 266, 3) := by decide +kernel
theorem dJ6_bitCount_0f7a4_14 : decode cJ6_bitCount_0f7a4 14 = .ok (.iand, 1) := by decide +kernel
theorem dJ6_bitCount_0f7a4_15 : decode cJ6_bitCount_0f7a4 15 = .ok (.iload_n 0, 1) := by decide +kernel
theorem dJ6_bitCount_0f7a4_16 : decode cJ6_bitCount_0f7a4 16 = .ok (.iconst 2, 1) := by decide +kernel
theorem dJ6_bitCount_0f7a4_17 : decode cJ6_bitCount_0f7a4 17 = .ok (.iushr, 1) := by decide +kernel
theorem dJ6_bitCount_0f7a4_18 : decode cJ6_bitCount_0f7a4 18 = .ok (.ldc_w 266, 3) := by decide +kernel
theorem dJ6_bitCount_0f7a4_21 : decode cJ6_bitCount_0f7a4 21 = .ok (.iand, 1) := by decide +kernel
theorem dJ6_bitCount_0f7a4_22 : decode cJ6_bitCount_0f7a4 22 = .ok (.iadd, 1) := by decide +kernel
theorem dJ6_bitCount_0f7a4_23 : decode cJ6_bitCount_0f7a4 23 = .ok (.istore_n 0, 1) := by decide +kernel
theorem dJ6_bitCount_0f7a4_24 : decode cJ6_bitCount_0f7a4 24 = .ok (.iload_n 0, 1) := by decide +kernel
theorem dJ6_bitCount_0f7a4_25 : decode cJ6_bitCount_0f7a4 25 = .ok (.iload_n 0, 1) := by decide +kernel
theorem dJ6_bitCount_0f7a4_26 : decode cJ6_bitCount_0f7a4 26 = .ok (.iconst 4, 1) := by decide +kernel
theorem dJ6_bitCount_0f7a4_27 : decode cJ6_bitCount_0f7a4 27 = .ok (.iushr, 1) := by decide +kernel
theorem dJ6_bitCount_0f7a4_28 : decode cJ6_bitCount_0f7a4 28 = .ok (.iadd, 1) := by decide +kernel
theorem dJ6_bitCount_0f7a4_29 : decode cJ6_bitCount_0f7a4 29 = .ok (.ldc_w 267, 3) := by decide +kernel
theorem dJ6_bitCount_0f7a4_32 : decode cJ6_bitCount_0f7a4 32 = .ok (.iand, 1) := by decide +kernel
theorem dJ6_bitCount_0f7a4_33 : decode cJ6_bitCount_0f7a4 33 = .ok (.istore_n 0, 1) := by decide +kernel
theorem dJ6_bitCount_0f7a4_34 : decode cJ6_bitCount_0f7a4 34 = .ok (.iload_n 0, 1) := by decide +kernel
theorem dJ6_bitCount_0f7a4_35 : decode cJ6_bitCount_0f7a4 35 = .ok (.iload_n 0, 1) := by decide +kernel
theorem dJ6_bitCount_0f7a4_36 : decode cJ6_bitCount_0f7a4 36 = .ok (.bipush 8, 2) := by decide +kernel
theorem dJ6_bitCount_0f7a4_38 : decode cJ6_bitCount_0f7a4 38 = .ok (.iushr, 1) := by decide +kernel
theorem dJ6_bitCount_0f7a4_39 : decode cJ6_bitCount_0f7a4 39 = .ok (.iadd, 1) := by decide +kernel
theorem dJ6_bitCount_0f7a4_40 : decode cJ6_bitCount_0f7a4 40 = .ok (.istore_n 0, 1) := by decide +kernel
theorem dJ6_bitCount_0f7a4_41 : decode cJ6_bitCount_0f7a4 41 = .ok (.iload_n 0, 1) := by decide +kernel
theorem dJ6_bitCount_0f7a4_42 : decode cJ6_bitCount_0f7a4 42 = .ok (.iload_n 0, 1) := by decide +kernel
theorem dJ6_bitCount_0f7a4_43 : decode cJ6_bitCount_0f7a4 43 = .ok (.bipush 16, 2) := by decide +kernel
theorem dJ6_bitCount_0f7a4_45 : decode cJ6_bitCount_0f7a4 45 = .ok (.iushr, 1) := by decide +kernel
theorem dJ6_bitCount_0f7a4_46 : decode cJ6_bitCount_0f7a4 46 = .ok (.iadd, 1) := by decide +kernel
theorem dJ6_bitCount_0f7a4_47 : decode cJ6_bitCount_0f7a4 47 = .ok (.istore_n 0, 1) := by decide +kernel
theorem dJ6_bitCount_0f7a4_48 : decode cJ6_bitCount_0f7a4 48 = .ok (.iload_n 0, 1) := by decide +kernel
theorem dJ6_bitCount_0f7a4_49 : decode cJ6_bitCount_0f7a4 49 = .ok (.bipush 63, 2) := by decide +kernel
theorem dJ6_bitCount_0f7a4_51 : decode cJ6_bitCount_0f7a4 51 = .ok (.iand, 1) := by decide +kernel
theorem dJ6_bitCount_0f7a4_52 : decode cJ6_bitCount_0f7a4 52 = .ok (.ireturn, 1) := by decide +kernel
set_option maxHeartbeats 4000000 in
set_option maxRecDepth 100000 in
theorem c_J6_bitCount_0f7a4 {l : Launch} {g : GW} {S : Nat} (μ : Mm) (hS : S < 64) : Con l g yJ6_bitCount_0f7a4 cJ6_bitCount_0f7a4 1 (some .int) 0 [.int (nI S)] μ (fun r μ' => r = some (.int (nI (cntB S))) ∧ μ' = μ) := by
  refine Con.of [.int (nI S)] 0 (by decide +kernel) (Nat.le_of_ble_eq_true rfl) rfl ?_
  refine V_iload_n (pc := 0) dJ6_bitCount_0f7a4_0 rfl rfl ?_
  refine V_iload_n (pc := 1) dJ6_bitCount_0f7a4_1 rfl rfl ?_
  refine V_iconst (pc := 2) (v := 1) dJ6_bitCount_0f7a4_2 (by decide) ?_
  refine V_iushr (pc := 3) (v := 0) dJ6_bitCount_0f7a4_3 ?_
  refine V_ldcw (pc := 4) (v := 1431655765) ct_J6_265 dJ6_bitCount_0f7a4_4 ?_
  refine V_iand (pc := 7) dJ6_bitCount_0f7a4_7 ?_
  refine V_isub (pc := 8) dJ6_bitCount_0f7a4_8 ?_
  refine V_istore0 (pc := 9) dJ6_bitCount_0f7a4_9 (by decide) rfl ?_
  refine V_iload_n (pc := 10) dJ6_bitCount_0f7a4_10 rfl rfl ?_
  refine V_ldcw (pc := 11) (v := 858993459) ct_J6_266 dJ6_bitCount_0f7a4_11 ?_
  refine V_iand (pc := 14) dJ6_bitCount_0f7a4_14 ?_
  refine V_iload_n (pc := 15) dJ6_bitCount_0f7a4_15 rfl rfl ?_
  refine V_iconst (pc := 16) (v := 2) dJ6_bitCount_0f7a4_16 (by decide) ?_
  refine V_iushr (pc := 17) (v := 0) dJ6_bitCount_0f7a4_17 ?_
  refine V_ldcw (pc := 18) (v := 858993459) ct_J6_266 dJ6_bitCount_0f7a4_18 ?_
  refine V_iand (pc := 21) dJ6_bitCount_0f7a4_21 ?_
  refine V_iadd (pc := 22) dJ6_bitCount_0f7a4_22 ?_
  refine V_istore0 (pc := 23) dJ6_bitCount_0f7a4_23 (by decide) rfl ?_
  refine V_iload_n (pc := 24) dJ6_bitCount_0f7a4_24 rfl rfl ?_
  refine V_iload_n (pc := 25) dJ6_bitCount_0f7a4_25 rfl rfl ?_
  refine V_iconst (pc := 26) (v := 4) dJ6_bitCount_0f7a4_26 (by decide) ?_
  refine V_iushr (pc := 27) (v := 0) dJ6_bitCount_0f7a4_27 ?_
  refine V_iadd (pc := 28) dJ6_bitCount_0f7a4_28 ?_
  refine V_ldcw (pc := 29) (v := 252645135) ct_J6_267 dJ6_bitCount_0f7a4_29 ?_
  refine V_iand (pc := 32) dJ6_bitCount_0f7a4_32 ?_
  refine V_istore0 (pc := 33) dJ6_bitCount_0f7a4_33 (by decide) rfl ?_
  refine V_iload_n (pc := 34) dJ6_bitCount_0f7a4_34 rfl rfl ?_
  refine V_iload_n (pc := 35) dJ6_bitCount_0f7a4_35 rfl rfl ?_
  refine V_bipush (pc := 36) (v := 8) dJ6_bitCount_0f7a4_36 (by decide) ?_
  refine V_iushr (pc := 38) (v := 0) dJ6_bitCount_0f7a4_38 ?_
  refine V_iadd (pc := 39) dJ6_bitCount_0f7a4_39 ?_
  refine V_istore0 (pc := 40) dJ6_bitCount_0f7a4_40 (by decide) rfl ?_
  refine V_iload_n (pc := 41) dJ6_bitCount_0f7a4_41 rfl rfl ?_
  refine V_iload_n (pc := 42) dJ6_bitCount_0f7a4_42 rfl rfl ?_
  refine V_bipush (pc := 43) (v := 16) dJ6_bitCount_0f7a4_43 (by decide) ?_
  refine V_iushr (pc := 45) (v := 0) dJ6_bitCount_0f7a4_45 ?_
  refine V_iadd (pc := 46) dJ6_bitCount_0f7a4_46 ?_
  refine V_istore0 (pc := 47) dJ6_bitCount_0f7a4_47 (by decide) rfl ?_
  refine V_iload_n (pc := 48) dJ6_bitCount_0f7a4_48 rfl rfl ?_
  refine V_bipush (pc := 49) (v := 63) dJ6_bitCount_0f7a4_49 (by decide) ?_
  refine V_iand (pc := 51) dJ6_bitCount_0f7a4_51 ?_
  refine V_iret (pc := 52) dJ6_bitCount_0f7a4_52 rfl ?_
  refine ⟨congrArg (fun z => some (Value.int z)) ?_, rfl⟩
  revert hS
  revert S
  decide +kernel
theorem dX4_spentCount_0 : decode cX4_spentCount 0 = .ok (.aload_n 0, 1) := by decide +kernel
theorem dX4_spentCount_1 : decode cX4_spentCount 1 = .ok (.getfield 35, 3) := by decide +kernel
theorem dX4_spentCount_4 : decode cX4_spentCount 4 = .ok (.invokestatic 58, 3) := by decide +kernel
theorem dX4_spentCount_7 : decode cX4_spentCount 7 = .ok (.ireturn, 1) := by decide +kernel
set_option maxHeartbeats 4000000 in
set_option maxRecDepth 100000 in
theorem c_X4_spentCount {l : Launch} {g : GW} {s : Nat} {σ : SeaT} (μ : Mm) (hs : s = 4 ∨ s = 13 ∨ s = 22) (hS : SeaR μ s σ) : Con l g yX4_spentCount cX4_spentCount 1 (some .int) 1 [.ref s] μ (fun r μ' => r = some (.int (nI (cntB (sS σ)))) ∧ μ' = μ) := by
  obtain ⟨hs1, hs2, hs3, hs4, hs5, hs6, hrow⟩ := seaF hs
  obtain ⟨r1, r2, r3, r4, r5, r6, r7, r8, r9⟩ := hS
  refine Con.of [.ref s] 0 (by decide +kernel) (Nat.le_of_ble_eq_true rfl) rfl ?_
  refine V_aload_n (pc := 0) dX4_spentCount_0 rfl rfl ?_
  refine V_getI (pc := 1) (ci := 4) (j := 3) dX4_spentCount_1 fl_X4_35 (fun _ _ _ _ => rfl) (by first | decide | omega) (by first | rfl | assumption | decide) ?_
  rw [r3]
  refine V_ins1 (pc := 4) dX4_spentCount_4 ml_X4_58 (by first | decide | omega) (Nat.le_of_ble_eq_true rfl) (c_J6_bitCount_0f7a4 μ r4) ?_
  rintro _ μ2 ⟨rfl, hμ⟩
  obtain rfl := hμ.symm
  refine V_iret (pc := 7) dX4_spentCount_7 rfl ?_
  exact ⟨rfl, rfl⟩
theorem dX4_nextSeed_0 : decode cX4_nextSeed 0 = .ok (.ldc2_w 125, 3) := by decide +kernel
theorem dX4_nextSeed_3 : decode cX4_nextSeed 3 = .ok (.iload_n 0, 1) := by decide +kernel
theorem dX4_nextSeed_4 : decode cX4_nextSeed 4 = .ok (.i2l, 1) := by decide +kernel
theorem dX4_nextSeed_5 : decode cX4_nextSeed 5 = .ok (.lmul, 1) := by decide +kernel
theorem dX4_nextSeed_6 : decode cX4_nextSeed 6 = .ok (.ldc2_w 127, 3) := by decide +kernel
theorem dX4_nextSeed_9 : decode cX4_nextSeed 9 = .ok (.ladd, 1) := by decide +kernel
theorem dX4_nextSeed_10 : decode cX4_nextSeed 10 = .ok (.ldc2_w 129, 3) := by decide +kernel
theorem dX4_nextSeed_13 : decode cX4_nextSeed 13 = .ok (.land, 1) := by decide +kernel
theorem dX4_nextSeed_14 : decode cX4_nextSeed 14 = .ok (.l2i, 1) := by decide +kernel
theorem dX4_nextSeed_15 : decode cX4_nextSeed 15 = .ok (.ireturn, 1) := by decide +kernel
set_option maxHeartbeats 4000000 in
set_option maxRecDepth 100000 in
theorem c_X4_nextSeed {l : Launch} {g : GW} {s : Nat} (μ : Mm) (hs : s < 2 ^ 31) : Con l g yX4_nextSeed cX4_nextSeed 1 (some .int) 0 [.int (nI s)] μ (fun r μ' => r = some (.int (nI (nxS s))) ∧ μ' = μ) := by
  refine Con.of [.int (nI s)] 0 (by decide +kernel) (Nat.le_of_ble_eq_true rfl) rfl ?_
  refine V_ldc2 (pc := 0) (v := 1103515245) ct_X4_125 dX4_nextSeed_0 ?_
  refine V_iload_n (pc := 3) dX4_nextSeed_3 rfl rfl ?_
  refine V_i2l (pc := 4) dX4_nextSeed_4 ?_
  refine V_lmul (pc := 5) dX4_nextSeed_5 ?_
  refine V_ldc2 (pc := 6) (v := 12345) ct_X4_127 dX4_nextSeed_6 ?_
  refine V_ladd (pc := 9) dX4_nextSeed_9 ?_
  refine V_ldc2 (pc := 10) (v := 2147483647) ct_X4_129 dX4_nextSeed_10 ?_
  refine V_land (pc := 13) dX4_nextSeed_13 ?_
  refine V_l2i (pc := 14) dX4_nextSeed_14 ?_
  refine V_iret (pc := 15) dX4_nextSeed_15 rfl ?_
  exact ⟨congrArg (fun z => some (Value.int z)) (by rw [nI_l hs, nxS_eq hs, lN_i]), rfl⟩
theorem dX4_drawOf_0 : decode cX4_drawOf 0 = .ok (.iload_n 1, 1) := by decide +kernel
theorem dX4_drawOf_1 : decode cX4_drawOf 1 = .ok (.ifCond .le 12, 3) := by decide +kernel
theorem dX4_drawOf_4 : decode cX4_drawOf 4 = .ok (.iload_n 0, 1) := by decide +kernel
theorem dX4_drawOf_5 : decode cX4_drawOf 5 = .ok (.bipush 16, 2) := by decide +kernel
theorem dX4_drawOf_7 : decode cX4_drawOf 7 = .ok (.ishr, 1) := by decide +kernel
theorem dX4_drawOf_8 : decode cX4_drawOf 8 = .ok (.iload_n 1, 1) := by decide +kernel
theorem dX4_drawOf_9 : decode cX4_drawOf 9 = .ok (.irem, 1) := by decide +kernel
theorem dX4_drawOf_10 : decode cX4_drawOf 10 = .ok (.goto 4, 3) := by decide +kernel
theorem dX4_drawOf_14 : decode cX4_drawOf 14 = .ok (.ireturn, 1) := by decide +kernel
set_option maxHeartbeats 4000000 in
set_option maxRecDepth 100000 in
theorem c_X4_drawOf {l : Launch} {g : GW} {s o : Nat} (μ : Mm) (hs : s < 2 ^ 31) (ho : o < 2 ^ 31) (ho1 : 0 < o) : Con l g yX4_drawOf cX4_drawOf 2 (some .int) 0 [.int (nI s), .int (nI o)] μ (fun r μ' => r = some (.int (nI (s / 65536 % o))) ∧ μ' = μ) := by
  refine Con.of [.int (nI s), .int (nI o)] 0 (by decide +kernel) (Nat.le_of_ble_eq_true rfl) rfl ?_
  refine V_iload_n (pc := 0) dX4_drawOf_0 rfl rfl ?_
  refine V_ifle (pc := 1) (tgt := 13) dX4_drawOf_1 (by decide) (fun h1 => ?_) (fun h1 => ?_)
  · exact absurd ((nI_leI (a := o) (b := 0) ho (by decide)).mp h1) (by omega)
  refine V_iload_n (pc := 4) dX4_drawOf_4 rfl rfl ?_
  refine V_bipush (pc := 5) (v := 16) dX4_drawOf_5 (by decide) ?_
  refine V_ishr (pc := 7) dX4_drawOf_7 ?_
  refine V_iload_n (pc := 8) dX4_drawOf_8 rfl rfl ?_
  refine V_irem (pc := 9) dX4_drawOf_9 (fun q => absurd ((nI_eq (a := o) (b := 0) ho (by decide)).mp q) (by omega)) ?_
  refine V_goto (pc := 10) (tgt := 14) dX4_drawOf_10 (by decide) ?_
  refine V_iret (pc := 14) dX4_drawOf_14 rfl ?_
  exact ⟨congrArg (fun z => some (Value.int z)) (by rw [pk_shrN hs _ 16 (by decide)]; exact pk_rem (by have := Nat.div_le_self s (2 ^ 16); omega) ho1 ho), rfl⟩
theorem dX4_windDrawn_0 : decode cX4_windDrawn 0 = .ok (.iconst 0, 1) := by decide +kernel
theorem dX4_windDrawn_1 : decode cX4_windDrawn 1 = .ok (.istore_n 3, 1) := by decide +kernel
theorem dX4_windDrawn_2 : decode cX4_windDrawn 2 = .ok (.iconst 0, 1) := by decide +kernel
theorem dX4_windDrawn_3 : decode cX4_windDrawn 3 = .ok (.istore 4, 2) := by decide +kernel
theorem dX4_windDrawn_5 : decode cX4_windDrawn 5 = .ok (.iload 4, 2) := by decide +kernel
theorem dX4_windDrawn_7 : decode cX4_windDrawn 7 = .ok (.iconst 4, 1) := by decide +kernel
theorem dX4_windDrawn_8 : decode cX4_windDrawn 8 = .ok (.if_icmp .ge 29, 3) := by decide +kernel
theorem dX4_windDrawn_11 : decode cX4_windDrawn 11 = .ok (.iload_n 3, 1) := by decide +kernel
theorem dX4_windDrawn_12 : decode cX4_windDrawn 12 = .ok (.aload_n 0, 1) := by decide +kernel
theorem dX4_windDrawn_13 : decode cX4_windDrawn 13 = .ok (.getfield 121, 3) := by decide +kernel
theorem dX4_windDrawn_16 : decode cX4_windDrawn 16 = .ok (.iload 4, 2) := by decide +kernel
theorem dX4_windDrawn_18 : decode cX4_windDrawn 18 = .ok (.aaload, 1) := by decide +kernel
theorem dX4_windDrawn_19 : decode cX4_windDrawn 19 = .ok (.iload_n 1, 1) := by decide +kernel
theorem dX4_windDrawn_20 : decode cX4_windDrawn 20 = .ok (.iaload, 1) := by decide +kernel
theorem dX4_windDrawn_21 : decode cX4_windDrawn 21 = .ok (.iadd, 1) := by decide +kernel
theorem dX4_windDrawn_22 : decode cX4_windDrawn 22 = .ok (.istore_n 3, 1) := by decide +kernel
theorem dX4_windDrawn_23 : decode cX4_windDrawn 23 = .ok (.iload_n 3, 1) := by decide +kernel
theorem dX4_windDrawn_24 : decode cX4_windDrawn 24 = .ok (.iload_n 2, 1) := by decide +kernel
theorem dX4_windDrawn_25 : decode cX4_windDrawn 25 = .ok (.if_icmp .le 6, 3) := by decide +kernel
theorem dX4_windDrawn_28 : decode cX4_windDrawn 28 = .ok (.iload 4, 2) := by decide +kernel
theorem dX4_windDrawn_30 : decode cX4_windDrawn 30 = .ok (.ireturn, 1) := by decide +kernel
theorem dX4_windDrawn_31 : decode cX4_windDrawn 31 = .ok (.iinc 4 1, 3) := by decide +kernel
theorem dX4_windDrawn_34 : decode cX4_windDrawn 34 = .ok (.goto (-29), 3) := by decide +kernel
theorem dX4_windDrawn_37 : decode cX4_windDrawn 37 = .ok (.iconst 4, 1) := by decide +kernel
theorem dX4_windDrawn_38 : decode cX4_windDrawn 38 = .ok (.ireturn, 1) := by decide +kernel
set_option maxHeartbeats 4000000 in
set_option maxRecDepth 100000 in
theorem c_X4_windDrawn {l : Launch} {g : GW} {b s x : Nat} {tn : Nat → Nat → Nat} {ow : Nat → Nat} (μ : Mm) (hb : b = 49 ∨ b = 57) (hB : BkR μ b tn ow) (hs : s ≤ 2) (hx : x < 2 ^ 31) : Con l g yX4_windDrawn cX4_windDrawn 5 (some .int) 0 [.ref b, .int (nI s), .int (nI x)] μ (fun r μ' => r = some (.int (nI (widT tn s x))) ∧ μ' = μ) := by
  obtain ⟨hb1, hb2, hb3, hb4, hb5, hb6, hrow⟩ := bkF hb
  have hple : ∀ n, n ≤ 5 → pfT tn s n ≤ 10 * n := pfT_le (fun w hw => hB.le hw (by omega))
  refine Con.of [.ref b, .int (nI s), .int (nI x), .null, .null] 2 (by decide +kernel) (Nat.le_of_ble_eq_true rfl) rfl ?_
  refine V_iconst (pc := 0) (v := 0) dX4_windDrawn_0 (by decide) ?_
  refine V_istore3 (pc := 1) dX4_windDrawn_1 (by decide) rfl ?_
  refine V_iconst (pc := 2) (v := 0) dX4_windDrawn_2 (by decide) ?_
  refine V_istore4 (pc := 3) dX4_windDrawn_3 (by decide) rfl ?_
  have loop : ∀ (n i : Nat) (acc : Int32), i ≤ 4 → 4 < i + n → (acc = nI (pfT tn s i)) → (∀ j, 1 ≤ j → j ≤ i → ¬ x < pfT tn s j) → V l g RX4 cX4_windDrawn 5 (some .int) 0 5 [.ref b, .int (nI s), .int (nI x), .int acc, .int (nI i)] [] μ (fun r μ' => r = some (.int (nI (widT tn s x))) ∧ μ' = μ) := by
    intro n
    induction n with
    | zero => intro i acc h1 h2; exact absurd h2 (by omega)
    | succ n ih =>
      intro i acc hle hfu hacc hno
      refine V_iload (pc := 5) dX4_windDrawn_5 rfl ?_
      refine V_iconst (pc := 7) (v := 4) dX4_windDrawn_7 (by decide) ?_
      refine V_icmpge (pc := 8) (tgt := 37) dX4_windDrawn_8 (by decide) (fun h8 => ?_) (fun h8 => ?_)
      · have h8 := (nI_leI (a := 4) (b := i) (by decide) (by omega)).mp h8; obtain rfl : i = 4 := by omega
        refine V_iconst (pc := 37) (v := 4) dX4_windDrawn_37 (by decide) ?_
        refine V_iret (pc := 38) dX4_windDrawn_38 rfl ?_
        exact ⟨by rw [widT_no hno]; rfl, rfl⟩
      have hlt : i < 4 := nI_l3 (a := 4) (by decide) (by omega) h8
      refine V_iload_n (pc := 11) dX4_windDrawn_11 rfl rfl ?_
      refine V_aload_n (pc := 12) dX4_windDrawn_12 rfl rfl ?_
      refine V_getR (pc := 13) (ci := 0) (j := 0) (k2 := (b + 1)) dX4_windDrawn_13 fl_X4_121 (fun _ _ _ _ => rfl) (by first | decide | omega) (by first | rfl | assumption | exact (hrow _ (by omega)).2.1 | decide) (rf_0_0 (by first | rfl | assumption | exact (hrow _ (by omega)).2.1 | decide)) ?_
      refine V_iload (pc := 16) dX4_windDrawn_16 rfl ?_
      refine V_aald15 (pc := 18) (j := i) dX4_windDrawn_18 (by first | decide | omega) (by first | rfl | assumption | exact (hrow _ (by omega)).2.1 | decide) rfl (by omega) ?_
      refine V_iload_n (pc := 19) dX4_windDrawn_19 rfl rfl ?_
      refine V_iald (pc := 20) (j := s) dX4_windDrawn_20 (by first | decide | omega) (by first | rfl | assumption | exact (hrow _ (by omega)).2.1 | decide) rfl (by have := (hrow i (by omega)).2.2; omega) ?_
      refine V_iadd (pc := 21) dX4_windDrawn_21 ?_
      rw [hacc, hB.1 i s (by omega) (by omega), nI_add, show pfT tn s i + tn i s = pfT tn s (i + 1) from rfl]
      have hpl := hple (i + 1) (by omega)
      refine V_istore3 (pc := 22) dX4_windDrawn_22 (by decide) rfl ?_
      refine V_iload_n (pc := 23) dX4_windDrawn_23 rfl rfl ?_
      refine V_iload_n (pc := 24) dX4_windDrawn_24 rfl rfl ?_
      refine V_icmple (pc := 25) (tgt := 31) dX4_windDrawn_25 (by decide) (fun h25 => ?_) (fun h25 => ?_)
      · have h25 := (nI_leI (a := pfT tn s (i + 1)) (b := x) (by omega) hx).mp h25
        refine V_iinc4 (pc := 31) (v := nI (i + 1)) dX4_windDrawn_31 (nI_1 i) (by decide) rfl ?_
        refine V_goto (pc := 34) (tgt := 5) dX4_windDrawn_34 (by decide) ?_
        refine ih (i + 1) _ (by omega) (by omega) rfl (fun j h1 h2 => ?_)
        by_cases e : j = i + 1
        · rw [e]; omega
        · exact hno j h1 (by omega)
      have h25 := mt (nI_leI (a := pfT tn s (i + 1)) (b := x) (by omega) hx).mpr h25
      refine V_iload (pc := 28) dX4_windDrawn_28 rfl ?_
      refine V_iret (pc := 30) dX4_windDrawn_30 rfl ?_
      exact ⟨by rw [widT_at hlt hno (by omega)], rfl⟩
  exact loop (4 + 1) 0 _ (by omega) (by omega) rfl (fun j h1 h2 => absurd h1 (by omega))
theorem dX7_greatestShared_0 : decode cX7_greatestShared 0 = .ok (.iload_n 0, 1) := by decide +kernel
theorem dX7_greatestShared_1 : decode cX7_greatestShared 1 = .ok (.istore_n 2, 1) := by decide +kernel
theorem dX7_greatestShared_2 : decode cX7_greatestShared 2 = .ok (.iload_n 1, 1) := by decide +kernel
theorem dX7_greatestShared_3 : decode cX7_greatestShared 3 = .ok (.istore_n 3, 1) := by decide +kernel
theorem dX7_greatestShared_4 : decode cX7_greatestShared 4 = .ok (.iconst 0, 1) := by decide +kernel
theorem dX7_greatestShared_5 : decode cX7_greatestShared 5 = .ok (.istore 4, 2) := by decide +kernel
theorem dX7_greatestShared_7 : decode cX7_greatestShared 7 = .ok (.iload 4, 2) := by decide +kernel
theorem dX7_greatestShared_9 : decode cX7_greatestShared 9 = .ok (.bipush 64, 2) := by decide +kernel
theorem dX7_greatestShared_11 : decode cX7_greatestShared 11 = .ok (.if_icmp .ge 23, 3) := by decide +kernel
theorem dX7_greatestShared_14 : decode cX7_greatestShared 14 = .ok (.iload_n 3, 1) := by decide +kernel
theorem dX7_greatestShared_15 : decode cX7_greatestShared 15 = .ok (.ifCond .eq 19, 3) := by decide +kernel
theorem dX7_greatestShared_18 : decode cX7_greatestShared 18 = .ok (.iload_n 2, 1) := by decide +kernel
theorem dX7_greatestShared_19 : decode cX7_greatestShared 19 = .ok (.iload_n 3, 1) := by decide +kernel
theorem dX7_greatestShared_20 : decode cX7_greatestShared 20 = .ok (.irem, 1) := by decide +kernel
theorem dX7_greatestShared_21 : decode cX7_greatestShared 21 = .ok (.istore 5, 2) := by decide +kernel
theorem dX7_greatestShared_23 : decode cX7_greatestShared 23 = .ok (.iload_n 3, 1) := by decide +kernel
theorem dX7_greatestShared_24 : decode cX7_greatestShared 24 = .ok (.istore_n 2, 1) := by decide +kernel
theorem dX7_greatestShared_25 : decode cX7_greatestShared 25 = .ok (.iload 5, 2) := by decide +kernel
theorem dX7_greatestShared_27 : decode cX7_greatestShared 27 = .ok (.istore_n 3, 1) := by decide +kernel
theorem dX7_greatestShared_28 : decode cX7_greatestShared 28 = .ok (.iinc 4 1, 3) := by decide +kernel
theorem dX7_greatestShared_31 : decode cX7_greatestShared 31 = .ok (.goto (-24), 3) := by decide +kernel
theorem dX7_greatestShared_34 : decode cX7_greatestShared 34 = .ok (.iload_n 2, 1) := by decide +kernel
theorem dX7_greatestShared_35 : decode cX7_greatestShared 35 = .ok (.ireturn, 1) := by decide +kernel
set_option maxHeartbeats 4000000 in
set_option maxRecDepth 100000 in
theorem c_X7_greatestShared {l : Launch} {g : GW} {a0 b0 : Nat} (μ : Mm) (ha0 : a0 < 2 ^ 31) (hb0 : b0 < 2 ^ 31) : Con l g yX7_greatestShared cX7_greatestShared 6 (some .int) 0 [.int (nI a0), .int (nI b0)] μ (fun r μ' => r = some (.int (nI (Nat.gcd a0 b0))) ∧ μ' = μ) := by
  refine Con.of [.int (nI a0), .int (nI b0), .null, .null, .null, .null] 4 (by decide +kernel) (Nat.le_of_ble_eq_true rfl) rfl ?_
  refine V_iload_n (pc := 0) dX7_greatestShared_0 rfl rfl ?_
  refine V_istore2 (pc := 1) dX7_greatestShared_1 (by decide) rfl ?_
  refine V_iload_n (pc := 2) dX7_greatestShared_2 rfl rfl ?_
  refine V_istore3 (pc := 3) dX7_greatestShared_3 (by decide) rfl ?_
  refine V_iconst (pc := 4) (v := 0) dX7_greatestShared_4 (by decide) ?_
  refine V_istore4 (pc := 5) dX7_greatestShared_5 (by decide) rfl ?_
  have loop : ∀ (n i : Nat) (a b : Nat) (y5 : Value), i ≤ 64 → 64 < i + n → (gcI a b i) → (Nat.gcd a b = Nat.gcd a0 b0) → V l g RX7 cX7_greatestShared 6 (some .int) 0 7 [.int (nI a0), .int (nI b0), .int (nI a), .int (nI b), .int (nI i), y5] [] μ (fun r μ' => r = some (.int (nI (Nat.gcd a0 b0))) ∧ μ' = μ) := by
    intro n
    induction n with
    | zero => intro i a b y5 h1 h2; exact absurd h2 (by omega)
    | succ n ih =>
      intro i a b y5 hle hfu hI hg
      refine V_iload (pc := 7) dX7_greatestShared_7 rfl ?_
      refine V_bipush (pc := 9) (v := 64) dX7_greatestShared_9 (by decide) ?_
      refine V_icmpge (pc := 11) (tgt := 34) dX7_greatestShared_11 (by decide) (fun h11 => ?_) (fun h11 => ?_)
      · have h11 := (nI_leI (a := 64) (b := i) (by decide) (by omega)).mp h11; have hb9 : b = 0 := gcI_end ((show i = 64 by omega) ▸ hI)
        refine V_iload_n (pc := 34) dX7_greatestShared_34 rfl rfl ?_
        refine V_iret (pc := 35) dX7_greatestShared_35 rfl ?_
        exact ⟨by rw [← hg, hb9, Nat.gcd_zero_right], rfl⟩
      have hlt : i < 64 := nI_l3 (a := 64) (by decide) (by omega) h11
      refine V_iload_n (pc := 14) dX7_greatestShared_14 rfl rfl ?_
      refine V_ifeq (pc := 15) (tgt := 34) dX7_greatestShared_15 (by decide) (fun h15 => ?_) (fun h15 => ?_)
      · have hb9 : b = 0 := (nI_eq (a := b) (b := 0) hI.2.1 (by decide)).mp h15
        refine V_iload_n (pc := 34) dX7_greatestShared_34 rfl rfl ?_
        refine V_iret (pc := 35) dX7_greatestShared_35 rfl ?_
        exact ⟨by rw [← hg, hb9, Nat.gcd_zero_right], rfl⟩
      have hb9 : b ≠ 0 := mt (nI_eq (a := b) (b := 0) hI.2.1 (by decide)).mpr h15
      refine V_iload_n (pc := 18) dX7_greatestShared_18 rfl rfl ?_
      refine V_iload_n (pc := 19) dX7_greatestShared_19 rfl rfl ?_
      refine V_irem (pc := 20) dX7_greatestShared_20 (mt (nI_eq (a := b) (b := 0) hI.2.1 (by decide)).mp hb9) ?_
      rw [pk_rem hI.1 (by omega) hI.2.1]
      refine V_istore5 (pc := 21) dX7_greatestShared_21 (by decide) rfl ?_
      refine V_iload_n (pc := 23) dX7_greatestShared_23 rfl rfl ?_
      refine V_istore2 (pc := 24) dX7_greatestShared_24 (by decide) rfl ?_
      refine V_iload (pc := 25) dX7_greatestShared_25 rfl ?_
      refine V_istore3 (pc := 27) dX7_greatestShared_27 (by decide) rfl ?_
      refine V_iinc4 (pc := 28) (v := nI (i + 1)) dX7_greatestShared_28 (nI_1 i) (by decide) rfl ?_
      refine V_goto (pc := 31) (tgt := 7) dX7_greatestShared_31 (by decide) ?_
      exact ih (i + 1) b (a % b) _ (by omega) (by omega) (gcI_step hI hb9) (by rw [← gcd_step hb9]; exact hg)
  exact loop (64 + 1) 0 _ _ _ (by omega) (by omega) ⟨ha0, hb0, Or.inl rfl⟩ rfl
theorem dX7_inLowestTerms_0 : decode cX7_inLowestTerms 0 = .ok (.iload_n 0, 1) := by decide +kernel
theorem dX7_inLowestTerms_1 : decode cX7_inLowestTerms 1 = .ok (.iload_n 1, 1) := by decide +kernel
theorem dX7_inLowestTerms_2 : decode cX7_inLowestTerms 2 = .ok (.invokestatic 311, 3) := by decide +kernel
theorem dX7_inLowestTerms_5 : decode cX7_inLowestTerms 5 = .ok (.istore_n 3, 1) := by decide +kernel
theorem dX7_inLowestTerms_6 : decode cX7_inLowestTerms 6 = .ok (.iload_n 2, 1) := by decide +kernel
theorem dX7_inLowestTerms_7 : decode cX7_inLowestTerms 7 = .ok (.ifCond .ne 7, 3) := by decide +kernel
theorem dX7_inLowestTerms_10 : decode cX7_inLowestTerms 10 = .ok (.iload_n 0, 1) := by decide +kernel
theorem dX7_inLowestTerms_11 : decode cX7_inLowestTerms 11 = .ok (.goto 4, 3) := by decide +kernel
theorem dX7_inLowestTerms_14 : decode cX7_inLowestTerms 14 = .ok (.iload_n 1, 1) := by decide +kernel
theorem dX7_inLowestTerms_15 : decode cX7_inLowestTerms 15 = .ok (.istore 4, 2) := by decide +kernel
theorem dX7_inLowestTerms_17 : decode cX7_inLowestTerms 17 = .ok (.iload_n 3, 1) := by decide +kernel
theorem dX7_inLowestTerms_18 : decode cX7_inLowestTerms 18 = .ok (.ifCond .le 11, 3) := by decide +kernel
theorem dX7_inLowestTerms_21 : decode cX7_inLowestTerms 21 = .ok (.iload 4, 2) := by decide +kernel
theorem dX7_inLowestTerms_23 : decode cX7_inLowestTerms 23 = .ok (.iload_n 3, 1) := by decide +kernel
theorem dX7_inLowestTerms_24 : decode cX7_inLowestTerms 24 = .ok (.idiv, 1) := by decide +kernel
theorem dX7_inLowestTerms_25 : decode cX7_inLowestTerms 25 = .ok (.i2l, 1) := by decide +kernel
theorem dX7_inLowestTerms_26 : decode cX7_inLowestTerms 26 = .ok (.goto 6, 3) := by decide +kernel
theorem dX7_inLowestTerms_32 : decode cX7_inLowestTerms 32 = .ok (.lreturn, 1) := by decide +kernel
set_option maxHeartbeats 4000000 in
set_option maxRecDepth 100000 in
theorem c_X7_inLowestTerms {l : Launch} {g : GW} {a b q : Nat} (μ : Mm) (ha : a < 2 ^ 31) (hb : b < 2 ^ 31) (hb1 : 0 < b) (hq : q ≤ 1) : Con l g yX7_inLowestTerms cX7_inLowestTerms 5 (some .long) 1 [.int (nI a), .int (nI b), .int (nI q)] μ (fun r μ' => r = some (.long (lN ((if q = 0 then a else b) / Nat.gcd a b))) ∧ μ' = μ) := by
  have hg : 0 < Nat.gcd a b := Nat.gcd_pos_of_pos_right _ hb1
  have hg2 : Nat.gcd a b ≤ b := Nat.gcd_le_right _ hb1
  refine Con.of [.int (nI a), .int (nI b), .int (nI q), .null, .null] 2 (by decide +kernel) (Nat.le_of_ble_eq_true rfl) rfl ?_
  refine V_iload_n (pc := 0) dX7_inLowestTerms_0 rfl rfl ?_
  refine V_iload_n (pc := 1) dX7_inLowestTerms_1 rfl rfl ?_
  refine V_ins2 (pc := 2) dX7_inLowestTerms_2 ml_X7_311 (by first | decide | omega) (Nat.le_of_ble_eq_true rfl) (c_X7_greatestShared μ ha hb) ?_
  rintro _ μ2 ⟨rfl, hμ⟩
  obtain rfl := hμ.symm
  refine V_istore3 (pc := 5) dX7_inLowestTerms_5 (by decide) rfl ?_
  refine V_iload_n (pc := 6) dX7_inLowestTerms_6 rfl rfl ?_
  refine V_ifne (pc := 7) (tgt := 14) dX7_inLowestTerms_7 (by decide) (fun h7 => ?_) (fun h7 => ?_)
  · have h7 := mt (nI_eq (a := q) (b := 0) (by omega) (by omega)).mpr h7
    refine V_iload_n (pc := 14) dX7_inLowestTerms_14 rfl rfl ?_
    refine V_istore4 (pc := 15) dX7_inLowestTerms_15 (by decide) rfl ?_
    refine V_iload_n (pc := 17) dX7_inLowestTerms_17 rfl rfl ?_
    refine V_ifle (pc := 18) (tgt := 29) dX7_inLowestTerms_18 (by decide) (fun h18 => ?_) (fun h18 => ?_)
    · exact absurd ((nI_leI (a := Nat.gcd a b) (b := 0) (by omega) (by decide)).mp h18) (by omega)
    refine V_iload (pc := 21) dX7_inLowestTerms_21 rfl ?_
    refine V_iload_n (pc := 23) dX7_inLowestTerms_23 rfl rfl ?_
    refine V_idiv (pc := 24) dX7_inLowestTerms_24 (fun z => absurd ((nI_eq (a := Nat.gcd a b) (b := 0) (by omega) (by decide)).mp z) (by omega)) ?_
    refine V_i2l (pc := 25) dX7_inLowestTerms_25 ?_
    refine V_goto (pc := 26) (tgt := 32) dX7_inLowestTerms_26 (by decide) ?_
    refine V_lret (pc := 32) dX7_inLowestTerms_32 rfl ?_
    exact ⟨congrArg (fun z => some (Value.long z)) (by first | (rw [if_neg h7, pk_div hb hg (by omega)]; exact nI_l (by have := Nat.div_le_self b (Nat.gcd a b); omega)) | (rw [if_pos h7, pk_div ha hg (by omega)]; exact nI_l (by have := Nat.div_le_self a (Nat.gcd a b); omega))), rfl⟩
  have h7 := (nI_eq (a := q) (b := 0) (by omega) (by omega)).mp h7
  refine V_iload_n (pc := 10) dX7_inLowestTerms_10 rfl rfl ?_
  refine V_goto (pc := 11) (tgt := 15) dX7_inLowestTerms_11 (by decide) ?_
  refine V_istore4 (pc := 15) dX7_inLowestTerms_15 (by decide) rfl ?_
  refine V_iload_n (pc := 17) dX7_inLowestTerms_17 rfl rfl ?_
  refine V_ifle (pc := 18) (tgt := 29) dX7_inLowestTerms_18 (by decide) (fun h18 => ?_) (fun h18 => ?_)
  · exact absurd ((nI_leI (a := Nat.gcd a b) (b := 0) (by omega) (by decide)).mp h18) (by omega)
  refine V_iload (pc := 21) dX7_inLowestTerms_21 rfl ?_
  refine V_iload_n (pc := 23) dX7_inLowestTerms_23 rfl rfl ?_
  refine V_idiv (pc := 24) dX7_inLowestTerms_24 (fun z => absurd ((nI_eq (a := Nat.gcd a b) (b := 0) (by omega) (by decide)).mp z) (by omega)) ?_
  refine V_i2l (pc := 25) dX7_inLowestTerms_25 ?_
  refine V_goto (pc := 26) (tgt := 32) dX7_inLowestTerms_26 (by decide) ?_
  refine V_lret (pc := 32) dX7_inLowestTerms_32 rfl ?_
  exact ⟨congrArg (fun z => some (Value.long z)) (by first | (rw [if_neg h7, pk_div hb hg (by omega)]; exact nI_l (by have := Nat.div_le_self b (Nat.gcd a b); omega)) | (rw [if_pos h7, pk_div ha hg (by omega)]; exact nI_l (by have := Nat.div_le_self a (Nat.gcd a b); omega))), rfl⟩
theorem dX7_raceChances_0 : decode cX7_raceChances 0 = .ok (.iload_n 3, 1) := by decide +kernel
theorem dX7_raceChances_1 : decode cX7_raceChances 1 = .ok (.bipush 9, 2) := by decide +kernel
theorem dX7_raceChances_3 : decode cX7_raceChances 3 = .ok (.if_icmp .ne 5, 3) := by decide +kernel
theorem dX7_raceChances_6 : decode cX7_raceChances 6 = .ok (.iconst 0, 1) := by decide +kernel
theorem dX7_raceChances_7 : decode cX7_raceChances 7 = .ok (.ireturn, 1) := by decide +kernel
theorem dX7_raceChances_8 : decode cX7_raceChances 8 = .ok (.iload_n 2, 1) := by decide +kernel
theorem dX7_raceChances_9 : decode cX7_raceChances 9 = .ok (.bipush 9, 2) := by decide +kernel
theorem dX7_raceChances_11 : decode cX7_raceChances 11 = .ok (.if_icmp .ne 9, 3) := by decide +kernel
theorem dX7_raceChances_14 : decode cX7_raceChances 14 = .ok (.getstatic 185, 3) := by decide +kernel
theorem dX7_raceChances_17 : decode cX7_raceChances 17 = .ok (.iload_n 1, 1) := by decide +kernel
theorem dX7_raceChances_18 : decode cX7_raceChances 18 = .ok (.iaload, 1) := by decide +kernel
theorem dX7_raceChances_19 : decode cX7_raceChances 19 = .ok (.ireturn, 1) := by decide +kernel
theorem dX7_raceChances_20 : decode cX7_raceChances 20 = .ok (.iload_n 1, 1) := by decide +kernel
theorem dX7_raceChances_21 : decode cX7_raceChances 21 = .ok (.ifCond .gt 5, 3) := by decide +kernel
theorem dX7_raceChances_26 : decode cX7_raceChances 26 = .ok (.iconst 0, 1) := by decide +kernel
theorem dX7_raceChances_27 : decode cX7_raceChances 27 = .ok (.istore 4, 2) := by decide +kernel
theorem dX7_raceChances_29 : decode cX7_raceChances 29 = .ok (.iconst 0, 1) := by decide +kernel
theorem dX7_raceChances_30 : decode cX7_raceChances 30 = .ok (.istore 5, 2) := by decide +kernel
theorem dX7_raceChances_32 : decode cX7_raceChances 32 = .ok (.iload 5, 2) := by decide +kernel
theorem dX7_raceChances_34 : decode cX7_raceChances 34 = .ok (.iconst 4, 1) := by decide +kernel
theorem dX7_raceChances_35 : decode cX7_raceChances 35 = .ok (.if_icmp .gt 63, 3) := by decide +kernel
theorem dX7_raceChances_38 : decode cX7_raceChances 38 = .ok (.aload_n 0, 1) := by decide +kernel
theorem dX7_raceChances_39 : decode cX7_raceChances 39 = .ok (.iload 5, 2) := by decide +kernel
theorem dX7_raceChances_41 : decode cX7_raceChances 41 = .ok (.invokevirtual 304, 3) := by decide +kernel
theorem dX7_raceChances_44 : decode cX7_raceChances 44 = .ok (.istore 6, 2) := by decide +kernel
theorem dX7_raceChances_46 : decode cX7_raceChances 46 = .ok (.iload 6, 2) := by decide +kernel
theorem dX7_raceChances_48 : decode cX7_raceChances 48 = .ok (.ifCond .le 44, 3) := by decide +kernel
theorem dX7_raceChances_51 : decode cX7_raceChances 51 = .ok (.aload_n 0, 1) := by decide +kernel
theorem dX7_raceChances_52 : decode cX7_raceChances 52 = .ok (.iconst 0, 1) := by decide +kernel
theorem dX7_raceChances_53 : decode cX7_raceChances 53 = .ok (.iload_n 2, 1) := by decide +kernel
theorem dX7_raceChances_54 : decode cX7_raceChances 54 = .ok (.iconst (-1), 1) := by decide +kernel
theorem dX7_raceChances_55 : decode cX7_raceChances 55 = .ok (.iload 5, 2) := by decide +kernel
theorem dX7_raceChances_57 : decode cX7_raceChances 57 = .ok (.invokestatic 307, 3) := by decide +kernel
theorem dX7_raceChances_60 : decode cX7_raceChances 60 = .ok (.istore 7, 2) := by decide +kernel
theorem dX7_raceChances_62 : decode cX7_raceChances 62 = .ok (.aload_n 0, 1) := by decide +kernel
theorem dX7_raceChances_63 : decode cX7_raceChances 63 = .ok (.iconst 0, 1) := by decide +kernel
theorem dX7_raceChances_64 : decode cX7_raceChances 64 = .ok (.iload_n 3, 1) := by decide +kernel
theorem dX7_raceChances_65 : decode cX7_raceChances 65 = .ok (.iconst (-1), 1) := by decide +kernel
theorem dX7_raceChances_66 : decode cX7_raceChances 66 = .ok (.iload 5, 2) := by decide +kernel
theorem dX7_raceChances_68 : decode cX7_raceChances 68 = .ok (.invokestatic 307, 3) := by decide +kernel
theorem dX7_raceChances_71 : decode cX7_raceChances 71 = .ok (.istore 8, 2) := by decide +kernel
theorem dX7_raceChances_73 : decode cX7_raceChances 73 = .ok (.iload 4, 2) := by decide +kernel
theorem dX7_raceChances_75 : decode cX7_raceChances 75 = .ok (.iload 6, 2) := by decide +kernel
theorem dX7_raceChances_77 : decode cX7_raceChances 77 = .ok (.aload_n 0, 1) := by decide +kernel
theorem dX7_raceChances_78 : decode cX7_raceChances 78 = .ok (.iload_n 1, 1) := by decide +kernel
theorem dX7_raceChances_79 : decode cX7_raceChances 79 = .ok (.iconst 1, 1) := by decide +kernel
theorem dX7_raceChances_80 : decode cX7_raceChances 80 = .ok (.isub, 1) := by decide +kernel
theorem dX7_raceChances_81 : decode cX7_raceChances 81 = .ok (.iload 7, 2) := by decide +kernel
theorem dX7_raceChances_83 : decode cX7_raceChances 83 = .ok (.iload 8, 2) := by decide +kernel
theorem dX7_raceChances_85 : decode cX7_raceChances 85 = .ok (.invokestatic 199, 3) := by decide +kernel
theorem dX7_raceChances_88 : decode cX7_raceChances 88 = .ok (.imul, 1) := by decide +kernel
theorem dX7_raceChances_89 : decode cX7_raceChances 89 = .ok (.iadd, 1) := by decide +kernel
theorem dX7_raceChances_90 : decode cX7_raceChances 90 = .ok (.istore 4, 2) := by decide +kernel
theorem dX7_raceChances_92 : decode cX7_raceChances 92 = .ok (.iinc 5 1, 3) := by decide +kernel
theorem dX7_raceChances_95 : decode cX7_raceChances 95 = .ok (.goto (-63), 3) := by decide +kernel
theorem dX7_raceChances_98 : decode cX7_raceChances 98 = .ok (.iload 4, 2) := by decide +kernel
theorem dX7_raceChances_100 : decode cX7_raceChances 100 = .ok (.ireturn, 1) := by decide +kernel
set_option maxHeartbeats 4000000 in
set_option maxRecDepth 100000 in
theorem c_X7_raceS {l : Launch} {g : GW} {z d a b : Nat} {tn : Nat → Nat → Nat} {ow : Nat → Nat} (μ : Mm) (hz : z = 49 ∨ z = 57) (hd : d + 1 ≤ 6) (hB : BkR μ z tn ow) (ha : a ≤ 9) (hb9 : b ≤ 9) (hrc : ∀ a b, a ≤ 9 → b ≤ 9 → Con l g yX7_raceChances cX7_raceChances 9 (some .int) (d + 2) [.ref z, .int (nI d), .int (nI a), .int (nI b)] μ (fun r μ' => r = some (.int (nI (raT tn ow (d) a b))) ∧ μ' = μ)) : Con l g yX7_raceChances cX7_raceChances 9 (some .int) (d + 3) [.ref z, .int (nI (d + 1)), .int (nI a), .int (nI b)] μ (fun r μ' => r = some (.int (nI (raT tn ow (d + 1) a b))) ∧ μ' = μ) := by
  have hT : TnOK tn := hB.2.2.2
  obtain ⟨hb1, hb2, hb3, hb4, hb5, hb6, hrow⟩ := bkF hz
  have hcl := fun a b => Nat.le_trans (raT_le (ow := ow) hT d a b) (p30_6 (d := d) (by omega))
  refine Con.of [.ref z, .int (nI (d + 1)), .int (nI a), .int (nI b), .null, .null, .null, .null, .null] 5 (by decide +kernel) (Nat.le_of_ble_eq_true rfl) rfl ?_
  refine V_iload_n (pc := 0) dX7_raceChances_0 rfl rfl ?_
  refine V_bipush (pc := 1) (v := 9) dX7_raceChances_1 (by decide) ?_
  refine V_icmpne (pc := 3) (tgt := 8) dX7_raceChances_3 (by decide) (fun h3 => ?_) (fun h3 => ?_)
  · have h3 := mt (nI_eq (a := b) (b := 9) (by omega) (by omega)).mpr h3
    refine V_iload_n (pc := 8) dX7_raceChances_8 rfl rfl ?_
    refine V_bipush (pc := 9) (v := 9) dX7_raceChances_9 (by decide) ?_
    refine V_icmpne (pc := 11) (tgt := 20) dX7_raceChances_11 (by decide) (fun h11 => ?_) (fun h11 => ?_)
    · have h11 := mt (nI_eq (a := a) (b := 9) (by omega) (by omega)).mpr h11
      refine V_iload_n (pc := 20) dX7_raceChances_20 rfl rfl ?_
      refine V_ifgt (pc := 21) (tgt := 26) dX7_raceChances_21 (by decide) (fun h21 => ?_) (fun h21 => ?_)
      · refine V_iconst (pc := 26) (v := 0) dX7_raceChances_26 (by decide) ?_
        refine V_istore4 (pc := 27) dX7_raceChances_27 (by decide) rfl ?_
        refine V_iconst (pc := 29) (v := 0) dX7_raceChances_29 (by decide) ?_
        refine V_istore5 (pc := 30) dX7_raceChances_30 (by decide) rfl ?_
        have loopA : ∀ (nA i : Nat) (acc : Int32) (y6 y7 y8 : Value), i ≤ 5 → 5 < i + nA → (acc = nI (raS tn ow (raT tn ow d) a b i)) → (okp [Value.null, y6] 2 = true) → (okp [Value.null, y7] 2 = true) → V l g RX7 cX7_raceChances 9 (some .int) (d + 3) 32 [.ref z, .int (nI (d + 1)), .int (nI a), .int (nI b), .int acc, .int (nI i), y6, y7, y8] [] μ (fun r μ' => r = some (.int (nI (raT tn ow (d + 1) a b))) ∧ μ' = μ) := by
          intro nA
          induction nA with
          | zero => intro i acc y6 y7 y8 h1 h2; exact absurd h2 (by omega)
          | succ nA ihA =>
            intro i acc y6 y7 y8 hleA hfuA hacc ok6 ok7
            refine V_iload (pc := 32) dX7_raceChances_32 rfl ?_
            refine V_iconst (pc := 34) (v := 4) dX7_raceChances_34 (by decide) ?_
            refine V_icmpgt (pc := 35) (tgt := 98) dX7_raceChances_35 (by decide) (fun h35 => ?_) (fun h35 => ?_)
            · have h35 := (nI_ltI (a := 4) (b := i) (by decide) (by omega)).mp h35; obtain rfl : i = 5 := by omega
              refine V_iload (pc := 98) dX7_raceChances_98 rfl ?_
              refine V_iret (pc := 100) dX7_raceChances_100 rfl ?_
              exact ⟨by rw [hacc]; simp only [raT]; rw [if_neg h3, if_neg h11], rfl⟩
            have hlt : i < 5 := by have := mt (nI_ltI (a := 4) (b := i) (by decide) (by omega)).mpr h35; omega
            refine V_aload_n (pc := 38) dX7_raceChances_38 rfl rfl ?_
            refine V_iload (pc := 39) dX7_raceChances_39 rfl ?_
            refine V_inv1 (pc := 41) (ci := 0) dX7_raceChances_41 ml_X7_304 (by first | decide | omega) (by first | rfl | assumption | decide) ⟨by decide, rfl⟩ (by omega) (Nat.le_of_ble_eq_true rfl) (c_X0_strengthInAll μ hz hB (show i ≤ 4 by omega)) ?_
            rintro _ μ2 ⟨rfl, hμ⟩
            obtain rfl := hμ.symm
            have hsl := sumT_le (tn := tn) (w := i) (fun s hs => hB.le (by omega) hs) 3 (by omega)
            refine V_istore6 (pc := 44) dX7_raceChances_44 (by decide) rfl ?_
            refine V_iload (pc := 46) dX7_raceChances_46 rfl ?_
            refine V_ifle (pc := 48) (tgt := 92) dX7_raceChances_48 (by decide) (fun h48 => ?_) (fun h48 => ?_)
            · have h48 := (nI_leI (a := sumT tn i 3) (b := 0) (by omega) (by decide)).mp h48; have e0 : sumT tn i 3 = 0 := by omega
              refine V_iinc5 (pc := 92) (v := nI (i + 1)) dX7_raceChances_92 (nI_1 i) (by decide) rfl ?_
              refine V_goto (pc := 95) (tgt := 32) dX7_raceChances_95 (by decide) ?_
              first | exact ihA (i + 1) _ _ _ _ (by omega) (by omega) (by rw [hacc]; simp only [raS]; rw [e0, Nat.zero_mul, Nat.add_zero]) rfl ok7 | exact ihA (i + 1) _ _ _ _ (by omega) (by omega) rfl rfl rfl
            refine V_aload_n (pc := 51) dX7_raceChances_51 rfl rfl ?_
            refine V_iconst (pc := 52) (v := 0) dX7_raceChances_52 (by decide) ?_
            refine V_iload_n (pc := 53) dX7_raceChances_53 rfl rfl ?_
            refine V_iconst (pc := 54) (v := (-1)) dX7_raceChances_54 (by decide) ?_
            refine V_iload (pc := 55) dX7_raceChances_55 rfl ?_
            refine V_ins5 (pc := 57) dX7_raceChances_57 ml_X7_307 (by first | decide | omega) (Nat.le_of_ble_eq_true rfl) (cI_0 ▸ c_X7_placeAfter (κ := 0) (k := 0) μ hz hB (by omega) ha (by omega) (show i ≤ 4 by omega)) ?_
            rintro _ μ2 ⟨rfl, hμ⟩
            obtain rfl := hμ.symm
            refine V_istore7 (pc := 60) dX7_raceChances_60 (by decide) rfl ?_
            refine V_aload_n (pc := 62) dX7_raceChances_62 rfl rfl ?_
            refine V_iconst (pc := 63) (v := 0) dX7_raceChances_63 (by decide) ?_
            refine V_iload_n (pc := 64) dX7_raceChances_64 rfl rfl ?_
            refine V_iconst (pc := 65) (v := (-1)) dX7_raceChances_65 (by decide) ?_
            refine V_iload (pc := 66) dX7_raceChances_66 rfl ?_
            refine V_ins5 (pc := 68) dX7_raceChances_68 ml_X7_307 (by first | decide | omega) (Nat.le_of_ble_eq_true rfl) (cI_0 ▸ c_X7_placeAfter (κ := 0) (k := 0) μ hz hB (by omega) hb9 (by omega) (show i ≤ 4 by omega)) ?_
            rintro _ μ2 ⟨rfl, hμ⟩
            obtain rfl := hμ.symm
            refine V_istore8 (pc := 71) dX7_raceChances_71 (by decide) rfl ?_
            refine V_iload (pc := 73) dX7_raceChances_73 rfl ?_
            refine V_iload (pc := 75) dX7_raceChances_75 rfl ?_
            refine V_aload_n (pc := 77) dX7_raceChances_77 rfl rfl ?_
            refine V_iload_n (pc := 78) dX7_raceChances_78 rfl rfl ?_
            refine V_iconst (pc := 79) (v := 1) dX7_raceChances_79 (by decide) ?_
            refine V_isub (pc := 80) dX7_raceChances_80 ?_
            rw [nI_m1 d]
            refine V_iload (pc := 81) dX7_raceChances_81 rfl ?_
            refine V_iload (pc := 83) dX7_raceChances_83 rfl ?_
            refine V_ins4 (pc := 85) dX7_raceChances_85 ml_X7_199 (by first | decide | omega) (Nat.le_of_ble_eq_true rfl) (hrc _ _ (aft_le ha) (aft_le hb9)) ?_
            rintro _ μ2 ⟨rfl, hμ⟩
            obtain rfl := hμ.symm
            refine V_imul (pc := 88) dX7_raceChances_88 ?_
            refine V_iadd (pc := 89) dX7_raceChances_89 ?_
            rw [hacc, pk_mul, nI_add, show raS tn ow (raT tn ow d) a b i + sumT tn i 3 * raT tn ow d (aft ow 0 a 0 i) (aft ow 0 b 0 i) = raS tn ow (raT tn ow d) a b (i + 1) from rfl]
            refine V_istore4 (pc := 90) dX7_raceChances_90 (by decide) rfl ?_
            refine V_iinc5 (pc := 92) (v := nI (i + 1)) dX7_raceChances_92 (nI_1 i) (by decide) rfl ?_
            refine V_goto (pc := 95) (tgt := 32) dX7_raceChances_95 (by decide) ?_
            first | exact ihA (i + 1) _ _ _ _ (by omega) (by omega) (by rw [hacc]; simp only [raS]; rw [e0, Nat.zero_mul, Nat.add_zero]) rfl ok7 | exact ihA (i + 1) _ _ _ _ (by omega) (by omega) rfl rfl rfl
        exact loopA (5 + 1) 0 _ _ _ _ (by omega) (by omega) rfl rfl rfl
      exact absurd ((nI_ltI (a := 0) (b := d + 1) (by decide) (by omega)).mpr (by omega)) h21
    have h11 := (nI_eq (a := a) (b := 9) (by omega) (by omega)).mp h11
    refine V_gets (pc := 14) (k := 90) dX7_raceChances_14 (by decide) (by decide) gs_X7_185 ?_
    refine V_iload_n (pc := 17) dX7_raceChances_17 rfl rfl ?_
    refine V_sald (pc := 18) (j := (d + 1)) dX7_raceChances_18 (by decide) (by decide) rfl (by show d + 1 < 7; omega) ?_
    refine V_iret (pc := 19) dX7_raceChances_19 rfl ?_
    exact ⟨by rw [stT90 (d + 1) hd]; simp only [raT]; rw [if_neg h3, if_pos h11], rfl⟩
  have h3 := (nI_eq (a := b) (b := 9) (by omega) (by omega)).mp h3
  refine V_iconst (pc := 6) (v := 0) dX7_raceChances_6 (by decide) ?_
  refine V_iret (pc := 7) dX7_raceChances_7 rfl ?_
  exact ⟨by simp only [raT]; rw [if_pos h3]; rfl, rfl⟩
theorem dX7_raceChances_24 : decode cX7_raceChances 24 = .ok (.iconst 0, 1) := by decide +kernel
theorem dX7_raceChances_25 : decode cX7_raceChances 25 = .ok (.ireturn, 1) := by decide +kernel
set_option maxHeartbeats 4000000 in
set_option maxRecDepth 100000 in
theorem c_X7_race0 {l : Launch} {g : GW} {z a b : Nat} {tn : Nat → Nat → Nat} {ow : Nat → Nat} (μ : Mm) (ha : a ≤ 9) (hb9 : b ≤ 9) : Con l g yX7_raceChances cX7_raceChances 9 (some .int) 2 [.ref z, .int (nI 0), .int (nI a), .int (nI b)] μ (fun r μ' => r = some (.int (nI (raT tn ow (0) a b))) ∧ μ' = μ) := by
  refine Con.of [.ref z, .int (nI 0), .int (nI a), .int (nI b), .null, .null, .null, .null, .null] 5 (by decide +kernel) (Nat.le_of_ble_eq_true rfl) rfl ?_
  refine V_iload_n (pc := 0) dX7_raceChances_0 rfl rfl ?_
  refine V_bipush (pc := 1) (v := 9) dX7_raceChances_1 (by decide) ?_
  refine V_icmpne (pc := 3) (tgt := 8) dX7_raceChances_3 (by decide) (fun h3 => ?_) (fun h3 => ?_)
  · have h3 := mt (nI_eq (a := b) (b := 9) (by omega) (by omega)).mpr h3
    refine V_iload_n (pc := 8) dX7_raceChances_8 rfl rfl ?_
    refine V_bipush (pc := 9) (v := 9) dX7_raceChances_9 (by decide) ?_
    refine V_icmpne (pc := 11) (tgt := 20) dX7_raceChances_11 (by decide) (fun h11 => ?_) (fun h11 => ?_)
    · have h11 := mt (nI_eq (a := a) (b := 9) (by omega) (by omega)).mpr h11
      refine V_iload_n (pc := 20) dX7_raceChances_20 rfl rfl ?_
      refine V_ifgt (pc := 21) (tgt := 26) dX7_raceChances_21 (by decide) (fun h21 => ?_) (fun h21 => ?_)
      · exact absurd h21 (by decide)
      refine V_iconst (pc := 24) (v := 0) dX7_raceChances_24 (by decide) ?_
      refine V_iret (pc := 25) dX7_raceChances_25 rfl ?_
      exact ⟨by simp only [raT]; rw [if_neg h3, if_neg h11]; rfl, rfl⟩
    have h11 := (nI_eq (a := a) (b := 9) (by omega) (by omega)).mp h11
    refine V_gets (pc := 14) (k := 90) dX7_raceChances_14 (by decide) (by decide) gs_X7_185 ?_
    refine V_iload_n (pc := 17) dX7_raceChances_17 rfl rfl ?_
    refine V_sald (pc := 18) (j := 0) dX7_raceChances_18 (by decide) (by decide) rfl (by decide) ?_
    refine V_iret (pc := 19) dX7_raceChances_19 rfl ?_
    exact ⟨by simp only [raT]; rw [if_neg h3, if_pos h11]; rfl, rfl⟩
  have h3 := (nI_eq (a := b) (b := 9) (by omega) (by omega)).mp h3
  refine V_iconst (pc := 6) (v := 0) dX7_raceChances_6 (by decide) ?_
  refine V_iret (pc := 7) dX7_raceChances_7 rfl ?_
  exact ⟨by simp only [raT]; rw [if_pos h3]; rfl, rfl⟩
theorem c_X7_raceChances {l : Launch} {g : GW} {z : Nat} {tn : Nat → Nat → Nat} {ow : Nat → Nat} (μ : Mm) (hz : z = 49 ∨ z = 57) (hB : BkR μ z tn ow) : ∀ (d a b : Nat), d ≤ 6 → a ≤ 9 → b ≤ 9 → Con l g yX7_raceChances cX7_raceChances 9 (some .int) (d + 2) [.ref z, .int (nI d), .int (nI a), .int (nI b)] μ (fun r μ' => r = some (.int (nI (raT tn ow (d) a b))) ∧ μ' = μ)
  | 0, a, b, _, h1, h2 => c_X7_race0 μ h1 h2
  | d + 1, a, b, hd, h1, h2 => c_X7_raceS μ hz hd hB h1 h2 (fun a b a1 a2 => c_X7_raceChances μ hz hB d a b (by omega) a1 a2)
