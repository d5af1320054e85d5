theorem dX8_chanceBy_0 : decode cX8_chanceBy 0 = .ok (.lconst 0, 1) := by decide +kernel
theorem dX8_chanceBy_1 : decode cX8_chanceBy 1 = .ok (.lstore 7, 2) := by decide +kernel
theorem dX8_chanceBy_3 : decode cX8_chanceBy 3 = .ok (.iconst 0, 1) := by decide +kernel
theorem dX8_chanceBy_4 : decode cX8_chanceBy 4 = .ok (.istore 9, 2) := by decide +kernel
theorem dX8_chanceBy_6 : decode cX8_chanceBy 6 = .ok (.iload 9, 2) := by decide +kernel
theorem dX8_chanceBy_8 : decode cX8_chanceBy 8 = .ok (.iconst 4, 1) := by decide +kernel
theorem dX8_chanceBy_9 : decode cX8_chanceBy 9 = .ok (.if_icmp .gt 57, 3) := by decide +kernel
theorem dX8_chanceBy_12 : decode cX8_chanceBy 12 = .ok (.lload 7, 2) := by decide +kernel
theorem dX8_chanceBy_14 : decode cX8_chanceBy 14 = .ok (.aload_n 0, 1) := by decide +kernel
theorem dX8_chanceBy_15 : decode cX8_chanceBy 15 = .ok (.getfield 7, 3) := by decide +kernel
theorem dX8_chanceBy_18 : decode cX8_chanceBy 18 = .ok (.iconst 3, 1) := by decide +kernel
theorem dX8_chanceBy_19 : decode cX8_chanceBy 19 = .ok (.iload 9, 2) := by decide +kernel
theorem dX8_chanceBy_21 : decode cX8_chanceBy 21 = .ok (.imul, 1) := by decide +kernel
theorem dX8_chanceBy_22 : decode cX8_chanceBy 22 = .ok (.iload 5, 2) := by decide +kernel
theorem dX8_chanceBy_24 : decode cX8_chanceBy 24 = .ok (.iadd, 1) := by decide +kernel
theorem dX8_chanceBy_25 : decode cX8_chanceBy 25 = .ok (.iaload, 1) := by decide +kernel
theorem dX8_chanceBy_26 : decode cX8_chanceBy 26 = .ok (.i2l, 1) := by decide +kernel
theorem dX8_chanceBy_27 : decode cX8_chanceBy 27 = .ok (.aload_n 0, 1) := by decide +kernel
theorem dX8_chanceBy_28 : decode cX8_chanceBy 28 = .ok (.getfield 51, 3) := by decide +kernel
theorem dX8_chanceBy_31 : decode cX8_chanceBy 31 = .ok (.iload_n 2, 1) := by decide +kernel
theorem dX8_chanceBy_32 : decode cX8_chanceBy 32 = .ok (.iconst 1, 1) := by decide +kernel
theorem dX8_chanceBy_33 : decode cX8_chanceBy 33 = .ok (.isub, 1) := by decide +kernel
theorem dX8_chanceBy_34 : decode cX8_chanceBy 34 = .ok (.iload_n 1, 1) := by decide +kernel
theorem dX8_chanceBy_35 : decode cX8_chanceBy 35 = .ok (.iload_n 3, 1) := by decide +kernel
theorem dX8_chanceBy_36 : decode cX8_chanceBy 36 = .ok (.iload 6, 2) := by decide +kernel
theorem dX8_chanceBy_38 : decode cX8_chanceBy 38 = .ok (.invokestatic 178, 3) := by decide +kernel
theorem dX8_chanceBy_41 : decode cX8_chanceBy 41 = .ok (.aload_n 0, 1) := by decide +kernel
theorem dX8_chanceBy_42 : decode cX8_chanceBy 42 = .ok (.iload_n 1, 1) := by decide +kernel
theorem dX8_chanceBy_43 : decode cX8_chanceBy 43 = .ok (.iload 4, 2) := by decide +kernel
theorem dX8_chanceBy_45 : decode cX8_chanceBy 45 = .ok (.iload 9, 2) := by decide +kernel
theorem dX8_chanceBy_47 : decode cX8_chanceBy 47 = .ok (.iload 6, 2) := by decide +kernel
theorem dX8_chanceBy_49 : decode cX8_chanceBy 49 = .ok (.invokevirtual 166, 3) := by decide +kernel
theorem dX8_chanceBy_52 : decode cX8_chanceBy 52 = .ok (.invokestatic 182, 3) := by decide +kernel
theorem dX8_chanceBy_55 : decode cX8_chanceBy 55 = .ok (.laload, 1) := by decide +kernel
theorem dX8_chanceBy_56 : decode cX8_chanceBy 56 = .ok (.lmul, 1) := by decide +kernel
theorem dX8_chanceBy_57 : decode cX8_chanceBy 57 = .ok (.ladd, 1) := by decide +kernel
theorem dX8_chanceBy_58 : decode cX8_chanceBy 58 = .ok (.lstore 7, 2) := by decide +kernel
theorem dX8_chanceBy_60 : decode cX8_chanceBy 60 = .ok (.iinc 9 1, 3) := by decide +kernel
theorem dX8_chanceBy_63 : decode cX8_chanceBy 63 = .ok (.goto (-57), 3) := by decide +kernel
theorem dX8_chanceBy_66 : decode cX8_chanceBy 66 = .ok (.lload 7, 2) := by decide +kernel
theorem dX8_chanceBy_68 : decode cX8_chanceBy 68 = .ok (.lreturn, 1) := by decide +kernel
set_option maxHeartbeats 4000000 in
set_option maxRecDepth 100000 in
theorem c_X8_chanceBy {l : Launch} {g : GW} {a : AT} {κ d S p s k : Nat} (μ : Mm) (hO : AOK a) (hM : RM μ a) (hnb : 0 < aNb a) (hκ : κ ≤ 4) (hd : d + 1 ≤ 4) (hS : S < 64) (hp : p ≤ 9) (hL : ChL μ (aTn a) (aOw a) κ d) (hs : s < 3) (hk : k ≤ 6) : Con l g yX8_chanceBy cX8_chanceBy 10 (some .long) 1 [.ref 65, .int (nI κ), .int (nI (d + 1)), .int (nI S), .int (nI p), .int (nI s), .int (cI k)] μ (fun r μ' => r = some (.long (lN (woT (aTn a) (aOw a) κ (chT (aTn a) (aOw a) κ d) p (63 - S) s k))) ∧ μ' = μ) := by
  obtain ⟨m1, m2, m3, m4, m5, m6, m7, m8, m9, m10, m11, m12, m13⟩ := id hM
  obtain ⟨o1, o2, o3, o4, o5, ⟨s1, s2, s3, s4⟩, oK, o8, o9, o10⟩ := id hO
  have hcl : ∀ p F, chT (aTn a) (aOw a) κ d p F ≤ 810000 := fun p F => Nat.le_trans (chT_le (ow := aOw a) (κ := κ) o4 d p F) (p30 (by omega))
  have hB := m4 hnb
  have hcb : ∀ n, n ≤ 5 → cbT (aTn a) (aOw a) κ (chT (aTn a) (aOw a) κ d) p (63 - S) s k n ≤ 10 * n * 810000 := fun n hn => cbT_le o4 hs hcl n hn
  refine Con.of [.ref 65, .int (nI κ), .int (nI (d + 1)), .int (nI S), .int (nI p), .int (nI s), .int (cI k), .null, .null, .null] 3 (by decide +kernel) (Nat.le_of_ble_eq_true rfl) rfl ?_
  refine V_lconst (pc := 0) (v := 0) dX8_chanceBy_0 (by decide) ?_
  refine V_lstore7 (pc := 1) dX8_chanceBy_1 (by decide) rfl ?_
  refine V_iconst (pc := 3) (v := 0) dX8_chanceBy_3 (by decide) ?_
  refine V_istore9 (pc := 4) dX8_chanceBy_4 (by decide) rfl ?_
  have loopA : ∀ (nA w : Nat) (u : Int64), w ≤ 5 → 5 < w + nA → (u = lN (cbT (aTn a) (aOw a) κ (chT (aTn a) (aOw a) κ d) p (63 - S) s k w)) → V l g RX8 cX8_chanceBy 10 (some .long) 1 6 [.ref 65, .int (nI κ), .int (nI (d + 1)), .int (nI S), .int (nI p), .int (nI s), .int (cI k), .long u, .null, .int (nI w)] [] μ (fun r μ' => r = some (.long (lN (woT (aTn a) (aOw a) κ (chT (aTn a) (aOw a) κ d) p (63 - S) s k))) ∧ μ' = μ) := by
    intro nA
    induction nA with
    | zero => intro w u h1 h2; exact absurd h2 (by omega)
    | succ nA ihA =>
      intro w u hleA hfuA hu
      refine V_iload (pc := 6) dX8_chanceBy_6 rfl ?_
      refine V_iconst (pc := 8) (v := 4) dX8_chanceBy_8 (by decide) ?_
      refine V_icmpgt (pc := 9) (tgt := 66) dX8_chanceBy_9 (by decide) (fun h9 => ?_) (fun h9 => ?_)
      · have h9 := (nI_ltI (a := 4) (b := w) (by decide) (by omega)).mp h9; obtain rfl : w = 5 := by omega
        refine V_lload (pc := 66) dX8_chanceBy_66 rfl ?_
        refine V_lret (pc := 68) dX8_chanceBy_68 rfl ?_
        exact ⟨by rw [hu, cbT_wo o4 hs], rfl⟩
      have hlt : w < 5 := by have := mt (nI_ltI (a := 4) (b := w) (by decide) (by omega)).mpr h9; omega
      refine V_lload (pc := 12) dX8_chanceBy_12 rfl ?_
      refine V_aload_n (pc := 14) dX8_chanceBy_14 rfl rfl ?_
      refine V_getR (pc := 15) (ci := 8) (j := 3) (k2 := 66) dX8_chanceBy_15 fl_X8_7 (fun _ _ _ _ => rfl) (by decide) rfl (rf_8_3 rfl) ?_
      refine V_iconst (pc := 18) (v := 3) dX8_chanceBy_18 (by decide) ?_
      refine V_iload (pc := 19) dX8_chanceBy_19 rfl ?_
      refine V_imul (pc := 21) dX8_chanceBy_21 ?_
      refine V_iload (pc := 22) dX8_chanceBy_22 rfl ?_
      refine V_iadd (pc := 24) dX8_chanceBy_24 ?_
      refine V_iald (pc := 25) (j := (3 * w + s)) dX8_chanceBy_25 (by decide) rfl (by rw [show (3 : Int32) = nI 3 from rfl, pk_mul, nI_add]) (by show 3 * w + s < 15; omega) ?_
      rw [hB.1 w s hlt hs]
      refine V_i2l (pc := 26) dX8_chanceBy_26 ?_
      refine V_aload_n (pc := 27) dX8_chanceBy_27 rfl rfl ?_
      refine V_getR (pc := 28) (ci := 8) (j := 26) (k2 := 78) dX8_chanceBy_28 fl_X8_51 (fun _ _ _ _ => rfl) (by decide) rfl (rf_8_26 rfl) ?_
      refine V_iload_n (pc := 31) dX8_chanceBy_31 rfl rfl ?_
      refine V_iconst (pc := 32) (v := 1) dX8_chanceBy_32 (by decide) ?_
      refine V_isub (pc := 33) dX8_chanceBy_33 ?_
      rw [nI_m1 d]
      refine V_iload_n (pc := 34) dX8_chanceBy_34 rfl rfl ?_
      refine V_iload_n (pc := 35) dX8_chanceBy_35 rfl rfl ?_
      refine V_iload (pc := 36) dX8_chanceBy_36 rfl ?_
      refine V_ins3 (pc := 38) dX8_chanceBy_38 ml_X8_178 (by first | decide | omega) (Nat.le_of_ble_eq_true rfl) (c_X8_spentBy μ hκ hS hk) ?_
      rintro _ μ2 ⟨rfl, hμ⟩
      obtain rfl := hμ.symm
      have hspl := spB_lt (κ := κ) hS hk
      refine V_aload_n (pc := 41) dX8_chanceBy_41 rfl rfl ?_
      refine V_iload_n (pc := 42) dX8_chanceBy_42 rfl rfl ?_
      refine V_iload (pc := 43) dX8_chanceBy_43 rfl ?_
      refine V_iload (pc := 45) dX8_chanceBy_45 rfl ?_
      refine V_iload (pc := 47) dX8_chanceBy_47 rfl ?_
      refine V_inv4 (pc := 49) (ci := 8) dX8_chanceBy_49 ml_X8_166 (by decide) rfl ⟨by decide, rfl⟩ (by first | decide | omega) (Nat.le_of_ble_eq_true rfl) (c_X8_behind μ hO hM hnb hκ hp (show w ≤ 4 by omega) hk) ?_
      rintro _ μ2 ⟨rfl, hμ⟩
      obtain rfl := hμ.symm
      have hafl := aft_le (ow := aOw a) (κ := κ) (k := k) (w := w) hp
      refine V_ins3 (pc := 52) dX8_chanceBy_52 ml_X8_182 (by first | decide | omega) (Nat.le_of_ble_eq_true rfl) (c_X8_at μ) ?_
      rintro _ μ2 ⟨rfl, hμ⟩
      obtain rfl := hμ.symm
      refine V_lald (pc := 55) (j := (640 * d + 10 * spB κ S k + aft (aOw a) κ p k w)) dX8_chanceBy_55 (by decide) rfl rfl (by show _ < 3200; omega) ?_
      have htl := o4.le (w := w) (s := s) hlt hs
      rw [hL (spB κ S k) (aft (aOw a) κ p k w) hspl hafl, ← frA_sp hS hk, nI_l (by omega)]
      refine V_lmul (pc := 56) dX8_chanceBy_56 ?_
      rw [lN_mul]
      refine V_ladd (pc := 57) dX8_chanceBy_57 ?_
      rw [hu, lN_add]
      refine V_lstore7 (pc := 58) dX8_chanceBy_58 (by decide) rfl ?_
      refine V_iinc9 (pc := 60) (v := nI (w + 1)) dX8_chanceBy_60 (nI_1 w) (by decide) rfl ?_
      refine V_goto (pc := 63) (tgt := 6) dX8_chanceBy_63 (by decide) ?_
      exact ihA (w + 1) _ (by omega) (by omega) rfl
  exact loopA (5 + 1) 0 _ (by omega) (by omega) rfl
theorem dX8_bestCall_0 : decode cX8_bestCall 0 = .ok (.iconst (-1), 1) := by decide +kernel
theorem dX8_bestCall_1 : decode cX8_bestCall 1 = .ok (.istore 6, 2) := by decide +kernel
theorem dX8_bestCall_3 : decode cX8_bestCall 3 = .ok (.aload_n 0, 1) := by decide +kernel
theorem dX8_bestCall_4 : decode cX8_bestCall 4 = .ok (.iload_n 1, 1) := by decide +kernel
theorem dX8_bestCall_5 : decode cX8_bestCall 5 = .ok (.iload_n 2, 1) := by decide +kernel
theorem dX8_bestCall_6 : decode cX8_bestCall 6 = .ok (.iload_n 3, 1) := by decide +kernel
theorem dX8_bestCall_7 : decode cX8_bestCall 7 = .ok (.iload 4, 2) := by decide +kernel
theorem dX8_bestCall_9 : decode cX8_bestCall 9 = .ok (.iload 5, 2) := by decide +kernel
theorem dX8_bestCall_11 : decode cX8_bestCall 11 = .ok (.iconst (-1), 1) := by decide +kernel
theorem dX8_bestCall_12 : decode cX8_bestCall 12 = .ok (.invokevirtual 185, 3) := by decide +kernel
theorem dX8_bestCall_15 : decode cX8_bestCall 15 = .ok (.lstore 7, 2) := by decide +kernel
theorem dX8_bestCall_17 : decode cX8_bestCall 17 = .ok (.iconst 0, 1) := by decide +kernel
theorem dX8_bestCall_18 : decode cX8_bestCall 18 = .ok (.istore 9, 2) := by decide +kernel
theorem dX8_bestCall_20 : decode cX8_bestCall 20 = .ok (.iload 9, 2) := by decide +kernel
theorem dX8_bestCall_22 : decode cX8_bestCall 22 = .ok (.bipush 6, 2) := by decide +kernel
theorem dX8_bestCall_24 : decode cX8_bestCall 24 = .ok (.if_icmp .ge 73, 3) := by decide +kernel
theorem dX8_bestCall_27 : decode cX8_bestCall 27 = .ok (.iload_n 3, 1) := by decide +kernel
theorem dX8_bestCall_28 : decode cX8_bestCall 28 = .ok (.iload 9, 2) := by decide +kernel
theorem dX8_bestCall_30 : decode cX8_bestCall 30 = .ok (.invokestatic 156, 3) := by decide +kernel
theorem dX8_bestCall_33 : decode cX8_bestCall 33 = .ok (.ifCond .eq 9, 3) := by decide +kernel
theorem dX8_bestCall_36 : decode cX8_bestCall 36 = .ok (.ldc2_w 189, 3) := by decide +kernel
theorem dX8_bestCall_39 : decode cX8_bestCall 39 = .ok (.goto 16, 3) := by decide +kernel
theorem dX8_bestCall_42 : decode cX8_bestCall 42 = .ok (.aload_n 0, 1) := by decide +kernel
theorem dX8_bestCall_43 : decode cX8_bestCall 43 = .ok (.iload_n 1, 1) := by decide +kernel
theorem dX8_bestCall_44 : decode cX8_bestCall 44 = .ok (.iload_n 2, 1) := by decide +kernel
theorem dX8_bestCall_45 : decode cX8_bestCall 45 = .ok (.iload_n 3, 1) := by decide +kernel
theorem dX8_bestCall_46 : decode cX8_bestCall 46 = .ok (.iload 4, 2) := by decide +kernel
theorem dX8_bestCall_48 : decode cX8_bestCall 48 = .ok (.iload 5, 2) := by decide +kernel
theorem dX8_bestCall_50 : decode cX8_bestCall 50 = .ok (.iload 9, 2) := by decide +kernel
theorem dX8_bestCall_52 : decode cX8_bestCall 52 = .ok (.invokevirtual 185, 3) := by decide +kernel
theorem dX8_bestCall_55 : decode cX8_bestCall 55 = .ok (.lstore 10, 2) := by decide +kernel
theorem dX8_bestCall_57 : decode cX8_bestCall 57 = .ok (.lload 10, 2) := by decide +kernel
theorem dX8_bestCall_59 : decode cX8_bestCall 59 = .ok (.lload 7, 2) := by decide +kernel
theorem dX8_bestCall_61 : decode cX8_bestCall 61 = .ok (.lcmp, 1) := by decide +kernel
theorem dX8_bestCall_62 : decode cX8_bestCall 62 = .ok (.ifCond .le 8, 3) := by decide +kernel
theorem dX8_bestCall_65 : decode cX8_bestCall 65 = .ok (.iload 9, 2) := by decide +kernel
theorem dX8_bestCall_67 : decode cX8_bestCall 67 = .ok (.goto 5, 3) := by decide +kernel
theorem dX8_bestCall_70 : decode cX8_bestCall 70 = .ok (.iload 6, 2) := by decide +kernel
theorem dX8_bestCall_72 : decode cX8_bestCall 72 = .ok (.istore 6, 2) := by decide +kernel
theorem dX8_bestCall_74 : decode cX8_bestCall 74 = .ok (.lload 10, 2) := by decide +kernel
theorem dX8_bestCall_76 : decode cX8_bestCall 76 = .ok (.lload 7, 2) := by decide +kernel
theorem dX8_bestCall_78 : decode cX8_bestCall 78 = .ok (.lcmp, 1) := by decide +kernel
theorem dX8_bestCall_79 : decode cX8_bestCall 79 = .ok (.ifCond .le 8, 3) := by decide +kernel
theorem dX8_bestCall_82 : decode cX8_bestCall 82 = .ok (.lload 10, 2) := by decide +kernel
theorem dX8_bestCall_84 : decode cX8_bestCall 84 = .ok (.goto 5, 3) := by decide +kernel
theorem dX8_bestCall_87 : decode cX8_bestCall 87 = .ok (.lload 7, 2) := by decide +kernel
theorem dX8_bestCall_89 : decode cX8_bestCall 89 = .ok (.lstore 7, 2) := by decide +kernel
theorem dX8_bestCall_91 : decode cX8_bestCall 91 = .ok (.iinc 9 1, 3) := by decide +kernel
theorem dX8_bestCall_94 : decode cX8_bestCall 94 = .ok (.goto (-74), 3) := by decide +kernel
theorem dX8_bestCall_97 : decode cX8_bestCall 97 = .ok (.iload 6, 2) := by decide +kernel
theorem dX8_bestCall_99 : decode cX8_bestCall 99 = .ok (.ireturn, 1) := by decide +kernel
set_option maxHeartbeats 4000000 in
set_option maxRecDepth 100000 in
theorem c_X8_bestCall {l : Launch} {g : GW} {a : AT} {κ d S p s : Nat} (μ : Mm) (hO : AOK a) (hM : RM μ a) (hnb : 0 < aNb a) (hκ : κ ≤ 4) (hd : d + 1 ≤ 4) (hS : S < 64) (hp : p ≤ 9) (hL : ChL μ (aTn a) (aOw a) κ d) (hs : s < 3) : Con l g yX8_bestCall cX8_bestCall 12 (some .int) 2 [.ref 65, .int (nI κ), .int (nI (d + 1)), .int (nI S), .int (nI p), .int (nI s)] μ (fun r μ' => r = some (.int (cI (beT (aTn a) (aOw a) κ (chT (aTn a) (aOw a) κ d) p (63 - S) s 6).1)) ∧ μ' = μ) := by
  obtain ⟨m1, m2, m3, m4, m5, m6, m7, m8, m9, m10, m11, m12, m13⟩ := id hM
  obtain ⟨o1, o2, o3, o4, o5, ⟨s1, s2, s3, s4⟩, oK, o8, o9, o10⟩ := id hO
  have hcl : ∀ p F, chT (aTn a) (aOw a) κ d p F ≤ 810000 := fun p F => Nat.le_trans (chT_le (ow := aOw a) (κ := κ) o4 d p F) (p30 (by omega))
  have hwl := fun k => woT_le (ow := aOw a) (κ := κ) (p := p) (F := 63 - S) (k := k) o4 hs hcl
  refine Con.of [.ref 65, .int (nI κ), .int (nI (d + 1)), .int (nI S), .int (nI p), .int (nI s), .null, .null, .null, .null, .null, .null] 6 (by decide +kernel) (Nat.le_of_ble_eq_true rfl) rfl ?_
  refine V_iconst (pc := 0) (v := (-1)) dX8_bestCall_0 (by decide) ?_
  refine V_istore6 (pc := 1) dX8_bestCall_1 (by decide) rfl ?_
  refine V_aload_n (pc := 3) dX8_bestCall_3 rfl rfl ?_
  refine V_iload_n (pc := 4) dX8_bestCall_4 rfl rfl ?_
  refine V_iload_n (pc := 5) dX8_bestCall_5 rfl rfl ?_
  refine V_iload_n (pc := 6) dX8_bestCall_6 rfl rfl ?_
  refine V_iload (pc := 7) dX8_bestCall_7 rfl ?_
  refine V_iload (pc := 9) dX8_bestCall_9 rfl ?_
  refine V_iconst (pc := 11) (v := (-1)) dX8_bestCall_11 (by decide) ?_
  refine V_inv6 (pc := 12) (ci := 8) dX8_bestCall_12 ml_X8_185 (by decide) rfl ⟨by decide, rfl⟩ (by first | decide | omega) (Nat.le_of_ble_eq_true rfl) (cI_0 ▸ c_X8_chanceBy (k := 0) μ hO hM hnb hκ hd hS hp hL hs (by omega)) ?_
  rintro _ μ2 ⟨rfl, hμ⟩
  obtain rfl := hμ.symm
  refine V_lstore7 (pc := 15) dX8_bestCall_15 (by decide) rfl ?_
  refine V_iconst (pc := 17) (v := 0) dX8_bestCall_17 (by decide) ?_
  refine V_istore9 (pc := 18) dX8_bestCall_18 (by decide) rfl ?_
  have loopA : ∀ (nA n : Nat) (kb m : Nat) (y10 y11 : Value), n ≤ 6 → 6 < n + nA → ((kb, m) = beT (aTn a) (aOw a) κ (chT (aTn a) (aOw a) κ d) p (63 - S) s n) → V l g RX8 cX8_bestCall 12 (some .int) 2 20 [.ref 65, .int (nI κ), .int (nI (d + 1)), .int (nI S), .int (nI p), .int (nI s), .int (cI kb), .long (lN m), .null, .int (nI n), y10, y11] [] μ (fun r μ' => r = some (.int (cI (beT (aTn a) (aOw a) κ (chT (aTn a) (aOw a) κ d) p (63 - S) s 6).1)) ∧ μ' = μ) := by
    intro nA
    induction nA with
    | zero => intro n kb m y10 y11 h1 h2; exact absurd h2 (by omega)
    | succ nA ihA =>
      intro n kb m y10 y11 hleA hfuA hb
      refine V_iload (pc := 20) dX8_bestCall_20 rfl ?_
      refine V_bipush (pc := 22) (v := 6) dX8_bestCall_22 (by decide) ?_
      refine V_icmpge (pc := 24) (tgt := 97) dX8_bestCall_24 (by decide) (fun h24 => ?_) (fun h24 => ?_)
      · have h24 := (nI_leI (a := 6) (b := n) (by decide) (by omega)).mp h24; obtain rfl : n = 6 := by omega
        refine V_iload (pc := 97) dX8_bestCall_97 rfl ?_
        refine V_iret (pc := 99) dX8_bestCall_99 rfl ?_
        exact ⟨by rw [← hb], rfl⟩
      have hlt : n < 6 := nI_l3 (a := 6) (by decide) (by omega) h24
      have hm : m ≤ 8100000 := by
        have e := (beT_snd (tn := aTn a) (ow := aOw a) (κ := κ) (c := chT (aTn a) (aOw a) κ d) (p := p) (F := 63 - S) (s := s) n).1
        rw [← hb] at e
        have e2 : m = woT (aTn a) (aOw a) κ (chT (aTn a) (aOw a) κ d) p (63 - S) s kb := e
        have := hwl kb
        omega
      have hw2 := hwl (n + 1)
      have htb := tst_63 S hS n hlt
      refine V_iload_n (pc := 27) dX8_bestCall_27 rfl rfl ?_
      refine V_iload (pc := 28) dX8_bestCall_28 rfl ?_
      refine V_ins2 (pc := 30) dX8_bestCall_30 ml_X8_156 (by first | decide | omega) (Nat.le_of_ble_eq_true rfl) (c_X8_has μ hS hlt) ?_
      rintro _ μ2 ⟨rfl, hμ⟩
      obtain rfl := hμ.symm
      refine V_ifeq (pc := 33) (tgt := 42) dX8_bestCall_33 (by decide) (fun h33 => ?_) (fun h33 => ?_)
      · have h33 := bI_e h33
        refine V_aload_n (pc := 42) dX8_bestCall_42 rfl rfl ?_
        refine V_iload_n (pc := 43) dX8_bestCall_43 rfl rfl ?_
        refine V_iload_n (pc := 44) dX8_bestCall_44 rfl rfl ?_
        refine V_iload_n (pc := 45) dX8_bestCall_45 rfl rfl ?_
        refine V_iload (pc := 46) dX8_bestCall_46 rfl ?_
        refine V_iload (pc := 48) dX8_bestCall_48 rfl ?_
        refine V_iload (pc := 50) dX8_bestCall_50 rfl ?_
        refine V_inv6 (pc := 52) (ci := 8) dX8_bestCall_52 ml_X8_185 (by decide) rfl ⟨by decide, rfl⟩ (by first | decide | omega) (Nat.le_of_ble_eq_true rfl) (cI_s n ▸ c_X8_chanceBy (k := n + 1) μ hO hM hnb hκ hd hS hp hL hs (by omega)) ?_
        rintro _ μ2 ⟨rfl, hμ⟩
        obtain rfl := hμ.symm
        refine V_lstore10 (pc := 55) dX8_bestCall_55 (by decide) rfl ?_
        refine V_lload (pc := 57) dX8_bestCall_57 rfl ?_
        refine V_lload (pc := 59) dX8_bestCall_59 rfl ?_
        refine V_lcmp (pc := 61) dX8_bestCall_61 ?_
        by_cases hwin : m < woT (aTn a) (aOw a) κ (chT (aTn a) (aOw a) κ d) p (63 - S) s (n + 1)
        · have hgt : ¬ lg_cmp (lN (woT (aTn a) (aOw a) κ (chT (aTn a) (aOw a) κ d) p (63 - S) s (n + 1))) (lN m) ≤ 0 := fun q => (lcmp_gt (by omega) (by omega)).mp q hwin
          refine V_ifle (pc := 62) (tgt := 70) dX8_bestCall_62 (by decide) (fun q => absurd q hgt) (fun _ => ?_)
          refine V_iload (pc := 65) dX8_bestCall_65 rfl ?_
          refine V_goto (pc := 67) (tgt := 72) dX8_bestCall_67 (by decide) ?_
          refine V_istore6 (pc := 72) dX8_bestCall_72 (by decide) rfl ?_
          refine V_lload (pc := 74) dX8_bestCall_74 rfl ?_
          refine V_lload (pc := 76) dX8_bestCall_76 rfl ?_
          refine V_lcmp (pc := 78) dX8_bestCall_78 ?_
          refine V_ifle (pc := 79) (tgt := 87) dX8_bestCall_79 (by decide) (fun q => absurd q hgt) (fun _ => ?_)
          refine V_lload (pc := 82) dX8_bestCall_82 rfl ?_
          refine V_goto (pc := 84) (tgt := 89) dX8_bestCall_84 (by decide) ?_
          refine V_lstore7 (pc := 89) dX8_bestCall_89 (by decide) rfl ?_
          refine V_iinc9 (pc := 91) (v := nI (n + 1)) dX8_bestCall_91 (nI_1 n) (by decide) rfl ?_
          refine V_goto (pc := 94) (tgt := 20) dX8_bestCall_94 (by decide) ?_
          rw [← cI_s n]
          refine ihA (n + 1) (n + 1) _ _ _ (by omega) (by omega) ?_
          show _ = (let q := beT (aTn a) (aOw a) κ (chT (aTn a) (aOw a) κ d) p (63 - S) s n; if (63 - S).testBit n = true ∧ q.2 < woT (aTn a) (aOw a) κ (chT (aTn a) (aOw a) κ d) p (63 - S) s (n + 1) then (n + 1, woT (aTn a) (aOw a) κ (chT (aTn a) (aOw a) κ d) p (63 - S) s (n + 1)) else q)
          rw [← hb]
          simp only
          rw [if_pos ⟨by rw [htb, h33]; rfl, hwin⟩]
        · have hle : lg_cmp (lN (woT (aTn a) (aOw a) κ (chT (aTn a) (aOw a) κ d) p (63 - S) s (n + 1))) (lN m) ≤ 0 := (lcmp_gt (by omega) (by omega)).mpr hwin
          refine V_ifle (pc := 62) (tgt := 70) dX8_bestCall_62 (by decide) (fun _ => ?_) (fun q => absurd hle q)
          refine V_iload (pc := 70) dX8_bestCall_70 rfl ?_
          refine V_istore6 (pc := 72) dX8_bestCall_72 (by decide) rfl ?_
          refine V_lload (pc := 74) dX8_bestCall_74 rfl ?_
          refine V_lload (pc := 76) dX8_bestCall_76 rfl ?_
          refine V_lcmp (pc := 78) dX8_bestCall_78 ?_
          refine V_ifle (pc := 79) (tgt := 87) dX8_bestCall_79 (by decide) (fun _ => ?_) (fun q => absurd hle q)
          refine V_lload (pc := 87) dX8_bestCall_87 rfl ?_
          refine V_lstore7 (pc := 89) dX8_bestCall_89 (by decide) rfl ?_
          refine V_iinc9 (pc := 91) (v := nI (n + 1)) dX8_bestCall_91 (nI_1 n) (by decide) rfl ?_
          refine V_goto (pc := 94) (tgt := 20) dX8_bestCall_94 (by decide) ?_
          refine ihA (n + 1) kb m _ _ (by omega) (by omega) ?_
          show _ = (let q := beT (aTn a) (aOw a) κ (chT (aTn a) (aOw a) κ d) p (63 - S) s n; if (63 - S).testBit n = true ∧ q.2 < woT (aTn a) (aOw a) κ (chT (aTn a) (aOw a) κ d) p (63 - S) s (n + 1) then (n + 1, woT (aTn a) (aOw a) κ (chT (aTn a) (aOw a) κ d) p (63 - S) s (n + 1)) else q)
          rw [← hb]
          simp only
          rw [if_neg (fun q => hwin q.2)]
      have h33 := bI_ne h33
      refine V_ldc2 (pc := 36) (v := (-1)) ct_X8_189 dX8_bestCall_36 ?_
      refine V_goto (pc := 39) (tgt := 55) dX8_bestCall_39 (by decide) ?_
      have hle := lcmp_m1 (y := m) (by omega)
      refine V_lstore10 (pc := 55) dX8_bestCall_55 (by decide) rfl ?_
      refine V_lload (pc := 57) dX8_bestCall_57 rfl ?_
      refine V_lload (pc := 59) dX8_bestCall_59 rfl ?_
      refine V_lcmp (pc := 61) dX8_bestCall_61 ?_
      refine V_ifle (pc := 62) (tgt := 70) dX8_bestCall_62 (by decide) (fun _ => ?_) (fun q => absurd hle q)
      refine V_iload (pc := 70) dX8_bestCall_70 rfl ?_
      refine V_istore6 (pc := 72) dX8_bestCall_72 (by decide) rfl ?_
      refine V_lload (pc := 74) dX8_bestCall_74 rfl ?_
      refine V_lload (pc := 76) dX8_bestCall_76 rfl ?_
      refine V_lcmp (pc := 78) dX8_bestCall_78 ?_
      refine V_ifle (pc := 79) (tgt := 87) dX8_bestCall_79 (by decide) (fun _ => ?_) (fun q => absurd hle q)
      refine V_lload (pc := 87) dX8_bestCall_87 rfl ?_
      refine V_lstore7 (pc := 89) dX8_bestCall_89 (by decide) rfl ?_
      refine V_iinc9 (pc := 91) (v := nI (n + 1)) dX8_bestCall_91 (nI_1 n) (by decide) rfl ?_
      refine V_goto (pc := 94) (tgt := 20) dX8_bestCall_94 (by decide) ?_
      refine ihA (n + 1) kb m _ _ (by omega) (by omega) ?_
      show _ = (let q := beT (aTn a) (aOw a) κ (chT (aTn a) (aOw a) κ d) p (63 - S) s n; if (63 - S).testBit n = true ∧ q.2 < woT (aTn a) (aOw a) κ (chT (aTn a) (aOw a) κ d) p (63 - S) s (n + 1) then (n + 1, woT (aTn a) (aOw a) κ (chT (aTn a) (aOw a) κ d) p (63 - S) s (n + 1)) else q)
      rw [← hb]
      simp only
      rw [if_neg (fun q => by rw [htb, h33] at q; exact absurd q.1 (by decide))]
  exact loopA (6 + 1) 0 0 _ _ _ (by omega) (by omega) rfl
theorem dX8_overSigns_0 : decode cX8_overSigns 0 = .ok (.lconst 0, 1) := by decide +kernel
theorem dX8_overSigns_1 : decode cX8_overSigns 1 = .ok (.lstore 5, 2) := by decide +kernel
theorem dX8_overSigns_3 : decode cX8_overSigns 3 = .ok (.iconst 0, 1) := by decide +kernel
theorem dX8_overSigns_4 : decode cX8_overSigns 4 = .ok (.istore 7, 2) := by decide +kernel
theorem dX8_overSigns_6 : decode cX8_overSigns 6 = .ok (.iload 7, 2) := by decide +kernel
theorem dX8_overSigns_8 : decode cX8_overSigns 8 = .ok (.iconst 3, 1) := by decide +kernel
theorem dX8_overSigns_9 : decode cX8_overSigns 9 = .ok (.if_icmp .ge 36, 3) := by decide +kernel
theorem dX8_overSigns_12 : decode cX8_overSigns 12 = .ok (.lload 5, 2) := by decide +kernel
theorem dX8_overSigns_14 : decode cX8_overSigns 14 = .ok (.aload_n 0, 1) := by decide +kernel
theorem dX8_overSigns_15 : decode cX8_overSigns 15 = .ok (.iload_n 1, 1) := by decide +kernel
theorem dX8_overSigns_16 : decode cX8_overSigns 16 = .ok (.iload_n 2, 1) := by decide +kernel
theorem dX8_overSigns_17 : decode cX8_overSigns 17 = .ok (.iload_n 3, 1) := by decide +kernel
theorem dX8_overSigns_18 : decode cX8_overSigns 18 = .ok (.iload 4, 2) := by decide +kernel
theorem dX8_overSigns_20 : decode cX8_overSigns 20 = .ok (.iload 7, 2) := by decide +kernel
theorem dX8_overSigns_22 : decode cX8_overSigns 22 = .ok (.aload_n 0, 1) := by decide +kernel
theorem dX8_overSigns_23 : decode cX8_overSigns 23 = .ok (.iload_n 1, 1) := by decide +kernel
theorem dX8_overSigns_24 : decode cX8_overSigns 24 = .ok (.iload_n 2, 1) := by decide +kernel
theorem dX8_overSigns_25 : decode cX8_overSigns 25 = .ok (.iload_n 3, 1) := by decide +kernel
theorem dX8_overSigns_26 : decode cX8_overSigns 26 = .ok (.iload 4, 2) := by decide +kernel
theorem dX8_overSigns_28 : decode cX8_overSigns 28 = .ok (.iload 7, 2) := by decide +kernel
theorem dX8_overSigns_30 : decode cX8_overSigns 30 = .ok (.invokevirtual 197, 3) := by decide +kernel
theorem dX8_overSigns_33 : decode cX8_overSigns 33 = .ok (.invokevirtual 185, 3) := by decide +kernel
theorem dX8_overSigns_36 : decode cX8_overSigns 36 = .ok (.ladd, 1) := by decide +kernel
theorem dX8_overSigns_37 : decode cX8_overSigns 37 = .ok (.lstore 5, 2) := by decide +kernel
theorem dX8_overSigns_39 : decode cX8_overSigns 39 = .ok (.iinc 7 1, 3) := by decide +kernel
theorem dX8_overSigns_42 : decode cX8_overSigns 42 = .ok (.goto (-36), 3) := by decide +kernel
theorem dX8_overSigns_45 : decode cX8_overSigns 45 = .ok (.lload 5, 2) := by decide +kernel
theorem dX8_overSigns_47 : decode cX8_overSigns 47 = .ok (.lreturn, 1) := by decide +kernel
set_option maxHeartbeats 4000000 in
set_option maxRecDepth 100000 in
theorem c_X8_overSigns {l : Launch} {g : GW} {a : AT} {κ d S p : Nat} (μ : Mm) (hO : AOK a) (hM : RM μ a) (hnb : 0 < aNb a) (hκ : κ ≤ 4) (hd : d + 1 ≤ 4) (hS : S < 64) (hp : p ≤ 9) (hL : ChL μ (aTn a) (aOw a) κ d) : Con l g yX8_overSigns cX8_overSigns 8 (some .long) 3 [.ref 65, .int (nI κ), .int (nI (d + 1)), .int (nI S), .int (nI p)] μ (fun r μ' => r = some (.long (lN (suT (aTn a) (aOw a) κ (chT (aTn a) (aOw a) κ d) p (63 - S) 3))) ∧ μ' = μ) := by
  obtain ⟨m1, m2, m3, m4, m5, m6, m7, m8, m9, m10, m11, m12, m13⟩ := id hM
  obtain ⟨o1, o2, o3, o4, o5, ⟨s1, s2, s3, s4⟩, oK, o8, o9, o10⟩ := id hO
  refine Con.of [.ref 65, .int (nI κ), .int (nI (d + 1)), .int (nI S), .int (nI p), .null, .null, .null] 3 (by decide +kernel) (Nat.le_of_ble_eq_true rfl) rfl ?_
  refine V_lconst (pc := 0) (v := 0) dX8_overSigns_0 (by decide) ?_
  refine V_lstore5 (pc := 1) dX8_overSigns_1 (by decide) rfl ?_
  refine V_iconst (pc := 3) (v := 0) dX8_overSigns_3 (by decide) ?_
  refine V_istore7 (pc := 4) dX8_overSigns_4 (by decide) rfl ?_
  have loopA : ∀ (nA s : Nat) (u : Int64), s ≤ 3 → 3 < s + nA → (u = lN (suT (aTn a) (aOw a) κ (chT (aTn a) (aOw a) κ d) p (63 - S) s)) → V l g RX8 cX8_overSigns 8 (some .long) 3 6 [.ref 65, .int (nI κ), .int (nI (d + 1)), .int (nI S), .int (nI p), .long u, .null, .int (nI s)] [] μ (fun r μ' => r = some (.long (lN (suT (aTn a) (aOw a) κ (chT (aTn a) (aOw a) κ d) p (63 - S) 3))) ∧ μ' = μ) := by
    intro nA
    induction nA with
    | zero => intro s u h1 h2; exact absurd h2 (by omega)
    | succ nA ihA =>
      intro s u hleA hfuA hu
      refine V_iload (pc := 6) dX8_overSigns_6 rfl ?_
      refine V_iconst (pc := 8) (v := 3) dX8_overSigns_8 (by decide) ?_
      refine V_icmpge (pc := 9) (tgt := 45) dX8_overSigns_9 (by decide) (fun h9 => ?_) (fun h9 => ?_)
      · have h9 := (nI_leI (a := 3) (b := s) (by decide) (by omega)).mp h9; obtain rfl : s = 3 := by omega
        refine V_lload (pc := 45) dX8_overSigns_45 rfl ?_
        refine V_lret (pc := 47) dX8_overSigns_47 rfl ?_
        exact ⟨by rw [hu], rfl⟩
      have hlt : s < 3 := nI_l3 (a := 3) (by decide) (by omega) h9
      refine V_lload (pc := 12) dX8_overSigns_12 rfl ?_
      refine V_aload_n (pc := 14) dX8_overSigns_14 rfl rfl ?_
      refine V_iload_n (pc := 15) dX8_overSigns_15 rfl rfl ?_
      refine V_iload_n (pc := 16) dX8_overSigns_16 rfl rfl ?_
      refine V_iload_n (pc := 17) dX8_overSigns_17 rfl rfl ?_
      refine V_iload (pc := 18) dX8_overSigns_18 rfl ?_
      refine V_iload (pc := 20) dX8_overSigns_20 rfl ?_
      refine V_aload_n (pc := 22) dX8_overSigns_22 rfl rfl ?_
      refine V_iload_n (pc := 23) dX8_overSigns_23 rfl rfl ?_
      refine V_iload_n (pc := 24) dX8_overSigns_24 rfl rfl ?_
      refine V_iload_n (pc := 25) dX8_overSigns_25 rfl rfl ?_
      refine V_iload (pc := 26) dX8_overSigns_26 rfl ?_
      refine V_iload (pc := 28) dX8_overSigns_28 rfl ?_
      refine V_inv5 (pc := 30) (ci := 8) dX8_overSigns_30 ml_X8_197 (by decide) rfl ⟨by decide, rfl⟩ (by first | decide | omega) (Nat.le_of_ble_eq_true rfl) (c_X8_bestCall μ hO hM hnb hκ hd hS hp hL hlt) ?_
      rintro _ μ2 ⟨rfl, hμ⟩
      obtain rfl := hμ.symm
      refine V_inv6 (pc := 33) (ci := 8) dX8_overSigns_33 ml_X8_185 (by decide) rfl ⟨by decide, rfl⟩ (by first | decide | omega) (Nat.le_of_ble_eq_true rfl) (c_X8_chanceBy μ hO hM hnb hκ hd hS hp hL hlt (beT_snd 6).2) ?_
      rintro _ μ2 ⟨rfl, hμ⟩
      obtain rfl := hμ.symm
      refine V_ladd (pc := 36) dX8_overSigns_36 ?_
      refine V_lstore5 (pc := 37) dX8_overSigns_37 (by decide) rfl ?_
      refine V_iinc7 (pc := 39) (v := nI (s + 1)) dX8_overSigns_39 (nI_1 s) (by decide) rfl ?_
      refine V_goto (pc := 42) (tgt := 6) dX8_overSigns_42 (by decide) ?_
      exact ihA (s + 1) _ (by omega) (by omega) (by rw [hu, lN_add]; rfl)
  exact loopA (3 + 1) 0 _ (by omega) (by omega) rfl
theorem dX8_layChances_0 : decode cX8_layChances 0 = .ok (.lconst 1, 1) := by decide +kernel
theorem dX8_layChances_1 : decode cX8_layChances 1 = .ok (.lstore_n 3, 1) := by decide +kernel
theorem dX8_layChances_2 : decode cX8_layChances 2 = .ok (.iconst 0, 1) := by decide +kernel
theorem dX8_layChances_3 : decode cX8_layChances 3 = .ok (.istore 5, 2) := by decide +kernel
theorem dX8_layChances_5 : decode cX8_layChances 5 = .ok (.iload 5, 2) := by decide +kernel
theorem dX8_layChances_7 : decode cX8_layChances 7 = .ok (.iload_n 2, 1) := by decide +kernel
theorem dX8_layChances_8 : decode cX8_layChances 8 = .ok (.if_icmp .gt 92, 3) := by decide +kernel
theorem dX8_layChances_11 : decode cX8_layChances 11 = .ok (.iconst 0, 1) := by decide +kernel
theorem dX8_layChances_12 : decode cX8_layChances 12 = .ok (.istore 6, 2) := by decide +kernel
theorem dX8_layChances_14 : decode cX8_layChances 14 = .ok (.iload 6, 2) := by decide +kernel
theorem dX8_layChances_16 : decode cX8_layChances 16 = .ok (.bipush 64, 2) := by decide +kernel
theorem dX8_layChances_18 : decode cX8_layChances 18 = .ok (.if_icmp .ge 70, 3) := by decide +kernel
theorem dX8_layChances_21 : decode cX8_layChances 21 = .ok (.iconst 0, 1) := by decide +kernel
theorem dX8_layChances_22 : decode cX8_layChances 22 = .ok (.istore 7, 2) := by decide +kernel
theorem dX8_layChances_24 : decode cX8_layChances 24 = .ok (.iload 7, 2) := by decide +kernel
theorem dX8_layChances_26 : decode cX8_layChances 26 = .ok (.bipush 10, 2) := by decide +kernel
theorem dX8_layChances_28 : decode cX8_layChances 28 = .ok (.if_icmp .ge 54, 3) := by decide +kernel
theorem dX8_layChances_31 : decode cX8_layChances 31 = .ok (.aload_n 0, 1) := by decide +kernel
theorem dX8_layChances_32 : decode cX8_layChances 32 = .ok (.getfield 51, 3) := by decide +kernel
theorem dX8_layChances_35 : decode cX8_layChances 35 = .ok (.iload 5, 2) := by decide +kernel
theorem dX8_layChances_37 : decode cX8_layChances 37 = .ok (.iload 6, 2) := by decide +kernel
theorem dX8_layChances_39 : decode cX8_layChances 39 = .ok (.iload 7, 2) := by decide +kernel
theorem dX8_layChances_41 : decode cX8_layChances 41 = .ok (.invokestatic 182, 3) := by decide +kernel
theorem dX8_layChances_44 : decode cX8_layChances 44 = .ok (.iload 7, 2) := by decide +kernel
theorem dX8_layChances_46 : decode cX8_layChances 46 = .ok (.bipush 9, 2) := by decide +kernel
theorem dX8_layChances_48 : decode cX8_layChances 48 = .ok (.if_icmp .ne 7, 3) := by decide +kernel
theorem dX8_layChances_51 : decode cX8_layChances 51 = .ok (.lload_n 3, 1) := by decide +kernel
theorem dX8_layChances_52 : decode cX8_layChances 52 = .ok (.goto 23, 3) := by decide +kernel
theorem dX8_layChances_55 : decode cX8_layChances 55 = .ok (.iload 5, 2) := by decide +kernel
theorem dX8_layChances_57 : decode cX8_layChances 57 = .ok (.ifCond .ne 7, 3) := by decide +kernel
theorem dX8_layChances_60 : decode cX8_layChances 60 = .ok (.lconst 0, 1) := by decide +kernel
theorem dX8_layChances_61 : decode cX8_layChances 61 = .ok (.goto 14, 3) := by decide +kernel
theorem dX8_layChances_64 : decode cX8_layChances 64 = .ok (.aload_n 0, 1) := by decide +kernel
theorem dX8_layChances_65 : decode cX8_layChances 65 = .ok (.iload_n 1, 1) := by decide +kernel
theorem dX8_layChances_66 : decode cX8_layChances 66 = .ok (.iload 5, 2) := by decide +kernel
theorem dX8_layChances_68 : decode cX8_layChances 68 = .ok (.iload 6, 2) := by decide +kernel
theorem dX8_layChances_70 : decode cX8_layChances 70 = .ok (.iload 7, 2) := by decide +kernel
theorem dX8_layChances_72 : decode cX8_layChances 72 = .ok (.invokevirtual 191, 3) := by decide +kernel
theorem dX8_layChances_75 : decode cX8_layChances 75 = .ok (.lastore, 1) := by decide +kernel
theorem dX8_layChances_76 : decode cX8_layChances 76 = .ok (.iinc 7 1, 3) := by decide +kernel
theorem dX8_layChances_79 : decode cX8_layChances 79 = .ok (.goto (-55), 3) := by decide +kernel
theorem dX8_layChances_82 : decode cX8_layChances 82 = .ok (.iinc 6 1, 3) := by decide +kernel
theorem dX8_layChances_85 : decode cX8_layChances 85 = .ok (.goto (-71), 3) := by decide +kernel
theorem dX8_layChances_88 : decode cX8_layChances 88 = .ok (.lload_n 3, 1) := by decide +kernel
theorem dX8_layChances_89 : decode cX8_layChances 89 = .ok (.ldc2_w 195, 3) := by decide +kernel
theorem dX8_layChances_92 : decode cX8_layChances 92 = .ok (.lmul, 1) := by decide +kernel
theorem dX8_layChances_93 : decode cX8_layChances 93 = .ok (.lstore_n 3, 1) := by decide +kernel
theorem dX8_layChances_94 : decode cX8_layChances 94 = .ok (.iinc 5 1, 3) := by decide +kernel
theorem dX8_layChances_97 : decode cX8_layChances 97 = .ok (.goto (-92), 3) := by decide +kernel
theorem dX8_layChances_100 : decode cX8_layChances 100 = .ok (.return_, 1) := by decide +kernel
set_option maxHeartbeats 4000000 in
set_option maxRecDepth 100000 in
theorem c_X8_layChances {l : Launch} {g : GW} {a : AT} {κ N : Nat} (μ : Mm) (hO : AOK a) (hM : RM μ a) (hnb : 0 < aNb a) (hκ : κ ≤ 4) (hN : N ≤ 4) : Con l g yX8_layChances cX8_layChances 8 none 4 [.ref 65, .int (nI κ), .int (nI N)] μ (fun r μ' => r = none ∧ (∀ e, e ≤ N → ChL μ' (aTn a) (aOw a) κ e) ∧ FrL μ μ') := by
  obtain ⟨m1, m2, m3, m4, m5, m6, m7, m8, m9, m10, m11, m12, m13⟩ := id hM
  obtain ⟨o1, o2, o3, o4, o5, ⟨s1, s2, s3, s4⟩, oK, o8, o9, o10⟩ := id hO
  refine Con.of [.ref 65, .int (nI κ), .int (nI N), .null, .null, .null, .null, .null] 5 (by decide +kernel) (Nat.le_of_ble_eq_true rfl) rfl ?_
  refine V_lconst (pc := 0) (v := 1) dX8_layChances_0 (by decide) ?_
  refine V_lstore3 (pc := 1) dX8_layChances_1 (by decide) rfl ?_
  refine V_iconst (pc := 2) (v := 0) dX8_layChances_2 (by decide) ?_
  refine V_istore5 (pc := 3) dX8_layChances_3 (by decide) rfl ?_
  have loopA : ∀ (nA d : Nat) (μ1 : Mm) (y6 y7 : Value), d ≤ N + 1 → N + 1 < d + nA → (∀ e, e < d → ChL μ1 (aTn a) (aOw a) κ e) → (FrL μ μ1) → V l g RX8 cX8_layChances 8 none 4 5 [.ref 65, .int (nI κ), .int (nI N), .long (lN (30 ^ d)), .null, .int (nI d), y6, y7] [] μ1 (fun r μ' => r = none ∧ (∀ e, e ≤ N → ChL μ' (aTn a) (aOw a) κ e) ∧ FrL μ μ') := by
    intro nA
    induction nA with
    | zero => intro d μ1 y6 y7 h1 h2; exact absurd h2 (by omega)
    | succ nA ihA =>
      intro d μ1 y6 y7 hleA hfuA hv hF
      refine V_iload (pc := 5) dX8_layChances_5 rfl ?_
      refine V_iload_n (pc := 7) dX8_layChances_7 rfl rfl ?_
      refine V_icmpgt (pc := 8) (tgt := 100) dX8_layChances_8 (by decide) (fun h8 => ?_) (fun h8 => ?_)
      · have h8 := (nI_ltI (a := N) (b := d) (by omega) (by omega)).mp h8; obtain rfl : d = N + 1 := by omega
        refine V_vret (pc := 100) dX8_layChances_100 rfl ?_
        exact ⟨rfl, fun e he => hv e (by omega), hF⟩
      have h8 := mt (nI_ltI (a := N) (b := d) (by omega) (by omega)).mpr h8
      refine V_iconst (pc := 11) (v := 0) dX8_layChances_11 (by decide) ?_
      refine V_istore6 (pc := 12) dX8_layChances_12 (by decide) rfl ?_
      have loopB : ∀ (nB S : Nat) (μ2 : Mm) (y7 : Value), S ≤ 64 → 64 < S + nB → (∀ e, e < d → ChL μ2 (aTn a) (aOw a) κ e) → (FrL μ μ2) → (∀ T p, T < S → p ≤ 9 → μ2.2.1 78 (640 * d + 10 * T + p) = lN (chT (aTn a) (aOw a) κ d p (63 - T))) → V l g RX8 cX8_layChances 8 none 4 14 [.ref 65, .int (nI κ), .int (nI N), .long (lN (30 ^ d)), .null, .int (nI d), .int (nI S), y7] [] μ2 (fun r μ' => r = none ∧ (∀ e, e ≤ N → ChL μ' (aTn a) (aOw a) κ e) ∧ FrL μ μ') := by
        intro nB
        induction nB with
        | zero => intro S μ2 y7 h1 h2; exact absurd h2 (by omega)
        | succ nB ihB =>
          intro S μ2 y7 hleB hfuB hv2 hF2 hw2
          refine V_iload (pc := 14) dX8_layChances_14 rfl ?_
          refine V_bipush (pc := 16) (v := 64) dX8_layChances_16 (by decide) ?_
          refine V_icmpge (pc := 18) (tgt := 88) dX8_layChances_18 (by decide) (fun h18 => ?_) (fun h18 => ?_)
          · have h18 := (nI_leI (a := 64) (b := S) (by decide) (by omega)).mp h18; obtain rfl : S = 64 := by omega
            refine V_lload_n (pc := 88) dX8_layChances_88 rfl rfl ?_
            refine V_ldc2 (pc := 89) (v := 30) ct_X8_195 dX8_layChances_89 ?_
            refine V_lmul (pc := 92) dX8_layChances_92 ?_
            rw [show (30 : Int64) = lN 30 from rfl, lN_mul, ← Nat.pow_succ]
            refine V_lstore3 (pc := 93) dX8_layChances_93 (by decide) rfl ?_
            refine V_iinc5 (pc := 94) (v := nI (d + 1)) dX8_layChances_94 (nI_1 d) (by decide) rfl ?_
            refine V_goto (pc := 97) (tgt := 5) dX8_layChances_97 (by decide) ?_
            refine ihA (d + 1) μ2 _ _ (by omega) (by omega) (fun e1 he => ?_) hF2
            by_cases ee : e1 = d
            · rw [ee]; exact fun T q hT hq => hw2 T q hT hq
            · exact hv2 e1 (by omega)
          have hlt : S < 64 := nI_l3 (a := 64) (by decide) (by omega) h18
          refine V_iconst (pc := 21) (v := 0) dX8_layChances_21 (by decide) ?_
          refine V_istore7 (pc := 22) dX8_layChances_22 (by decide) rfl ?_
          have loopC : ∀ (nC p : Nat) (μ3 : Mm), p ≤ 10 → 10 < p + nC → (∀ e, e < d → ChL μ3 (aTn a) (aOw a) κ e) → (FrL μ μ3) → (∀ T p, T < S → p ≤ 9 → μ3.2.1 78 (640 * d + 10 * T + p) = lN (chT (aTn a) (aOw a) κ d p (63 - T))) → (∀ q, q < p → μ3.2.1 78 (640 * d + 10 * S + q) = lN (chT (aTn a) (aOw a) κ d q (63 - S))) → V l g RX8 cX8_layChances 8 none 4 24 [.ref 65, .int (nI κ), .int (nI N), .long (lN (30 ^ d)), .null, .int (nI d), .int (nI S), .int (nI p)] [] μ3 (fun r μ' => r = none ∧ (∀ e, e ≤ N → ChL μ' (aTn a) (aOw a) κ e) ∧ FrL μ μ') := by
            intro nC
            induction nC with
            | zero => intro p μ3 h1 h2; exact absurd h2 (by omega)
            | succ nC ihC =>
              intro p μ3 hleC hfuC hv3 hF3 hw3 hz3
              refine V_iload (pc := 24) dX8_layChances_24 rfl ?_
              refine V_bipush (pc := 26) (v := 10) dX8_layChances_26 (by decide) ?_
              refine V_icmpge (pc := 28) (tgt := 82) dX8_layChances_28 (by decide) (fun h28 => ?_) (fun h28 => ?_)
              · have h28 := (nI_leI (a := 10) (b := p) (by decide) (by omega)).mp h28; obtain rfl : p = 10 := by omega
                refine V_iinc6 (pc := 82) (v := nI (S + 1)) dX8_layChances_82 (nI_1 S) (by decide) rfl ?_
                refine V_goto (pc := 85) (tgt := 14) dX8_layChances_85 (by decide) ?_
                exact ihB (S + 1) μ3 _ (by omega) (by omega) hv3 hF3 (fun T q hT hq => by
                  by_cases eT : T = S
                  · rw [eT]; exact hz3 q (by omega)
                  · exact hw3 T q (by omega) hq)
              have hlt : p < 10 := nI_l3 (a := 10) (by decide) (by omega) h28
              refine V_aload_n (pc := 31) dX8_layChances_31 rfl rfl ?_
              refine V_getR (pc := 32) (ci := 8) (j := 26) (k2 := 78) dX8_layChances_32 fl_X8_51 (fun _ _ _ _ => rfl) (by decide) rfl (rf_8_26 rfl) ?_
              refine V_iload (pc := 35) dX8_layChances_35 rfl ?_
              refine V_iload (pc := 37) dX8_layChances_37 rfl ?_
              refine V_iload (pc := 39) dX8_layChances_39 rfl ?_
              refine V_ins3 (pc := 41) dX8_layChances_41 ml_X8_182 (by first | decide | omega) (Nat.le_of_ble_eq_true rfl) (c_X8_at μ3) ?_
              rintro _ μ2 ⟨rfl, hμ⟩
              obtain rfl := hμ.symm
              refine V_iload (pc := 44) dX8_layChances_44 rfl ?_
              refine V_bipush (pc := 46) (v := 9) dX8_layChances_46 (by decide) ?_
              refine V_icmpne (pc := 48) (tgt := 55) dX8_layChances_48 (by decide) (fun h48 => ?_) (fun h48 => ?_)
              · have h48 := mt (nI_eq (a := p) (b := 9) (by omega) (by omega)).mpr h48
                refine V_iload (pc := 55) dX8_layChances_55 rfl ?_
                refine V_ifne (pc := 57) (tgt := 64) dX8_layChances_57 (by decide) (fun h57 => ?_) (fun h57 => ?_)
                · have h57 := mt (nI_eq (a := d) (b := 0) (by omega) (by omega)).mpr h57; obtain ⟨e, rfl⟩ : ∃ e, d = e + 1 := ⟨d - 1, by omega⟩
                  refine V_aload_n (pc := 64) dX8_layChances_64 rfl rfl ?_
                  refine V_iload_n (pc := 65) dX8_layChances_65 rfl rfl ?_
                  refine V_iload (pc := 66) dX8_layChances_66 rfl ?_
                  refine V_iload (pc := 68) dX8_layChances_68 rfl ?_
                  refine V_iload (pc := 70) dX8_layChances_70 rfl ?_
                  refine V_inv4 (pc := 72) (ci := 8) dX8_layChances_72 ml_X8_191 (by decide) rfl ⟨by decide, rfl⟩ (by first | decide | omega) (Nat.le_of_ble_eq_true rfl) (c_X8_overSigns (d := e) μ3 hO (hM.ofI hF3.1) hnb hκ (by omega) (show S < 64 by omega) (by omega) (hv3 e (by omega))) ?_
                  rintro _ μ2 ⟨rfl, hμ⟩
                  obtain rfl := hμ.symm
                  refine V_last (pc := 75) (j := (640 * (e + 1) + 10 * S + p)) dX8_layChances_75 (by decide) rfl rfl (by show _ < 3200; omega) ?_
                  refine V_iinc7 (pc := 76) (v := nI (p + 1)) dX8_layChances_76 (nI_1 p) (by decide) rfl ?_
                  refine V_goto (pc := 79) (tgt := 24) dX8_layChances_79 (by decide) ?_
                  refine ihC (p + 1) _ (by omega) (by omega) (fun e1 he T q hT hq => by rw [getl_ne (by omega)]; exact hv3 e1 he T q hT hq) hF3.set (fun T q hT hq => by rw [getl_ne (by omega)]; exact hw3 T q hT hq) (fun q hq => ?_)
                  by_cases eq : q = p
                  · rw [eq, getl_eq]; simp only [chT]; rw [if_neg h48]
                  · rw [getl_ne (by omega)]; exact hz3 q (by omega)
                have h57 := (nI_eq (a := d) (b := 0) (by omega) (by omega)).mp h57
                refine V_lconst (pc := 60) (v := 0) dX8_layChances_60 (by decide) ?_
                refine V_goto (pc := 61) (tgt := 75) dX8_layChances_61 (by decide) ?_
                refine V_last (pc := 75) (j := (640 * d + 10 * S + p)) dX8_layChances_75 (by decide) rfl rfl (by show _ < 3200; omega) ?_
                refine V_iinc7 (pc := 76) (v := nI (p + 1)) dX8_layChances_76 (nI_1 p) (by decide) rfl ?_
                refine V_goto (pc := 79) (tgt := 24) dX8_layChances_79 (by decide) ?_
                refine ihC (p + 1) _ (by omega) (by omega) (fun e1 he T q hT hq => by rw [getl_ne (by omega)]; exact hv3 e1 he T q hT hq) hF3.set (fun T q hT hq => by rw [getl_ne (by omega)]; exact hw3 T q hT hq) (fun q hq => ?_)
                by_cases eq : q = p
                · rw [eq, getl_eq]; rw [h57]; simp only [chT]; rw [if_neg h48]; rfl
                · rw [getl_ne (by omega)]; exact hz3 q (by omega)
              have h48 := (nI_eq (a := p) (b := 9) (by omega) (by omega)).mp h48
              refine V_lload_n (pc := 51) dX8_layChances_51 rfl rfl ?_
              refine V_goto (pc := 52) (tgt := 75) dX8_layChances_52 (by decide) ?_
              refine V_last (pc := 75) (j := (640 * d + 10 * S + p)) dX8_layChances_75 (by decide) rfl rfl (by show _ < 3200; omega) ?_
              refine V_iinc7 (pc := 76) (v := nI (p + 1)) dX8_layChances_76 (nI_1 p) (by decide) rfl ?_
              refine V_goto (pc := 79) (tgt := 24) dX8_layChances_79 (by decide) ?_
              refine ihC (p + 1) _ (by omega) (by omega) (fun e1 he T q hT hq => by rw [getl_ne (by omega)]; exact hv3 e1 he T q hT hq) hF3.set (fun T q hT hq => by rw [getl_ne (by omega)]; exact hw3 T q hT hq) (fun q hq => ?_)
              by_cases eq : q = p
              · rw [eq, getl_eq]; rw [h48, chT9]
              · rw [getl_ne (by omega)]; exact hz3 q (by omega)
          exact loopC (10 + 1) 0 _ (by omega) (by omega) hv2 hF2 hw2 (fun q hq => absurd hq (by omega))
      exact loopB (64 + 1) 0 _ _ (by omega) (by omega) hv hF (fun T p hT => absurd hT (by omega))
  exact loopA (N + 1 + 1) 0 _ _ _ (by omega) (by omega) (fun e he => absurd he (by omega)) FrL.rf
theorem dX8_likelyNow_0 : decode cX8_likelyNow 0 = .ok (.aload_n 0, 1) := by decide +kernel
theorem dX8_likelyNow_1 : decode cX8_likelyNow 1 = .ok (.aload_n 0, 1) := by decide +kernel
theorem dX8_likelyNow_2 : decode cX8_likelyNow 2 = .ok (.getfield 16, 3) := by decide +kernel
theorem dX8_likelyNow_5 : decode cX8_likelyNow 5 = .ok (.iload_n 1, 1) := by decide +kernel
theorem dX8_likelyNow_6 : decode cX8_likelyNow 6 = .ok (.iaload, 1) := by decide +kernel
theorem dX8_likelyNow_7 : decode cX8_likelyNow 7 = .ok (.iload_n 2, 1) := by decide +kernel
theorem dX8_likelyNow_8 : decode cX8_likelyNow 8 = .ok (.invokevirtual 201, 3) := by decide +kernel
theorem dX8_likelyNow_11 : decode cX8_likelyNow 11 = .ok (.aload_n 0, 1) := by decide +kernel
theorem dX8_likelyNow_12 : decode cX8_likelyNow 12 = .ok (.getfield 51, 3) := by decide +kernel
theorem dX8_likelyNow_15 : decode cX8_likelyNow 15 = .ok (.iload_n 2, 1) := by decide +kernel
theorem dX8_likelyNow_16 : decode cX8_likelyNow 16 = .ok (.aload_n 0, 1) := by decide +kernel
theorem dX8_likelyNow_17 : decode cX8_likelyNow 17 = .ok (.getfield 132, 3) := by decide +kernel
theorem dX8_likelyNow_20 : decode cX8_likelyNow 20 = .ok (.aload_n 0, 1) := by decide +kernel
theorem dX8_likelyNow_21 : decode cX8_likelyNow 21 = .ok (.getfield 19, 3) := by decide +kernel
theorem dX8_likelyNow_24 : decode cX8_likelyNow 24 = .ok (.iload_n 1, 1) := by decide +kernel
theorem dX8_likelyNow_25 : decode cX8_likelyNow 25 = .ok (.iaload, 1) := by decide +kernel
theorem dX8_likelyNow_26 : decode cX8_likelyNow 26 = .ok (.invokestatic 182, 3) := by decide +kernel
theorem dX8_likelyNow_29 : decode cX8_likelyNow 29 = .ok (.laload, 1) := by decide +kernel
theorem dX8_likelyNow_30 : decode cX8_likelyNow 30 = .ok (.iload_n 2, 1) := by decide +kernel
theorem dX8_likelyNow_31 : decode cX8_likelyNow 31 = .ok (.invokestatic 204, 3) := by decide +kernel
theorem dX8_likelyNow_34 : decode cX8_likelyNow 34 = .ok (.iload_n 3, 1) := by decide +kernel
theorem dX8_likelyNow_35 : decode cX8_likelyNow 35 = .ok (.invokestatic 208, 3) := by decide +kernel
theorem dX8_likelyNow_38 : decode cX8_likelyNow 38 = .ok (.lreturn, 1) := by decide +kernel
set_option maxHeartbeats 4000000 in
set_option maxRecDepth 100000 in
theorem c_X8_likelyNow {l : Launch} {g : GW} {a : AT} {i d : Nat} {z : Int32} (μ : Mm) (hO : AOK a) (hM : RM μ a) (hnb : 0 < aNb a) (hi : i < sN (aS a)) (hd : d + 1 ≤ 4) : Con l g yX8_likelyNow cX8_likelyNow 4 (some .long) 5 [.ref 65, .int (nI i), .int (nI (d + 1)), .int z] μ (fun r μ' => r = some (.long (lN ((if z = 0 then chT (aTn a) (aOw a) (sK (aS a) i) (d + 1) (sP (aS a) i) (63 - sS (aS a)) else 30 ^ (d + 1)) / Nat.gcd (chT (aTn a) (aOw a) (sK (aS a) i) (d + 1) (sP (aS a) i) (63 - sS (aS a))) (30 ^ (d + 1))))) ∧ FrL μ μ') := by
  obtain ⟨m1, m2, m3, m4, m5, m6, m7, m8, m9, m10, m11, m12, m13⟩ := id hM
  obtain ⟨o1, o2, o3, o4, o5, ⟨s1, s2, s3, s4⟩, oK, o8, o9, o10⟩ := id hO
  obtain ⟨n1, n2, n3, n4, n5⟩ := m6 i hi
  obtain ⟨k4, p9, c6⟩ := s4 i (by omega)
  refine Con.of [.ref 65, .int (nI i), .int (nI (d + 1)), .int z] 0 (by decide +kernel) (Nat.le_of_ble_eq_true rfl) rfl ?_
  refine V_aload_n (pc := 0) dX8_likelyNow_0 rfl rfl ?_
  refine V_aload_n (pc := 1) dX8_likelyNow_1 rfl rfl ?_
  refine V_getR (pc := 2) (ci := 8) (j := 6) (k2 := 68) dX8_likelyNow_2 fl_X8_16 (fun _ _ _ _ => rfl) (by decide) rfl (rf_8_6 rfl) ?_
  refine V_iload_n (pc := 5) dX8_likelyNow_5 rfl rfl ?_
  refine V_iald (pc := 6) (j := i) dX8_likelyNow_6 (by decide) rfl rfl (by show i < 6; omega) ?_
  rw [n1]
  refine V_iload_n (pc := 7) dX8_likelyNow_7 rfl rfl ?_
  refine V_inv2 (pc := 8) (ci := 8) dX8_likelyNow_8 ml_X8_201 (by decide) rfl ⟨by decide, rfl⟩ (by first | decide | omega) (Nat.le_of_ble_eq_true rfl) (c_X8_layChances μ hO hM hnb k4 hd) ?_
  rintro _ μ1 ⟨rfl, q1, q2⟩
  refine V_aload_n (pc := 11) dX8_likelyNow_11 rfl rfl ?_
  refine V_getR (pc := 12) (ci := 8) (j := 26) (k2 := 78) dX8_likelyNow_12 fl_X8_51 (fun _ _ _ _ => rfl) (by decide) rfl (rf_8_26 rfl) ?_
  refine V_iload_n (pc := 15) dX8_likelyNow_15 rfl rfl ?_
  refine V_aload_n (pc := 16) dX8_likelyNow_16 rfl rfl ?_
  refine V_getI (pc := 17) (ci := 8) (j := 11) dX8_likelyNow_17 fl_X8_132 (fun _ _ _ _ => rfl) (by decide) rfl ?_
  rw [show μ1.1 65 11 = nI (sS (aS a)) from by rw [q2.1]; exact m7]
  refine V_aload_n (pc := 20) dX8_likelyNow_20 rfl rfl ?_
  refine V_getR (pc := 21) (ci := 8) (j := 7) (k2 := 69) dX8_likelyNow_21 fl_X8_19 (fun _ _ _ _ => rfl) (by decide) rfl (rf_8_7 rfl) ?_
  refine V_iload_n (pc := 24) dX8_likelyNow_24 rfl rfl ?_
  refine V_iald (pc := 25) (j := i) dX8_likelyNow_25 (by decide) rfl rfl (by show i < 6; omega) ?_
  rw [show μ1.1 69 i = nI (sP (aS a) i) from by rw [q2.1]; exact n2]
  refine V_ins3 (pc := 26) dX8_likelyNow_26 ml_X8_182 (by first | decide | omega) (Nat.le_of_ble_eq_true rfl) (c_X8_at μ1) ?_
  rintro _ μ2 ⟨rfl, hμ⟩
  obtain rfl := hμ.symm
  refine V_lald (pc := 29) (j := (640 * (d + 1) + 10 * sS (aS a) + sP (aS a) i)) dX8_likelyNow_29 (by decide) rfl rfl (by show _ < 3200; omega) ?_
  rw [q1 (d + 1) (Nat.le_refl _) (sS (aS a)) (sP (aS a) i) s2 p9]
  refine V_iload_n (pc := 30) dX8_likelyNow_30 rfl rfl ?_
  refine V_ins1 (pc := 31) dX8_likelyNow_31 ml_X8_204 (by first | decide | omega) (Nat.le_of_ble_eq_true rfl) (c_X8_power μ1 (show d + 1 ≤ 6 by omega)) ?_
  rintro _ μ2 ⟨rfl, hμ⟩
  obtain rfl := hμ.symm
  refine V_iload_n (pc := 34) dX8_likelyNow_34 rfl rfl ?_
  refine V_ins3 (pc := 35) dX8_likelyNow_35 ml_X8_208 (by first | decide | omega) (Nat.le_of_ble_eq_true rfl) (c_X8_lowest μ1 (by have := chT_le (ow := aOw a) (κ := sK (aS a) i) o4 (d + 1) (sP (aS a) i) (63 - sS (aS a)); have := p30 (d := d + 1) hd; omega) (by have := p30 (d := d + 1) hd; omega) (Nat.pow_pos (by decide))) ?_
  rintro _ μ2 ⟨rfl, hμ⟩
  obtain rfl := hμ.symm
  refine V_lret (pc := 38) dX8_likelyNow_38 rfl ?_
  exact ⟨rfl, q2⟩
theorem dX8_likely_0 : decode cX8_likely 0 = .ok (.aload_n 0, 1) := by decide +kernel
theorem dX8_likely_1 : decode cX8_likely 1 = .ok (.iload_n 1, 1) := by decide +kernel
theorem dX8_likely_2 : decode cX8_likely 2 = .ok (.invokevirtual 150, 3) := by decide +kernel
theorem dX8_likely_5 : decode cX8_likely 5 = .ok (.ifCond .ne 7, 3) := by decide +kernel
theorem dX8_likely_8 : decode cX8_likely 8 = .ok (.ldc2_w 212, 3) := by decide +kernel
theorem dX8_likely_11 : decode cX8_likely 11 = .ok (.lreturn, 1) := by decide +kernel
theorem dX8_likely_12 : decode cX8_likely 12 = .ok (.iload_n 2, 1) := by decide +kernel
theorem dX8_likely_13 : decode cX8_likely 13 = .ok (.iconst 1, 1) := by decide +kernel
theorem dX8_likely_14 : decode cX8_likely 14 = .ok (.iconst 4, 1) := by decide +kernel
theorem dX8_likely_15 : decode cX8_likely 15 = .ok (.invokestatic 88, 3) := by decide +kernel
theorem dX8_likely_18 : decode cX8_likely 18 = .ok (.ifCond .eq 22, 3) := by decide +kernel
theorem dX8_likely_21 : decode cX8_likely 21 = .ok (.iload_n 3, 1) := by decide +kernel
theorem dX8_likely_22 : decode cX8_likely 22 = .ok (.iconst 0, 1) := by decide +kernel
theorem dX8_likely_23 : decode cX8_likely 23 = .ok (.iconst 1, 1) := by decide +kernel
theorem dX8_likely_24 : decode cX8_likely 24 = .ok (.invokestatic 88, 3) := by decide +kernel
theorem dX8_likely_27 : decode cX8_likely 27 = .ok (.ifCond .eq 13, 3) := by decide +kernel
theorem dX8_likely_30 : decode cX8_likely 30 = .ok (.aload_n 0, 1) := by decide +kernel
theorem dX8_likely_31 : decode cX8_likely 31 = .ok (.iload_n 1, 1) := by decide +kernel
theorem dX8_likely_32 : decode cX8_likely 32 = .ok (.iload_n 2, 1) := by decide +kernel
theorem dX8_likely_33 : decode cX8_likely 33 = .ok (.iload_n 3, 1) := by decide +kernel
theorem dX8_likely_34 : decode cX8_likely 34 = .ok (.invokevirtual 214, 3) := by decide +kernel
theorem dX8_likely_37 : decode cX8_likely 37 = .ok (.goto 6, 3) := by decide +kernel
theorem dX8_likely_40 : decode cX8_likely 40 = .ok (.ldc2_w 218, 3) := by decide +kernel
theorem dX8_likely_43 : decode cX8_likely 43 = .ok (.lreturn, 1) := by decide +kernel
set_option maxHeartbeats 4000000 in
set_option maxRecDepth 100000 in
theorem c_X8_likely {l : Launch} {g : GW} {a : AT} {x y z : Int32} (μ : Mm) (hO : AOK a) (hM : RM μ a) (hJ : AJ a) : Con l g yX8_likely cX8_likely 4 (some .long) 6 [.ref 65, .int x, .int y, .int z] μ (fun r μ' => r = some (.long (fLikely a x y z)) ∧ RM μ' a ∧ FrX μ μ') := by
  obtain ⟨m1, m2, m3, m4, m5, m6, m7, m8, m9, m10, m11, m12, m13⟩ := id hM
  obtain ⟨o1, o2, o3, o4, o5, ⟨s1, s2, s3, s4⟩, oK, o8, o9, o10⟩ := id hO
  refine Con.of [.ref 65, .int x, .int y, .int z] 0 (by decide +kernel) (Nat.le_of_ble_eq_true rfl) rfl ?_
  refine V_aload_n (pc := 0) dX8_likely_0 rfl rfl ?_
  refine V_iload_n (pc := 1) dX8_likely_1 rfl rfl ?_
  refine V_inv1 (pc := 2) (ci := 8) dX8_likely_2 ml_X8_150 (by decide) rfl ⟨by decide, rfl⟩ (by first | decide | omega) (Nat.le_of_ble_eq_true rfl) (c_X8_isShip μ hO hM) ?_
  rintro _ μ2 ⟨rfl, hμ⟩
  obtain rfl := hμ.symm
  refine V_ifne (pc := 5) (tgt := 12) dX8_likely_5 (by decide) (fun h5 => ?_) (fun h5 => ?_)
  · have h5 := bI_ne h5; obtain ⟨i, hi, rfl⟩ := inN_of (by omega) h5; have hnb : 0 < aNb a := by rcases Nat.eq_zero_or_pos (aNb a) with q | q; have := (hJ.1 q).1; omega; exact q
    refine V_iload_n (pc := 12) dX8_likely_12 rfl rfl ?_
    refine V_iconst (pc := 13) (v := 1) dX8_likely_13 (by decide) ?_
    refine V_iconst (pc := 14) (v := 4) dX8_likely_14 (by decide) ?_
    refine V_ins3 (pc := 15) dX8_likely_15 ml_X8_88 (by first | decide | omega) (Nat.le_of_ble_eq_true rfl) (c_X8_within μ) ?_
    rintro _ μ2 ⟨rfl, hμ⟩
    obtain rfl := hμ.symm
    rw [inW_D (n := 4) (by decide)]
    refine V_ifeq (pc := 18) (tgt := 40) dX8_likely_18 (by decide) (fun h18 => ?_) (fun h18 => ?_)
    · have h18 := bI_e h18
      refine V_ldc2 (pc := 40) (v := (-102)) ct_X8_218 dX8_likely_40 ?_
      refine V_lret (pc := 43) dX8_likely_43 rfl ?_
      first
      | (refine ⟨congrArg (fun z => some (Value.long z)) ?_, hM.ofI q2.1, q2.X⟩; simp only [fLikely, h5, h18, h27, Bool.and_self, if_true, nn_nI (j := i) (by omega), nn_nI (j := d + 1) (by omega)]; done)
      | (refine ⟨congrArg (fun z => some (Value.long z)) ?_, hM, FrX.rf⟩; simp [fLikely, h5, h18]; done)
      | (refine ⟨congrArg (fun z => some (Value.long z)) ?_, hM, FrX.rf⟩; simp [fLikely, h5, h18, h27]; done)
    have h18 := bI_ne h18; obtain ⟨d, hd, rfl⟩ := inD_of (by decide) h18
    refine V_iload_n (pc := 21) dX8_likely_21 rfl rfl ?_
    refine V_iconst (pc := 22) (v := 0) dX8_likely_22 (by decide) ?_
    refine V_iconst (pc := 23) (v := 1) dX8_likely_23 (by decide) ?_
    refine V_ins3 (pc := 24) dX8_likely_24 ml_X8_88 (by first | decide | omega) (Nat.le_of_ble_eq_true rfl) (c_X8_within μ) ?_
    rintro _ μ2 ⟨rfl, hμ⟩
    obtain rfl := hμ.symm
    rw [inW_P]
    refine V_ifeq (pc := 27) (tgt := 40) dX8_likely_27 (by decide) (fun h27 => ?_) (fun h27 => ?_)
    · have h27 := bI_e h27
      refine V_ldc2 (pc := 40) (v := (-102)) ct_X8_218 dX8_likely_40 ?_
      refine V_lret (pc := 43) dX8_likely_43 rfl ?_
      first
      | (refine ⟨congrArg (fun z => some (Value.long z)) ?_, hM.ofI q2.1, q2.X⟩; simp only [fLikely, h5, h18, h27, Bool.and_self, if_true, nn_nI (j := i) (by omega), nn_nI (j := d + 1) (by omega)]; done)
      | (refine ⟨congrArg (fun z => some (Value.long z)) ?_, hM, FrX.rf⟩; simp [fLikely, h5, h18]; done)
      | (refine ⟨congrArg (fun z => some (Value.long z)) ?_, hM, FrX.rf⟩; simp [fLikely, h5, h18, h27]; done)
    have h27 := bI_ne h27
    refine V_aload_n (pc := 30) dX8_likely_30 rfl rfl ?_
    refine V_iload_n (pc := 31) dX8_likely_31 rfl rfl ?_
    refine V_iload_n (pc := 32) dX8_likely_32 rfl rfl ?_
    refine V_iload_n (pc := 33) dX8_likely_33 rfl rfl ?_
    refine V_inv3 (pc := 34) (ci := 8) dX8_likely_34 ml_X8_214 (by decide) rfl ⟨by decide, rfl⟩ (by first | decide | omega) (Nat.le_of_ble_eq_true rfl) (c_X8_likelyNow μ hO hM hnb hi hd) ?_
    rintro _ μ1 ⟨rfl, q2⟩
    refine V_goto (pc := 37) (tgt := 43) dX8_likely_37 (by decide) ?_
    refine V_lret (pc := 43) dX8_likely_43 rfl ?_
    first
    | (refine ⟨congrArg (fun z => some (Value.long z)) ?_, hM.ofI q2.1, q2.X⟩; simp only [fLikely, h5, h18, h27, Bool.and_self, if_true, nn_nI (j := i) (by omega), nn_nI (j := d + 1) (by omega)]; done)
    | (refine ⟨congrArg (fun z => some (Value.long z)) ?_, hM, FrX.rf⟩; simp [fLikely, h5, h18]; done)
    | (refine ⟨congrArg (fun z => some (Value.long z)) ?_, hM, FrX.rf⟩; simp [fLikely, h5, h18, h27]; done)
  have h5 := bI_e h5
  refine V_ldc2 (pc := 8) (v := (-101)) ct_X8_212 dX8_likely_8 ?_
  refine V_lret (pc := 11) dX8_likely_11 rfl ?_
  refine ⟨congrArg (fun z => some (Value.long z)) ?_, hM, FrX.rf⟩
  simp [fLikely, h5]
theorem dX8_what_0 : decode cX8_what 0 = .ok (.aload_n 0, 1) := by decide +kernel
theorem dX8_what_1 : decode cX8_what 1 = .ok (.iload_n 1, 1) := by decide +kernel
theorem dX8_what_2 : decode cX8_what 2 = .ok (.invokevirtual 150, 3) := by decide +kernel
theorem dX8_what_5 : decode cX8_what 5 = .ok (.ifCond .eq 12, 3) := by decide +kernel
theorem dX8_what_8 : decode cX8_what 8 = .ok (.iload_n 2, 1) := by decide +kernel
theorem dX8_what_9 : decode cX8_what 9 = .ok (.iconst 0, 1) := by decide +kernel
theorem dX8_what_10 : decode cX8_what 10 = .ok (.iconst 2, 1) := by decide +kernel
theorem dX8_what_11 : decode cX8_what 11 = .ok (.invokestatic 88, 3) := by decide +kernel
theorem dX8_what_14 : decode cX8_what 14 = .ok (.ifCond .ne 6, 3) := by decide +kernel
theorem dX8_what_17 : decode cX8_what 17 = .ok (.bipush (-101), 2) := by decide +kernel
theorem dX8_what_19 : decode cX8_what 19 = .ok (.ireturn, 1) := by decide +kernel
theorem dX8_what_20 : decode cX8_what 20 = .ok (.iload_n 3, 1) := by decide +kernel
theorem dX8_what_21 : decode cX8_what 21 = .ok (.iconst 1, 1) := by decide +kernel
theorem dX8_what_22 : decode cX8_what 22 = .ok (.iconst 4, 1) := by decide +kernel
theorem dX8_what_23 : decode cX8_what 23 = .ok (.invokestatic 88, 3) := by decide +kernel
theorem dX8_what_26 : decode cX8_what 26 = .ok (.ifCond .ne 6, 3) := by decide +kernel
theorem dX8_what_29 : decode cX8_what 29 = .ok (.bipush (-102), 2) := by decide +kernel
theorem dX8_what_31 : decode cX8_what 31 = .ok (.ireturn, 1) := by decide +kernel
theorem dX8_what_32 : decode cX8_what 32 = .ok (.aload_n 0, 1) := by decide +kernel
theorem dX8_what_33 : decode cX8_what 33 = .ok (.aload_n 0, 1) := by decide +kernel
theorem dX8_what_34 : decode cX8_what 34 = .ok (.getfield 16, 3) := by decide +kernel
theorem dX8_what_37 : decode cX8_what 37 = .ok (.iload_n 1, 1) := by decide +kernel
theorem dX8_what_38 : decode cX8_what 38 = .ok (.iaload, 1) := by decide +kernel
theorem dX8_what_39 : decode cX8_what 39 = .ok (.iload_n 3, 1) := by decide +kernel
theorem dX8_what_40 : decode cX8_what 40 = .ok (.invokevirtual 201, 3) := by decide +kernel
theorem dX8_what_43 : decode cX8_what 43 = .ok (.aload_n 0, 1) := by decide +kernel
theorem dX8_what_44 : decode cX8_what 44 = .ok (.getfield 19, 3) := by decide +kernel
theorem dX8_what_47 : decode cX8_what 47 = .ok (.iload_n 1, 1) := by decide +kernel
theorem dX8_what_48 : decode cX8_what 48 = .ok (.iaload, 1) := by decide +kernel
theorem dX8_what_49 : decode cX8_what 49 = .ok (.bipush 9, 2) := by decide +kernel
theorem dX8_what_51 : decode cX8_what 51 = .ok (.if_icmp .ne 7, 3) := by decide +kernel
theorem dX8_what_54 : decode cX8_what 54 = .ok (.iconst (-1), 1) := by decide +kernel
theorem dX8_what_55 : decode cX8_what 55 = .ok (.goto 25, 3) := by decide +kernel
theorem dX8_what_58 : decode cX8_what 58 = .ok (.aload_n 0, 1) := by decide +kernel
theorem dX8_what_59 : decode cX8_what 59 = .ok (.aload_n 0, 1) := by decide +kernel
theorem dX8_what_60 : decode cX8_what 60 = .ok (.getfield 16, 3) := by decide +kernel
theorem dX8_what_63 : decode cX8_what 63 = .ok (.iload_n 1, 1) := by decide +kernel
theorem dX8_what_64 : decode cX8_what 64 = .ok (.iaload, 1) := by decide +kernel
theorem dX8_what_65 : decode cX8_what 65 = .ok (.iload_n 3, 1) := by decide +kernel
theorem dX8_what_66 : decode cX8_what 66 = .ok (.aload_n 0, 1) := by decide +kernel
theorem dX8_what_67 : decode cX8_what 67 = .ok (.getfield 132, 3) := by decide +kernel
theorem dX8_what_70 : decode cX8_what 70 = .ok (.aload_n 0, 1) := by decide +kernel
theorem dX8_what_71 : decode cX8_what 71 = .ok (.getfield 19, 3) := by decide +kernel
theorem dX8_what_74 : decode cX8_what 74 = .ok (.iload_n 1, 1) := by decide +kernel
theorem dX8_what_75 : decode cX8_what 75 = .ok (.iaload, 1) := by decide +kernel
theorem dX8_what_76 : decode cX8_what 76 = .ok (.iload_n 2, 1) := by decide +kernel
theorem dX8_what_77 : decode cX8_what 77 = .ok (.invokevirtual 197, 3) := by decide +kernel
theorem dX8_what_80 : decode cX8_what 80 = .ok (.ireturn, 1) := by decide +kernel
set_option maxHeartbeats 4000000 in
set_option maxRecDepth 100000 in
theorem c_X8_what {l : Launch} {g : GW} {a : AT} {x y z : Int32} (μ : Mm) (hO : AOK a) (hM : RM μ a) (hJ : AJ a) : Con l g yX8_what cX8_what 4 (some .int) 5 [.ref 65, .int x, .int y, .int z] μ (fun r μ' => r = some (.int (fWhat a x y z)) ∧ RM μ' a ∧ FrX μ μ') := by
  obtain ⟨m1, m2, m3, m4, m5, m6, m7, m8, m9, m10, m11, m12, m13⟩ := id hM
  obtain ⟨o1, o2, o3, o4, o5, ⟨s1, s2, s3, s4⟩, oK, o8, o9, o10⟩ := id hO
  refine Con.of [.ref 65, .int x, .int y, .int z] 0 (by decide +kernel) (Nat.le_of_ble_eq_true rfl) rfl ?_
  refine V_aload_n (pc := 0) dX8_what_0 rfl rfl ?_
  refine V_iload_n (pc := 1) dX8_what_1 rfl rfl ?_
  refine V_inv1 (pc := 2) (ci := 8) dX8_what_2 ml_X8_150 (by decide) rfl ⟨by decide, rfl⟩ (by first | decide | omega) (Nat.le_of_ble_eq_true rfl) (c_X8_isShip μ hO hM) ?_
  rintro _ μ2 ⟨rfl, hμ⟩
  obtain rfl := hμ.symm
  refine V_ifeq (pc := 5) (tgt := 17) dX8_what_5 (by decide) (fun h5 => ?_) (fun h5 => ?_)
  · have h5 := bI_e h5
    refine V_bipush (pc := 17) (v := (-101)) dX8_what_17 (by decide) ?_
    refine V_iret (pc := 19) dX8_what_19 rfl ?_
    refine ⟨congrArg (fun z => some (Value.int z)) ?_, hM, FrX.rf⟩
    first
    | (simp [fWhat, h5]; done)
    | (simp [fWhat, h5, h14]; done)
  have h5 := bI_ne h5
  refine V_iload_n (pc := 8) dX8_what_8 rfl rfl ?_
  refine V_iconst (pc := 9) (v := 0) dX8_what_9 (by decide) ?_
  refine V_iconst (pc := 10) (v := 2) dX8_what_10 (by decide) ?_
  refine V_ins3 (pc := 11) dX8_what_11 ml_X8_88 (by first | decide | omega) (Nat.le_of_ble_eq_true rfl) (c_X8_within μ) ?_
  rintro _ μ2 ⟨rfl, hμ⟩
  obtain rfl := hμ.symm
  rw [inW_N (n := 3) (by decide)]
  refine V_ifne (pc := 14) (tgt := 20) dX8_what_14 (by decide) (fun h14 => ?_) (fun h14 => ?_)
  · have h14 := bI_ne h14
    refine V_iload_n (pc := 20) dX8_what_20 rfl rfl ?_
    refine V_iconst (pc := 21) (v := 1) dX8_what_21 (by decide) ?_
    refine V_iconst (pc := 22) (v := 4) dX8_what_22 (by decide) ?_
    refine V_ins3 (pc := 23) dX8_what_23 ml_X8_88 (by first | decide | omega) (Nat.le_of_ble_eq_true rfl) (c_X8_within μ) ?_
    rintro _ μ2 ⟨rfl, hμ⟩
    obtain rfl := hμ.symm
    rw [inW_D (n := 4) (by decide)]
    refine V_ifne (pc := 26) (tgt := 32) dX8_what_26 (by decide) (fun h26 => ?_) (fun h26 => ?_)
    · have h26 := bI_ne h26
      obtain ⟨i, hi, rfl⟩ := inN_of (by omega) h5
      have hnb : 0 < aNb a := by rcases Nat.eq_zero_or_pos (aNb a) with q | q; have := (hJ.1 q).1; omega; exact q
      obtain ⟨n1, n2, n3, n4, n5⟩ := m6 i hi
      obtain ⟨k4, p9, c6⟩ := s4 i (by omega)
      obtain ⟨j, hj, rfl⟩ := inN_of (by decide) h14
      obtain ⟨d, hd, rfl⟩ := inD_of (by decide) h26
      refine V_aload_n (pc := 32) dX8_what_32 rfl rfl ?_
      refine V_aload_n (pc := 33) dX8_what_33 rfl rfl ?_
      refine V_getR (pc := 34) (ci := 8) (j := 6) (k2 := 68) dX8_what_34 fl_X8_16 (fun _ _ _ _ => rfl) (by decide) rfl (rf_8_6 rfl) ?_
      refine V_iload_n (pc := 37) dX8_what_37 rfl rfl ?_
      refine V_iald (pc := 38) (j := i) dX8_what_38 (by decide) rfl rfl (by show i < 6; omega) ?_
      rw [n1]
      refine V_iload_n (pc := 39) dX8_what_39 rfl rfl ?_
      refine V_inv2 (pc := 40) (ci := 8) dX8_what_40 ml_X8_201 (by decide) rfl ⟨by decide, rfl⟩ (by first | decide | omega) (Nat.le_of_ble_eq_true rfl) (c_X8_layChances μ hO hM hnb k4 hd) ?_
      rintro _ μ1 ⟨rfl, q1, q2⟩
      refine V_aload_n (pc := 43) dX8_what_43 rfl rfl ?_
      refine V_getR (pc := 44) (ci := 8) (j := 7) (k2 := 69) dX8_what_44 fl_X8_19 (fun _ _ _ _ => rfl) (by decide) rfl (rf_8_7 rfl) ?_
      refine V_iload_n (pc := 47) dX8_what_47 rfl rfl ?_
      refine V_iald (pc := 48) (j := i) dX8_what_48 (by decide) rfl rfl (by show i < 6; omega) ?_
      rw [show μ1.1 69 i = nI (sP (aS a) i) from by rw [q2.1]; exact n2]
      refine V_bipush (pc := 49) (v := 9) dX8_what_49 (by decide) ?_
      refine V_icmpne (pc := 51) (tgt := 58) dX8_what_51 (by decide) (fun h51 => ?_) (fun h51 => ?_)
      · have h51 := mt (nI_eq (a := sP (aS a) i) (b := 9) (by omega) (by omega)).mpr h51
        have e0 : fWhat a (nI i) (nI j) (nI (d + 1)) = cI (beT (aTn a) (aOw a) (sK (aS a) i) (chT (aTn a) (aOw a) (sK (aS a) i) d) (sP (aS a) i) (63 - sS (aS a)) j 6).1 := by simp only [fWhat, h5, h14, h26, Bool.and_self, if_true, nn_nI (j := i) (by omega), nn_nI (j := j) (by omega), nn_nI (j := d + 1) (by omega), Nat.add_sub_cancel]
        refine V_aload_n (pc := 58) dX8_what_58 rfl rfl ?_
        refine V_aload_n (pc := 59) dX8_what_59 rfl rfl ?_
        refine V_getR (pc := 60) (ci := 8) (j := 6) (k2 := 68) dX8_what_60 fl_X8_16 (fun _ _ _ _ => rfl) (by decide) rfl (rf_8_6 rfl) ?_
        refine V_iload_n (pc := 63) dX8_what_63 rfl rfl ?_
        refine V_iald (pc := 64) (j := i) dX8_what_64 (by decide) rfl rfl (by show i < 6; omega) ?_
        rw [show μ1.1 68 i = nI (sK (aS a) i) from by rw [q2.1]; exact n1]
        refine V_iload_n (pc := 65) dX8_what_65 rfl rfl ?_
        refine V_aload_n (pc := 66) dX8_what_66 rfl rfl ?_
        refine V_getI (pc := 67) (ci := 8) (j := 11) dX8_what_67 fl_X8_132 (fun _ _ _ _ => rfl) (by decide) rfl ?_
        rw [show μ1.1 65 11 = nI (sS (aS a)) from by rw [q2.1]; exact m7]
        refine V_aload_n (pc := 70) dX8_what_70 rfl rfl ?_
        refine V_getR (pc := 71) (ci := 8) (j := 7) (k2 := 69) dX8_what_71 fl_X8_19 (fun _ _ _ _ => rfl) (by decide) rfl (rf_8_7 rfl) ?_
        refine V_iload_n (pc := 74) dX8_what_74 rfl rfl ?_
        refine V_iald (pc := 75) (j := i) dX8_what_75 (by decide) rfl rfl (by show i < 6; omega) ?_
        rw [show μ1.1 69 i = nI (sP (aS a) i) from by rw [q2.1]; exact n2]
        refine V_iload_n (pc := 76) dX8_what_76 rfl rfl ?_
        refine V_inv5 (pc := 77) (ci := 8) dX8_what_77 ml_X8_197 (by decide) rfl ⟨by decide, rfl⟩ (by first | decide | omega) (Nat.le_of_ble_eq_true rfl) (c_X8_bestCall (d := d) μ1 hO (hM.ofI q2.1) hnb k4 hd s2 p9 (q1 d (by omega)) hj) ?_
        rintro _ μ2 ⟨rfl, hμ⟩
        obtain rfl := hμ.symm
        refine V_iret (pc := 80) dX8_what_80 rfl ?_
        exact ⟨(by rw [e0]; try rfl), hM.ofI q2.1, q2.X⟩
      have h51 := (nI_eq (a := sP (aS a) i) (b := 9) (by omega) (by omega)).mp h51
      have e0 : fWhat a (nI i) (nI j) (nI (d + 1)) = cI (beT (aTn a) (aOw a) (sK (aS a) i) (chT (aTn a) (aOw a) (sK (aS a) i) d) (sP (aS a) i) (63 - sS (aS a)) j 6).1 := by simp only [fWhat, h5, h14, h26, Bool.and_self, if_true, nn_nI (j := i) (by omega), nn_nI (j := j) (by omega), nn_nI (j := d + 1) (by omega), Nat.add_sub_cancel]
      rw [h51, beT9 o4 hj k4] at e0
      refine V_iconst (pc := 54) (v := (-1)) dX8_what_54 (by decide) ?_
      refine V_goto (pc := 55) (tgt := 80) dX8_what_55 (by decide) ?_
      refine V_iret (pc := 80) dX8_what_80 rfl ?_
      exact ⟨(by rw [e0]; try rfl), hM.ofI q2.1, q2.X⟩
    have h26 := bI_e h26
    refine V_bipush (pc := 29) (v := (-102)) dX8_what_29 (by decide) ?_
    refine V_iret (pc := 31) dX8_what_31 rfl ?_
    refine ⟨congrArg (fun z => some (Value.int z)) ?_, hM, FrX.rf⟩
    simp [fWhat, h5, h14, h26]
  have h14 := bI_e h14
  refine V_bipush (pc := 17) (v := (-101)) dX8_what_17 (by decide) ?_
  refine V_iret (pc := 19) dX8_what_19 rfl ?_
  refine ⟨congrArg (fun z => some (Value.int z)) ?_, hM, FrX.rf⟩
  first
  | (simp [fWhat, h5]; done)
  | (simp [fWhat, h5, h14]; done)
