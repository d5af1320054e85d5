theorem dX1_worth_0 : decode cX1_worth 0 = .ok (.iload_n 1, 1) := by decide +kernel
theorem dX1_worth_1 : decode cX1_worth 1 = .ok (.iconst (-1), 1) := by decide +kernel
theorem dX1_worth_2 : decode cX1_worth 2 = .ok (.if_icmp .eq 11, 3) := by decide +kernel
theorem dX1_worth_5 : decode cX1_worth 5 = .ok (.aload_n 0, 1) := by decide +kernel
theorem dX1_worth_6 : decode cX1_worth 6 = .ok (.getfield 23, 3) := by decide +kernel
theorem dX1_worth_9 : decode cX1_worth 9 = .ok (.iconst 4, 1) := by decide +kernel
theorem dX1_worth_10 : decode cX1_worth 10 = .ok (.if_icmp .ne 8, 3) := by decide +kernel
theorem dX1_worth_13 : decode cX1_worth 13 = .ok (.iload 5, 2) := by decide +kernel
theorem dX1_worth_15 : decode cX1_worth 15 = .ok (.goto 11, 3) := by decide +kernel
theorem dX1_worth_18 : decode cX1_worth 18 = .ok (.iload 5, 2) := by decide +kernel
theorem dX1_worth_20 : decode cX1_worth 20 = .ok (.iconst 1, 1) := by decide +kernel
theorem dX1_worth_21 : decode cX1_worth 21 = .ok (.iload_n 1, 1) := by decide +kernel
theorem dX1_worth_22 : decode cX1_worth 22 = .ok (.ishl, 1) := by decide +kernel
theorem dX1_worth_23 : decode cX1_worth 23 = .ok (.iconst (-1), 1) := by decide +kernel
theorem dX1_worth_24 : decode cX1_worth 24 = .ok (.ixor, 1) := by decide +kernel
theorem dX1_worth_25 : decode cX1_worth 25 = .ok (.iand, 1) := by decide +kernel
theorem dX1_worth_26 : decode cX1_worth 26 = .ok (.istore 6, 2) := by decide +kernel
theorem dX1_worth_28 : decode cX1_worth 28 = .ok (.aload_n 0, 1) := by decide +kernel
theorem dX1_worth_29 : decode cX1_worth 29 = .ok (.getfield 16, 3) := by decide +kernel
theorem dX1_worth_32 : decode cX1_worth 32 = .ok (.iload_n 1, 1) := by decide +kernel
theorem dX1_worth_33 : decode cX1_worth 33 = .ok (.iconst 1, 1) := by decide +kernel
theorem dX1_worth_34 : decode cX1_worth 34 = .ok (.iadd, 1) := by decide +kernel
theorem dX1_worth_35 : decode cX1_worth 35 = .ok (.aaload, 1) := by decide +kernel
theorem dX1_worth_36 : decode cX1_worth 36 = .ok (.iload_n 2, 1) := by decide +kernel
theorem dX1_worth_37 : decode cX1_worth 37 = .ok (.iaload, 1) := by decide +kernel
theorem dX1_worth_38 : decode cX1_worth 38 = .ok (.istore 7, 2) := by decide +kernel
theorem dX1_worth_40 : decode cX1_worth 40 = .ok (.aload_n 0, 1) := by decide +kernel
theorem dX1_worth_41 : decode cX1_worth 41 = .ok (.getfield 19, 3) := by decide +kernel
theorem dX1_worth_44 : decode cX1_worth 44 = .ok (.iload_n 2, 1) := by decide +kernel
theorem dX1_worth_45 : decode cX1_worth 45 = .ok (.iaload, 1) := by decide +kernel
theorem dX1_worth_46 : decode cX1_worth 46 = .ok (.istore 8, 2) := by decide +kernel
theorem dX1_worth_48 : decode cX1_worth 48 = .ok (.bipush 10, 2) := by decide +kernel
theorem dX1_worth_50 : decode cX1_worth 50 = .ok (.iload 7, 2) := by decide +kernel
theorem dX1_worth_52 : decode cX1_worth 52 = .ok (.isub, 1) := by decide +kernel
theorem dX1_worth_53 : decode cX1_worth 53 = .ok (.iload 8, 2) := by decide +kernel
theorem dX1_worth_55 : decode cX1_worth 55 = .ok (.isub, 1) := by decide +kernel
theorem dX1_worth_56 : decode cX1_worth 56 = .ok (.istore 9, 2) := by decide +kernel
theorem dX1_worth_58 : decode cX1_worth 58 = .ok (.iconst 0, 1) := by decide +kernel
theorem dX1_worth_59 : decode cX1_worth 59 = .ok (.istore 10, 2) := by decide +kernel
theorem dX1_worth_61 : decode cX1_worth 61 = .ok (.iload 7, 2) := by decide +kernel
theorem dX1_worth_63 : decode cX1_worth 63 = .ok (.ifCond .le 30, 3) := by decide +kernel
theorem dX1_worth_66 : decode cX1_worth 66 = .ok (.iload 10, 2) := by decide +kernel
theorem dX1_worth_68 : decode cX1_worth 68 = .ok (.iload 7, 2) := by decide +kernel
theorem dX1_worth_70 : decode cX1_worth 70 = .ok (.aload_n 0, 1) := by decide +kernel
theorem dX1_worth_71 : decode cX1_worth 71 = .ok (.iload_n 3, 1) := by decide +kernel
theorem dX1_worth_72 : decode cX1_worth 72 = .ok (.iconst 1, 1) := by decide +kernel
theorem dX1_worth_73 : decode cX1_worth 73 = .ok (.isub, 1) := by decide +kernel
theorem dX1_worth_74 : decode cX1_worth 74 = .ok (.aload_n 0, 1) := by decide +kernel
theorem dX1_worth_75 : decode cX1_worth 75 = .ok (.getfield 23, 3) := by decide +kernel
theorem dX1_worth_78 : decode cX1_worth 78 = .ok (.iload 4, 2) := by decide +kernel
theorem dX1_worth_80 : decode cX1_worth 80 = .ok (.iload_n 1, 1) := by decide +kernel
theorem dX1_worth_81 : decode cX1_worth 81 = .ok (.invokestatic 53, 3) := by decide +kernel
theorem dX1_worth_84 : decode cX1_worth 84 = .ok (.iload 6, 2) := by decide +kernel
theorem dX1_worth_86 : decode cX1_worth 86 = .ok (.invokevirtual 57, 3) := by decide +kernel
theorem dX1_worth_89 : decode cX1_worth 89 = .ok (.imul, 1) := by decide +kernel
theorem dX1_worth_90 : decode cX1_worth 90 = .ok (.iadd, 1) := by decide +kernel
theorem dX1_worth_91 : decode cX1_worth 91 = .ok (.istore 10, 2) := by decide +kernel
theorem dX1_worth_93 : decode cX1_worth 93 = .ok (.iload 9, 2) := by decide +kernel
theorem dX1_worth_95 : decode cX1_worth 95 = .ok (.ifCond .le 30, 3) := by decide +kernel
theorem dX1_worth_98 : decode cX1_worth 98 = .ok (.iload 10, 2) := by decide +kernel
theorem dX1_worth_100 : decode cX1_worth 100 = .ok (.iload 9, 2) := by decide +kernel
theorem dX1_worth_102 : decode cX1_worth 102 = .ok (.aload_n 0, 1) := by decide +kernel
theorem dX1_worth_103 : decode cX1_worth 103 = .ok (.iload_n 3, 1) := by decide +kernel
theorem dX1_worth_104 : decode cX1_worth 104 = .ok (.iconst 1, 1) := by decide +kernel
theorem dX1_worth_105 : decode cX1_worth 105 = .ok (.isub, 1) := by decide +kernel
theorem dX1_worth_106 : decode cX1_worth 106 = .ok (.aload_n 0, 1) := by decide +kernel
theorem dX1_worth_107 : decode cX1_worth 107 = .ok (.getfield 23, 3) := by decide +kernel
theorem dX1_worth_110 : decode cX1_worth 110 = .ok (.iload 4, 2) := by decide +kernel
theorem dX1_worth_112 : decode cX1_worth 112 = .ok (.iload_n 1, 1) := by decide +kernel
theorem dX1_worth_113 : decode cX1_worth 113 = .ok (.invokestatic 60, 3) := by decide +kernel
theorem dX1_worth_116 : decode cX1_worth 116 = .ok (.iload 6, 2) := by decide +kernel
theorem dX1_worth_118 : decode cX1_worth 118 = .ok (.invokevirtual 57, 3) := by decide +kernel
theorem dX1_worth_121 : decode cX1_worth 121 = .ok (.imul, 1) := by decide +kernel
theorem dX1_worth_122 : decode cX1_worth 122 = .ok (.iadd, 1) := by decide +kernel
theorem dX1_worth_123 : decode cX1_worth 123 = .ok (.istore 10, 2) := by decide +kernel
theorem dX1_worth_125 : decode cX1_worth 125 = .ok (.iload 8, 2) := by decide +kernel
theorem dX1_worth_127 : decode cX1_worth 127 = .ok (.ifCond .le 22, 3) := by decide +kernel
theorem dX1_worth_130 : decode cX1_worth 130 = .ok (.iload 10, 2) := by decide +kernel
theorem dX1_worth_132 : decode cX1_worth 132 = .ok (.iload 8, 2) := by decide +kernel
theorem dX1_worth_134 : decode cX1_worth 134 = .ok (.aload_n 0, 1) := by decide +kernel
theorem dX1_worth_135 : decode cX1_worth 135 = .ok (.iload_n 3, 1) := by decide +kernel
theorem dX1_worth_136 : decode cX1_worth 136 = .ok (.iconst 1, 1) := by decide +kernel
theorem dX1_worth_137 : decode cX1_worth 137 = .ok (.isub, 1) := by decide +kernel
theorem dX1_worth_138 : decode cX1_worth 138 = .ok (.iload 4, 2) := by decide +kernel
theorem dX1_worth_140 : decode cX1_worth 140 = .ok (.iload 6, 2) := by decide +kernel
theorem dX1_worth_142 : decode cX1_worth 142 = .ok (.invokevirtual 57, 3) := by decide +kernel
theorem dX1_worth_145 : decode cX1_worth 145 = .ok (.imul, 1) := by decide +kernel
theorem dX1_worth_146 : decode cX1_worth 146 = .ok (.iadd, 1) := by decide +kernel
theorem dX1_worth_147 : decode cX1_worth 147 = .ok (.istore 10, 2) := by decide +kernel
theorem dX1_worth_149 : decode cX1_worth 149 = .ok (.iload 10, 2) := by decide +kernel
theorem dX1_worth_151 : decode cX1_worth 151 = .ok (.ireturn, 1) := by decide +kernel
set_option maxHeartbeats 4000000 in
set_option maxRecDepth 100000 in
theorem c_X1_worth {l : Launch} {g : GW} {tn : Nat → Nat → Nat} {ow : Nat → Nat} {κ N d p F : Nat} {k s : Nat} (μ : Mm) (hk : k ≤ 6) (hs : s < 3) (hT : TnOK tn) (hFc : FcR μ tn ow κ) (hMm : MmR μ tn ow κ N) (hd : d + 1 ≤ N) (hN : N ≤ 4) (hp : p ≤ 9) (hF : F < 64) (hch : ∀ (μ : Mm) (p F : Nat), FcR μ tn ow κ → MmR μ tn ow κ N → p ≤ 9 → F < 64 → Con l g yX1_chances cX1_chances 7 (some .int) (3 * d + 1) [.ref 33, .int (nI d), .int (nI p), .int (nI F)] μ (fun r μ' => r = some (.int (nI (chT tn ow κ d p F))) ∧ FcR μ' tn ow κ ∧ MmR μ' tn ow κ N ∧ FrM fnd μ μ')) : Con l g yX1_worth cX1_worth 11 (some .int) (3 * d + 2) [.ref 33, .int (cI k), .int (nI s), .int (nI (d + 1)), .int (nI p), .int (nI F)] μ (fun r μ' => r = some (.int (nI (woT tn ow κ (chT tn ow κ d) p F s k))) ∧ FcR μ' tn ow κ ∧ MmR μ' tn ow κ N ∧ FrM fnd μ μ') := by
  obtain ⟨f1, f2, f3, f4⟩ := id hFc
  have h9 := fav4_le (ow := ow) hT (k := k) hs
  have hF9 := frA_lt (κ := κ) hF hk
  have hcle := fun p F => Nat.le_trans (chT_le (ow := ow) (κ := κ) hT d p F) (p30 (d := d) (by omega))
  refine Con.of [.ref 33, .int (cI k), .int (nI s), .int (nI (d + 1)), .int (nI p), .int (nI F), .null, .null, .null, .null, .null] 5 (by decide +kernel) (Nat.le_of_ble_eq_true rfl) rfl ?_
  have J26 :  V l g RX1 cX1_worth 11 (some .int) (3 * d + 2) 26 [.ref 33, .int (cI k), .int (nI s), .int (nI (d + 1)), .int (nI p), .int (nI F), .null, .null, .null, .null, .null] [.int (nI (frA κ F k))] μ (fun r μ' => r = some (.int (nI (woT tn ow κ (chT tn ow κ d) p F s k))) ∧ FcR μ' tn ow κ ∧ MmR μ' tn ow κ N ∧ FrM fnd μ μ') := by
    refine V_istore6 (pc := 26) dX1_worth_26 (by decide) rfl ?_
    refine V_aload_n (pc := 28) dX1_worth_28 rfl rfl ?_
    refine V_getR (pc := 29) (ci := 1) (j := 1) (k2 := 40) dX1_worth_29 fl_X1_16 (fun _ _ _ _ => rfl) (by decide) rfl (rf_1_1 rfl) ?_
    refine V_iload_n (pc := 32) dX1_worth_32 rfl rfl ?_
    refine V_iconst (pc := 33) (v := 1) dX1_worth_33 (by decide) ?_
    refine V_iadd (pc := 34) dX1_worth_34 ?_
    refine V_aald15 (pc := 35) (j := k) dX1_worth_35 (by decide) rfl (cI_1 k) (by show k < 7; omega) ?_
    refine V_iload_n (pc := 36) dX1_worth_36 rfl rfl ?_
    refine V_iald (pc := 37) (j := s) dX1_worth_37 (by first | decide | omega) (by first | rfl | assumption | exact (fcA _ (by omega)).1 | decide) rfl (by have := (fcA k (by omega)).2; show s < kn (41 + k); omega) ?_
    rw [show μ.1 (40 + 1 + k) s = nI (favT tn ow k s 4) from f3 k s (by omega) hs]
    refine V_istore7 (pc := 38) dX1_worth_38 (by decide) rfl ?_
    refine V_aload_n (pc := 40) dX1_worth_40 rfl rfl ?_
    refine V_getR (pc := 41) (ci := 1) (j := 2) (k2 := 48) dX1_worth_41 fl_X1_19 (fun _ _ _ _ => rfl) (by decide) rfl (rf_1_2 rfl) ?_
    refine V_iload_n (pc := 44) dX1_worth_44 rfl rfl ?_
    refine V_iald (pc := 45) (j := s) dX1_worth_45 (by decide) rfl rfl (by show s < 3; omega) ?_
    rw [f4 s hs]
    refine V_istore8 (pc := 46) dX1_worth_46 (by decide) rfl ?_
    refine V_bipush (pc := 48) (v := 10) dX1_worth_48 (by decide) ?_
    refine V_iload (pc := 50) dX1_worth_50 rfl ?_
    refine V_isub (pc := 52) dX1_worth_52 ?_
    refine V_iload (pc := 53) dX1_worth_53 rfl ?_
    refine V_isub (pc := 55) dX1_worth_55 ?_
    rw [show (10 : Int32) - nI (favT tn ow k s 4) - nI (tn 4 s) = nI (10 - favT tn ow k s 4 - tn 4 s) from nI_sub2 (a := 10) (by omega)]
    refine V_istore9 (pc := 56) dX1_worth_56 (by decide) rfl ?_
    refine V_iconst (pc := 58) (v := 0) dX1_worth_58 (by decide) ?_
    refine V_istore10 (pc := 59) dX1_worth_59 (by decide) rfl ?_
    have J149 : ∀ (μ1 : Mm) (a : Nat), FcR μ1 tn ow κ → MmR μ1 tn ow κ N → FrM fnd μ μ1 → a = woT tn ow κ (chT tn ow κ d) p F s k → V l g RX1 cX1_worth 11 (some .int) (3 * d + 2) 149 [.ref 33, .int (cI k), .int (nI s), .int (nI (d + 1)), .int (nI p), .int (nI F), .int (nI (frA κ F k)), .int (nI (favT tn ow k s 4)), .int (nI (tn 4 s)), .int (nI (10 - favT tn ow k s 4 - tn 4 s)), .int (nI a)] [] μ1 (fun r μ' => r = some (.int (nI (woT tn ow κ (chT tn ow κ d) p F s k))) ∧ FcR μ' tn ow κ ∧ MmR μ' tn ow κ N ∧ FrM fnd μ μ') := by
      intro μ1 a g1 g2 g3 ga
      refine V_iload (pc := 149) dX1_worth_149 rfl ?_
      refine V_iret (pc := 151) dX1_worth_151 rfl ?_
      exact ⟨by rw [ga], g1, g2, g3⟩
    have J125 : ∀ (μ1 : Mm) (a : Nat), FcR μ1 tn ow κ → MmR μ1 tn ow κ N → FrM fnd μ μ1 → a = favT tn ow k s 4 * chT tn ow κ d (ahd κ p k) (frA κ F k) + (10 - favT tn ow k s 4 - tn 4 s) * chT tn ow κ d (bhd κ p k) (frA κ F k) → V l g RX1 cX1_worth 11 (some .int) (3 * d + 2) 125 [.ref 33, .int (cI k), .int (nI s), .int (nI (d + 1)), .int (nI p), .int (nI F), .int (nI (frA κ F k)), .int (nI (favT tn ow k s 4)), .int (nI (tn 4 s)), .int (nI (10 - favT tn ow k s 4 - tn 4 s)), .int (nI a)] [] μ1 (fun r μ' => r = some (.int (nI (woT tn ow κ (chT tn ow κ d) p F s k))) ∧ FcR μ' tn ow κ ∧ MmR μ' tn ow κ N ∧ FrM fnd μ μ') := by
      intro μ1 a g1 g2 g3 ga
      refine V_iload (pc := 125) dX1_worth_125 rfl ?_
      refine V_ifle (pc := 127) (tgt := 149) dX1_worth_127 (by decide) (fun h127 => ?_) (fun h127 => ?_)
      · have h127 := (nI_leI (a := tn 4 s) (b := 0) (by omega) (by decide)).mp h127; have e0 : tn 4 s = 0 := (by omega); exact J149 μ1 a g1 g2 g3 (by unfold woT; rw [ga, e0, Nat.zero_mul]; rfl)
      refine V_iload (pc := 130) dX1_worth_130 rfl ?_
      refine V_iload (pc := 132) dX1_worth_132 rfl ?_
      refine V_aload_n (pc := 134) dX1_worth_134 rfl rfl ?_
      refine V_iload_n (pc := 135) dX1_worth_135 rfl rfl ?_
      refine V_iconst (pc := 136) (v := 1) dX1_worth_136 (by decide) ?_
      refine V_isub (pc := 137) dX1_worth_137 ?_
      rw [nI_m1 d]
      refine V_iload (pc := 138) dX1_worth_138 rfl ?_
      refine V_iload (pc := 140) dX1_worth_140 rfl ?_
      refine V_inv3 (pc := 142) (ci := 1) dX1_worth_142 ml_X1_57 (by decide) rfl ⟨by decide, rfl⟩ (by omega) (Nat.le_of_ble_eq_true rfl) (hch μ1 p (frA κ F k) g1 g2 hp hF9) ?_
      rintro _ μ2 ⟨rfl, k1, k2, k3⟩
      refine V_imul (pc := 145) dX1_worth_145 ?_
      refine V_iadd (pc := 146) dX1_worth_146 ?_
      rw [pk_mul, nI_add]
      refine V_istore10 (pc := 147) dX1_worth_147 (by decide) rfl ?_
      exact J149 μ2 _ k1 k2 (g3.tr k3 (fun _ q => q)) (by unfold woT; rw [ga])
    have J93 : ∀ (μ1 : Mm) (a : Nat), FcR μ1 tn ow κ → MmR μ1 tn ow κ N → FrM fnd μ μ1 → a = favT tn ow k s 4 * chT tn ow κ d (ahd κ p k) (frA κ F k) → V l g RX1 cX1_worth 11 (some .int) (3 * d + 2) 93 [.ref 33, .int (cI k), .int (nI s), .int (nI (d + 1)), .int (nI p), .int (nI F), .int (nI (frA κ F k)), .int (nI (favT tn ow k s 4)), .int (nI (tn 4 s)), .int (nI (10 - favT tn ow k s 4 - tn 4 s)), .int (nI a)] [] μ1 (fun r μ' => r = some (.int (nI (woT tn ow κ (chT tn ow κ d) p F s k))) ∧ FcR μ' tn ow κ ∧ MmR μ' tn ow κ N ∧ FrM fnd μ μ') := by
      intro μ1 a g1 g2 g3 ga
      obtain ⟨q1, q2, q3, q4⟩ := id g1
      refine V_iload (pc := 93) dX1_worth_93 rfl ?_
      refine V_ifle (pc := 95) (tgt := 125) dX1_worth_95 (by decide) (fun h95 => ?_) (fun h95 => ?_)
      · have h95 := (nI_leI (a := 10 - favT tn ow k s 4 - tn 4 s) (b := 0) (by omega) (by decide)).mp h95; have e0 : 10 - favT tn ow k s 4 - tn 4 s = 0 := (by omega); exact J125 μ1 a g1 g2 g3 (by rw [e0, Nat.zero_mul, ga]; rfl)
      refine V_iload (pc := 98) dX1_worth_98 rfl ?_
      refine V_iload (pc := 100) dX1_worth_100 rfl ?_
      refine V_aload_n (pc := 102) dX1_worth_102 rfl rfl ?_
      refine V_iload_n (pc := 103) dX1_worth_103 rfl rfl ?_
      refine V_iconst (pc := 104) (v := 1) dX1_worth_104 (by decide) ?_
      refine V_isub (pc := 105) dX1_worth_105 ?_
      rw [nI_m1 d]
      refine V_aload_n (pc := 106) dX1_worth_106 rfl rfl ?_
      refine V_getI (pc := 107) (ci := 1) (j := 3) dX1_worth_107 fl_X1_23 (fun _ _ _ _ => rfl) (by decide) rfl ?_
      rw [q1]
      refine V_iload (pc := 110) dX1_worth_110 rfl ?_
      refine V_iload_n (pc := 112) dX1_worth_112 rfl rfl ?_
      refine V_ins3 (pc := 113) dX1_worth_113 ml_X1_60 (by first | decide | omega) (Nat.le_of_ble_eq_true rfl) (c_X7_placeBehind μ1 f2 hp hk) ?_
      rintro _ μ2 ⟨rfl, hμ⟩
      obtain rfl := hμ.symm
      refine V_iload (pc := 116) dX1_worth_116 rfl ?_
      refine V_inv3 (pc := 118) (ci := 1) dX1_worth_118 ml_X1_57 (by decide) rfl ⟨by decide, rfl⟩ (by omega) (Nat.le_of_ble_eq_true rfl) (hch μ1 (bhd κ p k) (frA κ F k) g1 g2 (bhd_le hp) hF9) ?_
      rintro _ μ2 ⟨rfl, k1, k2, k3⟩
      refine V_imul (pc := 121) dX1_worth_121 ?_
      refine V_iadd (pc := 122) dX1_worth_122 ?_
      rw [pk_mul, nI_add]
      refine V_istore10 (pc := 123) dX1_worth_123 (by decide) rfl ?_
      exact J125 μ2 _ k1 k2 (g3.tr k3 (fun _ q => q)) (by rw [ga])
    refine V_iload (pc := 61) dX1_worth_61 rfl ?_
    refine V_ifle (pc := 63) (tgt := 93) dX1_worth_63 (by decide) (fun h63 => ?_) (fun h63 => ?_)
    · have h63 := (nI_leI (a := favT tn ow k s 4) (b := 0) (by omega) (by decide)).mp h63; have e0 : favT tn ow k s 4 = 0 := (by omega); exact J93 μ 0 hFc hMm FrM.rf (by rw [e0, Nat.zero_mul])
    refine V_iload (pc := 66) dX1_worth_66 rfl ?_
    refine V_iload (pc := 68) dX1_worth_68 rfl ?_
    refine V_aload_n (pc := 70) dX1_worth_70 rfl rfl ?_
    refine V_iload_n (pc := 71) dX1_worth_71 rfl rfl ?_
    refine V_iconst (pc := 72) (v := 1) dX1_worth_72 (by decide) ?_
    refine V_isub (pc := 73) dX1_worth_73 ?_
    rw [nI_m1 d]
    refine V_aload_n (pc := 74) dX1_worth_74 rfl rfl ?_
    refine V_getI (pc := 75) (ci := 1) (j := 3) dX1_worth_75 fl_X1_23 (fun _ _ _ _ => rfl) (by decide) rfl ?_
    rw [f1]
    refine V_iload (pc := 78) dX1_worth_78 rfl ?_
    refine V_iload_n (pc := 80) dX1_worth_80 rfl rfl ?_
    refine V_ins3 (pc := 81) dX1_worth_81 ml_X1_53 (by first | decide | omega) (Nat.le_of_ble_eq_true rfl) (c_X7_placeAhead μ f2 hp hk) ?_
    rintro _ μ2 ⟨rfl, hμ⟩
    obtain rfl := hμ.symm
    refine V_iload (pc := 84) dX1_worth_84 rfl ?_
    refine V_inv3 (pc := 86) (ci := 1) dX1_worth_86 ml_X1_57 (by decide) rfl ⟨by decide, rfl⟩ (by omega) (Nat.le_of_ble_eq_true rfl) (hch μ (ahd κ p k) (frA κ F k) hFc hMm ahd_le hF9) ?_
    rintro _ μ2 ⟨rfl, g1, g2, g3⟩
    refine V_imul (pc := 89) dX1_worth_89 ?_
    refine V_iadd (pc := 90) dX1_worth_90 ?_
    rw [show (0 : Int32) + nI (favT tn ow k s 4) * nI (chT tn ow κ d (ahd κ p k) (frA κ F k)) = nI (favT tn ow k s 4 * chT tn ow κ d (ahd κ p k) (frA κ F k)) from by rw [pk_mul, show (0 : Int32) = nI 0 from rfl, nI_add, Nat.zero_add]]
    refine V_istore10 (pc := 91) dX1_worth_91 (by decide) rfl ?_
    exact J93 μ2 _ g1 g2 g3 rfl
  refine V_iload_n (pc := 0) dX1_worth_0 rfl rfl ?_
  refine V_iconst (pc := 1) (v := (-1)) dX1_worth_1 (by decide) ?_
  refine V_icmpeq (pc := 2) (tgt := 13) dX1_worth_2 (by decide) (fun h2 => ?_) (fun h2 => ?_)
  · have h2 := (cI_m1 (by omega)).mp h2; have e6 : frA κ F k = F := if_pos (Or.inl h2)
    refine V_iload (pc := 13) dX1_worth_13 rfl ?_
    refine V_goto (pc := 15) (tgt := 26) dX1_worth_15 (by decide) ?_
    first | (rw [e6] at J26; exact J26) | (rw [e6] at J26; rw [show cI k = nI (k - 1) from by rw [← cI_s, Nat.sub_add_cancel (by omega)], bit_clr F hF (k - 1) (by omega)]; rw [show nI (k - 1) = cI k from by rw [← cI_s, Nat.sub_add_cancel (by omega)]]; exact J26)
  have h2 := mt (cI_m1 (a := k) (by omega)).mpr h2
  refine V_aload_n (pc := 5) dX1_worth_5 rfl rfl ?_
  refine V_getI (pc := 6) (ci := 1) (j := 3) dX1_worth_6 fl_X1_23 (fun _ _ _ _ => rfl) (by decide) rfl ?_
  refine V_iconst (pc := 9) (v := 4) dX1_worth_9 (by decide) ?_
  refine V_icmpne (pc := 10) (tgt := 18) dX1_worth_10 (by decide) (fun h10 => ?_) (fun h10 => ?_)
  · rw [f1] at h10; have h10 := mt (nI_eq (a := κ) (b := 4) (by omega) (by decide)).mpr h10; have e6 : frA κ F k = clr F (k - 1) := if_neg (fun q => q.elim h2 h10)
    refine V_iload (pc := 18) dX1_worth_18 rfl ?_
    refine V_iconst (pc := 20) (v := 1) dX1_worth_20 (by decide) ?_
    refine V_iload_n (pc := 21) dX1_worth_21 rfl rfl ?_
    refine V_ishl (pc := 22) dX1_worth_22 ?_
    refine V_iconst (pc := 23) (v := (-1)) dX1_worth_23 (by decide) ?_
    refine V_ixor (pc := 24) dX1_worth_24 ?_
    refine V_iand (pc := 25) dX1_worth_25 ?_
    first | (rw [e6] at J26; exact J26) | (rw [e6] at J26; rw [show cI k = nI (k - 1) from by rw [← cI_s, Nat.sub_add_cancel (by omega)], bit_clr F hF (k - 1) (by omega)]; rw [show nI (k - 1) = cI k from by rw [← cI_s, Nat.sub_add_cancel (by omega)]]; exact J26)
  rw [f1] at h10; have h10 := (nI_eq (a := κ) (b := 4) (by omega) (by decide)).mp h10; have e6 : frA κ F k = F := if_pos (Or.inr h10)
  refine V_iload (pc := 13) dX1_worth_13 rfl ?_
  refine V_goto (pc := 15) (tgt := 26) dX1_worth_15 (by decide) ?_
  first | (rw [e6] at J26; exact J26) | (rw [e6] at J26; rw [show cI k = nI (k - 1) from by rw [← cI_s, Nat.sub_add_cancel (by omega)], bit_clr F hF (k - 1) (by omega)]; rw [show nI (k - 1) = cI k from by rw [← cI_s, Nat.sub_add_cancel (by omega)]]; exact J26)
theorem dX1_bestCall_0 : decode cX1_bestCall 0 = .ok (.iconst (-1), 1) := by decide +kernel
theorem dX1_bestCall_1 : decode cX1_bestCall 1 = .ok (.istore 5, 2) := by decide +kernel
theorem dX1_bestCall_3 : decode cX1_bestCall 3 = .ok (.aload_n 0, 1) := by decide +kernel
theorem dX1_bestCall_4 : decode cX1_bestCall 4 = .ok (.iconst (-1), 1) := by decide +kernel
theorem dX1_bestCall_5 : decode cX1_bestCall 5 = .ok (.iload_n 1, 1) := by decide +kernel
theorem dX1_bestCall_6 : decode cX1_bestCall 6 = .ok (.iload_n 2, 1) := by decide +kernel
theorem dX1_bestCall_7 : decode cX1_bestCall 7 = .ok (.iload_n 3, 1) := by decide +kernel
theorem dX1_bestCall_8 : decode cX1_bestCall 8 = .ok (.iload 4, 2) := by decide +kernel
theorem dX1_bestCall_10 : decode cX1_bestCall 10 = .ok (.invokevirtual 49, 3) := by decide +kernel
theorem dX1_bestCall_13 : decode cX1_bestCall 13 = .ok (.istore 6, 2) := by decide +kernel
theorem dX1_bestCall_15 : decode cX1_bestCall 15 = .ok (.iconst 0, 1) := by decide +kernel
theorem dX1_bestCall_16 : decode cX1_bestCall 16 = .ok (.istore 7, 2) := by decide +kernel
theorem dX1_bestCall_18 : decode cX1_bestCall 18 = .ok (.iload 7, 2) := by decide +kernel
theorem dX1_bestCall_20 : decode cX1_bestCall 20 = .ok (.bipush 6, 2) := by decide +kernel
theorem dX1_bestCall_22 : decode cX1_bestCall 22 = .ok (.if_icmp .ge 48, 3) := by decide +kernel
theorem dX1_bestCall_25 : decode cX1_bestCall 25 = .ok (.iload 4, 2) := by decide +kernel
theorem dX1_bestCall_27 : decode cX1_bestCall 27 = .ok (.iload 7, 2) := by decide +kernel
theorem dX1_bestCall_29 : decode cX1_bestCall 29 = .ok (.ishr, 1) := by decide +kernel
theorem dX1_bestCall_30 : decode cX1_bestCall 30 = .ok (.iconst 1, 1) := by decide +kernel
theorem dX1_bestCall_31 : decode cX1_bestCall 31 = .ok (.iand, 1) := by decide +kernel
theorem dX1_bestCall_32 : decode cX1_bestCall 32 = .ok (.iconst 1, 1) := by decide +kernel
theorem dX1_bestCall_33 : decode cX1_bestCall 33 = .ok (.if_icmp .ne 31, 3) := by decide +kernel
theorem dX1_bestCall_36 : decode cX1_bestCall 36 = .ok (.aload_n 0, 1) := by decide +kernel
theorem dX1_bestCall_37 : decode cX1_bestCall 37 = .ok (.iload 7, 2) := by decide +kernel
theorem dX1_bestCall_39 : decode cX1_bestCall 39 = .ok (.iload_n 1, 1) := by decide +kernel
theorem dX1_bestCall_40 : decode cX1_bestCall 40 = .ok (.iload_n 2, 1) := by decide +kernel
theorem dX1_bestCall_41 : decode cX1_bestCall 41 = .ok (.iload_n 3, 1) := by decide +kernel
theorem dX1_bestCall_42 : decode cX1_bestCall 42 = .ok (.iload 4, 2) := by decide +kernel
theorem dX1_bestCall_44 : decode cX1_bestCall 44 = .ok (.invokevirtual 49, 3) := by decide +kernel
theorem dX1_bestCall_47 : decode cX1_bestCall 47 = .ok (.istore 8, 2) := by decide +kernel
theorem dX1_bestCall_49 : decode cX1_bestCall 49 = .ok (.iload 8, 2) := by decide +kernel
theorem dX1_bestCall_51 : decode cX1_bestCall 51 = .ok (.iload 6, 2) := by decide +kernel
theorem dX1_bestCall_53 : decode cX1_bestCall 53 = .ok (.if_icmp .le 11, 3) := by decide +kernel
theorem dX1_bestCall_56 : decode cX1_bestCall 56 = .ok (.iload 7, 2) := by decide +kernel
theorem dX1_bestCall_58 : decode cX1_bestCall 58 = .ok (.istore 5, 2) := by decide +kernel
theorem dX1_bestCall_60 : decode cX1_bestCall 60 = .ok (.iload 8, 2) := by decide +kernel
theorem dX1_bestCall_62 : decode cX1_bestCall 62 = .ok (.istore 6, 2) := by decide +kernel
theorem dX1_bestCall_64 : decode cX1_bestCall 64 = .ok (.iinc 7 1, 3) := by decide +kernel
theorem dX1_bestCall_67 : decode cX1_bestCall 67 = .ok (.goto (-49), 3) := by decide +kernel
theorem dX1_bestCall_70 : decode cX1_bestCall 70 = .ok (.iload 5, 2) := by decide +kernel
theorem dX1_bestCall_72 : decode cX1_bestCall 72 = .ok (.ireturn, 1) := by decide +kernel
set_option maxHeartbeats 4000000 in
set_option maxRecDepth 100000 in
theorem c_X1_bestCall {l : Launch} {g : GW} {tn : Nat → Nat → Nat} {ow : Nat → Nat} {κ N d p F : Nat} {s : Nat} (μ : Mm) (hs : s < 3) (hT : TnOK tn) (hFc : FcR μ tn ow κ) (hMm : MmR μ tn ow κ N) (hd : d + 1 ≤ N) (hN : N ≤ 4) (hp : p ≤ 9) (hF : F < 64) (hwo : ∀ (μ : Mm) (k s : Nat), FcR μ tn ow κ → MmR μ tn ow κ N → k ≤ 6 → s < 3 → Con l g yX1_worth cX1_worth 11 (some .int) (3 * d + 2) [.ref 33, .int (cI k), .int (nI s), .int (nI (d + 1)), .int (nI p), .int (nI F)] μ (fun r μ' => r = some (.int (nI (woT tn ow κ (chT tn ow κ d) p F s k))) ∧ FcR μ' tn ow κ ∧ MmR μ' tn ow κ N ∧ FrM fnd μ μ')) : Con l g yX1_bestCall cX1_bestCall 9 (some .int) (3 * d + 3) [.ref 33, .int (nI s), .int (nI (d + 1)), .int (nI p), .int (nI F)] μ (fun r μ' => r = some (.int (cI (beT tn ow κ (chT tn ow κ d) p F s 6).1)) ∧ FcR μ' tn ow κ ∧ MmR μ' tn ow κ N ∧ FrM fnd μ μ') := by
  have hcle := fun p F => Nat.le_trans (chT_le (ow := ow) (κ := κ) hT d p F) (p30 (d := d) (by omega))
  have hwl := fun k => woT_le (ow := ow) (κ := κ) (p := p) (F := F) (k := k) hT hs hcle
  refine Con.of [.ref 33, .int (nI s), .int (nI (d + 1)), .int (nI p), .int (nI F), .null, .null, .null, .null] 4 (by decide +kernel) (Nat.le_of_ble_eq_true rfl) rfl ?_
  refine V_iconst (pc := 0) (v := (-1)) dX1_bestCall_0 (by decide) ?_
  refine V_istore5 (pc := 1) dX1_bestCall_1 (by decide) rfl ?_
  refine V_aload_n (pc := 3) dX1_bestCall_3 rfl rfl ?_
  refine V_iconst (pc := 4) (v := (-1)) dX1_bestCall_4 (by decide) ?_
  refine V_iload_n (pc := 5) dX1_bestCall_5 rfl rfl ?_
  refine V_iload_n (pc := 6) dX1_bestCall_6 rfl rfl ?_
  refine V_iload_n (pc := 7) dX1_bestCall_7 rfl rfl ?_
  refine V_iload (pc := 8) dX1_bestCall_8 rfl ?_
  refine V_inv5 (pc := 10) (ci := 1) dX1_bestCall_10 ml_X1_49 (by decide) rfl ⟨by decide, rfl⟩ (by omega) (Nat.le_of_ble_eq_true rfl) (hwo μ 0 s hFc hMm (by omega) hs) ?_
  rintro _ μ1 ⟨rfl, g1, g2, g3⟩
  refine V_istore6 (pc := 13) dX1_bestCall_13 (by decide) rfl ?_
  refine V_iconst (pc := 15) (v := 0) dX1_bestCall_15 (by decide) ?_
  refine V_istore7 (pc := 16) dX1_bestCall_16 (by decide) rfl ?_
  have loopA : ∀ (nA n : Nat) (μ1 : Mm) (kb m : Nat) (y8 : Value), n ≤ 6 → 6 < n + nA → ((kb, m) = beT tn ow κ (chT tn ow κ d) p F s n) → (FcR μ1 tn ow κ) → (MmR μ1 tn ow κ N) → (FrM fnd μ μ1) → V l g RX1 cX1_bestCall 9 (some .int) (3 * d + 3) 18 [.ref 33, .int (nI s), .int (nI (d + 1)), .int (nI p), .int (nI F), .int (cI kb), .int (nI m), .int (nI n), y8] [] μ1 (fun r μ' => r = some (.int (cI (beT tn ow κ (chT tn ow κ d) p F s 6).1)) ∧ FcR μ' tn ow κ ∧ MmR μ' tn ow κ N ∧ FrM fnd μ μ') := by
    intro nA
    induction nA with
    | zero => intro n μ1 kb m y8 h1 h2; exact absurd h2 (by omega)
    | succ nA ihA =>
      intro n μ1 kb m y8 hleA hfuA hb g1 g2 g3
      refine V_iload (pc := 18) dX1_bestCall_18 rfl ?_
      refine V_bipush (pc := 20) (v := 6) dX1_bestCall_20 (by decide) ?_
      refine V_icmpge (pc := 22) (tgt := 70) dX1_bestCall_22 (by decide) (fun h22 => ?_) (fun h22 => ?_)
      · have h22 := (nI_leI (a := 6) (b := n) (by decide) (by omega)).mp h22; obtain rfl : n = 6 := by omega
        refine V_iload (pc := 70) dX1_bestCall_70 rfl ?_
        refine V_iret (pc := 72) dX1_bestCall_72 rfl ?_
        exact ⟨by rw [← hb], g1, g2, g3⟩
      have hlt : n < 6 := nI_l3 (a := 6) (by decide) (by omega) h22
      refine V_iload (pc := 25) dX1_bestCall_25 rfl ?_
      refine V_iload (pc := 27) dX1_bestCall_27 rfl ?_
      refine V_ishr (pc := 29) dX1_bestCall_29 ?_
      refine V_iconst (pc := 30) (v := 1) dX1_bestCall_30 (by decide) ?_
      refine V_iand (pc := 31) dX1_bestCall_31 ?_
      refine V_iconst (pc := 32) (v := 1) dX1_bestCall_32 (by decide) ?_
      refine V_icmpne (pc := 33) (tgt := 64) dX1_bestCall_33 (by decide) (fun h33 => ?_) (fun h33 => ?_)
      · rw [bit_get F hF n (by omega)] at h33; have hbit : ¬ F.testBit n = true := fun q => h33 (by rw [q]; rfl)
        refine V_iinc7 (pc := 64) (v := nI (n + 1)) dX1_bestCall_64 (nI_1 n) (by decide) rfl ?_
        refine V_goto (pc := 67) (tgt := 18) dX1_bestCall_67 (by decide) ?_
        first | exact ihA (n + 1) μ1 kb m _ (by omega) (by omega) (by show _ = (let q := beT tn ow κ (chT tn ow κ d) p F s n; if F.testBit n = true ∧ q.2 < woT tn ow κ (chT tn ow κ d) p F s (n + 1) then (n + 1, woT tn ow κ (chT tn ow κ d) p F s (n + 1)) else q); rw [← hb]; simp only; rw [if_neg (fun q => hbit q.1)]) g1 g2 g3 | exact ihA (n + 1) μ2 kb m _ (by omega) (by omega) (by show _ = (let q := beT tn ow κ (chT tn ow κ d) p F s n; if F.testBit n = true ∧ q.2 < woT tn ow κ (chT tn ow κ d) p F s (n + 1) then (n + 1, woT tn ow κ (chT tn ow κ d) p F s (n + 1)) else q); rw [← hb]; simp only; rw [if_neg (fun q => by omega)]) k1 k2 (g3.tr k3 (fun _ q => q)) | (rw [← cI_s n]; exact ihA (n + 1) μ2 (n + 1) _ _ (by omega) (by omega) (by show _ = (let q := beT tn ow κ (chT tn ow κ d) p F s n; if F.testBit n = true ∧ q.2 < woT tn ow κ (chT tn ow κ d) p F s (n + 1) then (n + 1, woT tn ow κ (chT tn ow κ d) p F s (n + 1)) else q); rw [← hb]; simp only; rw [if_pos ⟨hbit, by omega⟩]) k1 k2 (g3.tr k3 (fun _ q => q)))
      rw [bit_get F hF n (by omega)] at h33; have hbit : F.testBit n = true := by cases hq : F.testBit n; rw [hq] at h33; exact absurd h33 (by decide); rfl
      refine V_aload_n (pc := 36) dX1_bestCall_36 rfl rfl ?_
      refine V_iload (pc := 37) dX1_bestCall_37 rfl ?_
      refine V_iload_n (pc := 39) dX1_bestCall_39 rfl rfl ?_
      refine V_iload_n (pc := 40) dX1_bestCall_40 rfl rfl ?_
      refine V_iload_n (pc := 41) dX1_bestCall_41 rfl rfl ?_
      refine V_iload (pc := 42) dX1_bestCall_42 rfl ?_
      refine V_inv5 (pc := 44) (ci := 1) dX1_bestCall_44 ml_X1_49 (by decide) rfl ⟨by decide, rfl⟩ (by omega) (Nat.le_of_ble_eq_true rfl) (cI_s n ▸ hwo μ1 (n + 1) s g1 g2 (by omega) hs) ?_
      rintro _ μ2 ⟨rfl, k1, k2, k3⟩
      refine V_istore8 (pc := 47) dX1_bestCall_47 (by decide) rfl ?_
      have hm : m ≤ 8100000 := by
        have e := (beT_snd (tn := tn) (ow := ow) (κ := κ) (c := chT tn ow κ d) (p := p) (F := F) (s := s) n).1
        rw [← hb] at e
        have e2 : m = woT tn ow κ (chT tn ow κ d) p F s kb := e
        have := hwl kb
        omega
      have hw2 := hwl (n + 1)
      refine V_iload (pc := 49) dX1_bestCall_49 rfl ?_
      refine V_iload (pc := 51) dX1_bestCall_51 rfl ?_
      refine V_icmple (pc := 53) (tgt := 64) dX1_bestCall_53 (by decide) (fun h53 => ?_) (fun h53 => ?_)
      · have h53 := (nI_leI (a := woT tn ow κ (chT tn ow κ d) p F s (n + 1)) (b := m) (by omega) (by omega)).mp h53
        refine V_iinc7 (pc := 64) (v := nI (n + 1)) dX1_bestCall_64 (nI_1 n) (by decide) rfl ?_
        refine V_goto (pc := 67) (tgt := 18) dX1_bestCall_67 (by decide) ?_
        first | exact ihA (n + 1) μ1 kb m _ (by omega) (by omega) (by show _ = (let q := beT tn ow κ (chT tn ow κ d) p F s n; if F.testBit n = true ∧ q.2 < woT tn ow κ (chT tn ow κ d) p F s (n + 1) then (n + 1, woT tn ow κ (chT tn ow κ d) p F s (n + 1)) else q); rw [← hb]; simp only; rw [if_neg (fun q => hbit q.1)]) g1 g2 g3 | exact ihA (n + 1) μ2 kb m _ (by omega) (by omega) (by show _ = (let q := beT tn ow κ (chT tn ow κ d) p F s n; if F.testBit n = true ∧ q.2 < woT tn ow κ (chT tn ow κ d) p F s (n + 1) then (n + 1, woT tn ow κ (chT tn ow κ d) p F s (n + 1)) else q); rw [← hb]; simp only; rw [if_neg (fun q => by omega)]) k1 k2 (g3.tr k3 (fun _ q => q)) | (rw [← cI_s n]; exact ihA (n + 1) μ2 (n + 1) _ _ (by omega) (by omega) (by show _ = (let q := beT tn ow κ (chT tn ow κ d) p F s n; if F.testBit n = true ∧ q.2 < woT tn ow κ (chT tn ow κ d) p F s (n + 1) then (n + 1, woT tn ow κ (chT tn ow κ d) p F s (n + 1)) else q); rw [← hb]; simp only; rw [if_pos ⟨hbit, by omega⟩]) k1 k2 (g3.tr k3 (fun _ q => q)))
      have h53 := mt (nI_leI (a := woT tn ow κ (chT tn ow κ d) p F s (n + 1)) (b := m) (by omega) (by omega)).mpr h53
      refine V_iload (pc := 56) dX1_bestCall_56 rfl ?_
      refine V_istore5 (pc := 58) dX1_bestCall_58 (by decide) rfl ?_
      refine V_iload (pc := 60) dX1_bestCall_60 rfl ?_
      refine V_istore6 (pc := 62) dX1_bestCall_62 (by decide) rfl ?_
      refine V_iinc7 (pc := 64) (v := nI (n + 1)) dX1_bestCall_64 (nI_1 n) (by decide) rfl ?_
      refine V_goto (pc := 67) (tgt := 18) dX1_bestCall_67 (by decide) ?_
      first | exact ihA (n + 1) μ1 kb m _ (by omega) (by omega) (by show _ = (let q := beT tn ow κ (chT tn ow κ d) p F s n; if F.testBit n = true ∧ q.2 < woT tn ow κ (chT tn ow κ d) p F s (n + 1) then (n + 1, woT tn ow κ (chT tn ow κ d) p F s (n + 1)) else q); rw [← hb]; simp only; rw [if_neg (fun q => hbit q.1)]) g1 g2 g3 | exact ihA (n + 1) μ2 kb m _ (by omega) (by omega) (by show _ = (let q := beT tn ow κ (chT tn ow κ d) p F s n; if F.testBit n = true ∧ q.2 < woT tn ow κ (chT tn ow κ d) p F s (n + 1) then (n + 1, woT tn ow κ (chT tn ow κ d) p F s (n + 1)) else q); rw [← hb]; simp only; rw [if_neg (fun q => by omega)]) k1 k2 (g3.tr k3 (fun _ q => q)) | (rw [← cI_s n]; exact ihA (n + 1) μ2 (n + 1) _ _ (by omega) (by omega) (by show _ = (let q := beT tn ow κ (chT tn ow κ d) p F s n; if F.testBit n = true ∧ q.2 < woT tn ow κ (chT tn ow κ d) p F s (n + 1) then (n + 1, woT tn ow κ (chT tn ow κ d) p F s (n + 1)) else q); rw [← hb]; simp only; rw [if_pos ⟨hbit, by omega⟩]) k1 k2 (g3.tr k3 (fun _ q => q)))
  exact loopA (6 + 1) 0 _ 0 _ _ (by omega) (by omega) rfl g1 g2 g3
theorem dX1_chances_0 : decode cX1_chances 0 = .ok (.iload_n 2, 1) := by decide +kernel
theorem dX1_chances_1 : decode cX1_chances 1 = .ok (.bipush 9, 2) := by decide +kernel
theorem dX1_chances_3 : decode cX1_chances 3 = .ok (.if_icmp .ne 9, 3) := by decide +kernel
theorem dX1_chances_6 : decode cX1_chances 6 = .ok (.getstatic 42, 3) := by decide +kernel
theorem dX1_chances_9 : decode cX1_chances 9 = .ok (.iload_n 1, 1) := by decide +kernel
theorem dX1_chances_10 : decode cX1_chances 10 = .ok (.iaload, 1) := by decide +kernel
theorem dX1_chances_11 : decode cX1_chances 11 = .ok (.ireturn, 1) := by decide +kernel
theorem dX1_chances_12 : decode cX1_chances 12 = .ok (.iload_n 1, 1) := by decide +kernel
theorem dX1_chances_13 : decode cX1_chances 13 = .ok (.ifCond .gt 5, 3) := by decide +kernel
theorem dX1_chances_18 : decode cX1_chances 18 = .ok (.iload_n 2, 1) := by decide +kernel
theorem dX1_chances_19 : decode cX1_chances 19 = .ok (.bipush 64, 2) := by decide +kernel
theorem dX1_chances_21 : decode cX1_chances 21 = .ok (.imul, 1) := by decide +kernel
theorem dX1_chances_22 : decode cX1_chances 22 = .ok (.iload_n 3, 1) := by decide +kernel
theorem dX1_chances_23 : decode cX1_chances 23 = .ok (.iadd, 1) := by decide +kernel
theorem dX1_chances_24 : decode cX1_chances 24 = .ok (.istore 4, 2) := by decide +kernel
theorem dX1_chances_26 : decode cX1_chances 26 = .ok (.aload_n 0, 1) := by decide +kernel
theorem dX1_chances_27 : decode cX1_chances 27 = .ok (.getfield 11, 3) := by decide +kernel
theorem dX1_chances_30 : decode cX1_chances 30 = .ok (.iload_n 1, 1) := by decide +kernel
theorem dX1_chances_31 : decode cX1_chances 31 = .ok (.aaload, 1) := by decide +kernel
theorem dX1_chances_32 : decode cX1_chances 32 = .ok (.iload 4, 2) := by decide +kernel
theorem dX1_chances_34 : decode cX1_chances 34 = .ok (.iaload, 1) := by decide +kernel
theorem dX1_chances_35 : decode cX1_chances 35 = .ok (.iconst (-1), 1) := by decide +kernel
theorem dX1_chances_36 : decode cX1_chances 36 = .ok (.if_icmp .ne 55, 3) := by decide +kernel
theorem dX1_chances_39 : decode cX1_chances 39 = .ok (.iconst 0, 1) := by decide +kernel
theorem dX1_chances_40 : decode cX1_chances 40 = .ok (.istore 5, 2) := by decide +kernel
theorem dX1_chances_42 : decode cX1_chances 42 = .ok (.iconst 0, 1) := by decide +kernel
theorem dX1_chances_43 : decode cX1_chances 43 = .ok (.istore 6, 2) := by decide +kernel
theorem dX1_chances_45 : decode cX1_chances 45 = .ok (.iload 6, 2) := by decide +kernel
theorem dX1_chances_47 : decode cX1_chances 47 = .ok (.iconst 3, 1) := by decide +kernel
theorem dX1_chances_48 : decode cX1_chances 48 = .ok (.if_icmp .ge 32, 3) := by decide +kernel
theorem dX1_chances_51 : decode cX1_chances 51 = .ok (.iload 5, 2) := by decide +kernel
theorem dX1_chances_53 : decode cX1_chances 53 = .ok (.aload_n 0, 1) := by decide +kernel
theorem dX1_chances_54 : decode cX1_chances 54 = .ok (.aload_n 0, 1) := by decide +kernel
theorem dX1_chances_55 : decode cX1_chances 55 = .ok (.iload 6, 2) := by decide +kernel
theorem dX1_chances_57 : decode cX1_chances 57 = .ok (.iload_n 1, 1) := by decide +kernel
theorem dX1_chances_58 : decode cX1_chances 58 = .ok (.iload_n 2, 1) := by decide +kernel
theorem dX1_chances_59 : decode cX1_chances 59 = .ok (.iload_n 3, 1) := by decide +kernel
theorem dX1_chances_60 : decode cX1_chances 60 = .ok (.invokevirtual 45, 3) := by decide +kernel
theorem dX1_chances_63 : decode cX1_chances 63 = .ok (.iload 6, 2) := by decide +kernel
theorem dX1_chances_65 : decode cX1_chances 65 = .ok (.iload_n 1, 1) := by decide +kernel
theorem dX1_chances_66 : decode cX1_chances 66 = .ok (.iload_n 2, 1) := by decide +kernel
theorem dX1_chances_67 : decode cX1_chances 67 = .ok (.iload_n 3, 1) := by decide +kernel
theorem dX1_chances_68 : decode cX1_chances 68 = .ok (.invokevirtual 49, 3) := by decide +kernel
theorem dX1_chances_71 : decode cX1_chances 71 = .ok (.iadd, 1) := by decide +kernel
theorem dX1_chances_72 : decode cX1_chances 72 = .ok (.istore 5, 2) := by decide +kernel
theorem dX1_chances_74 : decode cX1_chances 74 = .ok (.iinc 6 1, 3) := by decide +kernel
theorem dX1_chances_77 : decode cX1_chances 77 = .ok (.goto (-32), 3) := by decide +kernel
theorem dX1_chances_80 : decode cX1_chances 80 = .ok (.aload_n 0, 1) := by decide +kernel
theorem dX1_chances_81 : decode cX1_chances 81 = .ok (.getfield 11, 3) := by decide +kernel
theorem dX1_chances_84 : decode cX1_chances 84 = .ok (.iload_n 1, 1) := by decide +kernel
theorem dX1_chances_85 : decode cX1_chances 85 = .ok (.aaload, 1) := by decide +kernel
theorem dX1_chances_86 : decode cX1_chances 86 = .ok (.iload 4, 2) := by decide +kernel
theorem dX1_chances_88 : decode cX1_chances 88 = .ok (.iload 5, 2) := by decide +kernel
theorem dX1_chances_90 : decode cX1_chances 90 = .ok (.iastore, 1) := by decide +kernel
theorem dX1_chances_91 : decode cX1_chances 91 = .ok (.aload_n 0, 1) := by decide +kernel
theorem dX1_chances_92 : decode cX1_chances 92 = .ok (.getfield 11, 3) := by decide +kernel
theorem dX1_chances_95 : decode cX1_chances 95 = .ok (.iload_n 1, 1) := by decide +kernel
theorem dX1_chances_96 : decode cX1_chances 96 = .ok (.aaload, 1) := by decide +kernel
theorem dX1_chances_97 : decode cX1_chances 97 = .ok (.iload 4, 2) := by decide +kernel
theorem dX1_chances_99 : decode cX1_chances 99 = .ok (.iaload, 1) := by decide +kernel
theorem dX1_chances_100 : decode cX1_chances 100 = .ok (.ireturn, 1) := by decide +kernel
set_option maxHeartbeats 4000000 in
set_option maxRecDepth 100000 in
theorem c_X1_chancesS {l : Launch} {g : GW} {tn : Nat → Nat → Nat} {ow : Nat → Nat} {κ N d p F : Nat} (μ : Mm) (hT : TnOK tn) (hFc : FcR μ tn ow κ) (hMm : MmR μ tn ow κ N) (hd : d + 1 ≤ N) (hN : N ≤ 4) (hp : p ≤ 9) (hF : F < 64) (hwo : ∀ (μ : Mm) (k s : Nat), FcR μ tn ow κ → MmR μ tn ow κ N → k ≤ 6 → s < 3 → Con l g yX1_worth cX1_worth 11 (some .int) (3 * d + 2) [.ref 33, .int (cI k), .int (nI s), .int (nI (d + 1)), .int (nI p), .int (nI F)] μ (fun r μ' => r = some (.int (nI (woT tn ow κ (chT tn ow κ d) p F s k))) ∧ FcR μ' tn ow κ ∧ MmR μ' tn ow κ N ∧ FrM fnd μ μ')) (hbe : ∀ (μ : Mm) (s : Nat), FcR μ tn ow κ → MmR μ tn ow κ N → s < 3 → Con l g yX1_bestCall cX1_bestCall 9 (some .int) (3 * d + 3) [.ref 33, .int (nI s), .int (nI (d + 1)), .int (nI p), .int (nI F)] μ (fun r μ' => r = some (.int (cI (beT tn ow κ (chT tn ow κ d) p F s 6).1)) ∧ FcR μ' tn ow κ ∧ MmR μ' tn ow κ N ∧ FrM fnd μ μ')) : Con l g yX1_chances cX1_chances 7 (some .int) (3 * d + 4) [.ref 33, .int (nI (d + 1)), .int (nI p), .int (nI F)] μ (fun r μ' => r = some (.int (nI (chT tn ow κ (d + 1) p F))) ∧ FcR μ' tn ow κ ∧ MmR μ' tn ow κ N ∧ FrM fnd μ μ') := by
  have hcle := fun p F => Nat.le_trans (chT_le (ow := ow) (κ := κ) hT d p F) (p30 (d := d) (by omega))
  have hsl := fun n hn => suT_le (ow := ow) (κ := κ) (p := p) (F := F) hT hcle n hn
  obtain ⟨e1, e2⟩ := fcF (d + 1) (by omega)
  have hix : p * 64 + F < 640 := by omega
  refine Con.of [.ref 33, .int (nI (d + 1)), .int (nI p), .int (nI F), .null, .null, .null] 3 (by decide +kernel) (Nat.le_of_ble_eq_true rfl) rfl ?_
  refine V_iload_n (pc := 0) dX1_chances_0 rfl rfl ?_
  refine V_bipush (pc := 1) (v := 9) dX1_chances_1 (by decide) ?_
  refine V_icmpne (pc := 3) (tgt := 12) dX1_chances_3 (by decide) (fun h3 => ?_) (fun h3 => ?_)
  · have h3 := mt (nI_eq (a := p) (b := 9) (by omega) (by decide)).mpr h3
    refine V_iload_n (pc := 12) dX1_chances_12 rfl rfl ?_
    refine V_ifgt (pc := 13) (tgt := 18) dX1_chances_13 (by decide) (fun h13 => ?_) (fun h13 => ?_)
    · refine V_iload_n (pc := 18) dX1_chances_18 rfl rfl ?_
      refine V_bipush (pc := 19) (v := 64) dX1_chances_19 (by decide) ?_
      refine V_imul (pc := 21) dX1_chances_21 ?_
      refine V_iload_n (pc := 22) dX1_chances_22 rfl rfl ?_
      refine V_iadd (pc := 23) dX1_chances_23 ?_
      rw [show nI p * (64 : Int32) + nI F = nI (p * 64 + F) from by rw [show (64 : Int32) = nI 64 from rfl, pk_mul, nI_add]]
      refine V_istore4 (pc := 24) dX1_chances_24 (by decide) rfl ?_
      have J : ∀ (μ1 : Mm), FcR μ1 tn ow κ → MmR μ1 tn ow κ N → FrM fnd μ μ1 → μ1.1 (34 + 1 + (d + 1)) (p * 64 + F) = nI (chT tn ow κ (d + 1) p F) → ∀ (y5 y6 : Value), V l g RX1 cX1_chances 7 (some .int) (3 * d + 4) 91 [.ref 33, .int (nI (d + 1)), .int (nI p), .int (nI F), .int (nI (p * 64 + F)), y5, y6] [] μ1 (fun r μ' => r = some (.int (nI (chT tn ow κ (d + 1) p F))) ∧ FcR μ' tn ow κ ∧ MmR μ' tn ow κ N ∧ FrM fnd μ μ') := by
        intro μ1 g1 g2 g3 gv y5 y6
        refine V_aload_n (pc := 91) dX1_chances_91 rfl rfl ?_
        refine V_getR (pc := 92) (ci := 1) (j := 0) (k2 := 34) dX1_chances_92 fl_X1_11 (fun _ _ _ _ => rfl) (by decide) rfl (rf_1_0 rfl) ?_
        refine V_iload_n (pc := 95) dX1_chances_95 rfl rfl ?_
        refine V_aald15 (pc := 96) (j := (d + 1)) dX1_chances_96 (by decide) rfl rfl (by show d + 1 < 5; omega) ?_
        refine V_iload (pc := 97) dX1_chances_97 rfl ?_
        refine V_iald (pc := 99) (j := (p * 64 + F)) dX1_chances_99 (by first | decide | omega) (by first | rfl | assumption | exact (fcF _ (by omega)).1 | decide) rfl (by show _ < kn (35 + (d + 1)); omega) ?_
        refine V_iret (pc := 100) dX1_chances_100 rfl ?_
        exact ⟨by rw [gv], g1, g2, g3⟩
      refine V_aload_n (pc := 26) dX1_chances_26 rfl rfl ?_
      refine V_getR (pc := 27) (ci := 1) (j := 0) (k2 := 34) dX1_chances_27 fl_X1_11 (fun _ _ _ _ => rfl) (by decide) rfl (rf_1_0 rfl) ?_
      refine V_iload_n (pc := 30) dX1_chances_30 rfl rfl ?_
      refine V_aald15 (pc := 31) (j := (d + 1)) dX1_chances_31 (by decide) rfl rfl (by show d + 1 < 5; omega) ?_
      refine V_iload (pc := 32) dX1_chances_32 rfl ?_
      refine V_iald (pc := 34) (j := (p * 64 + F)) dX1_chances_34 (by first | decide | omega) (by first | rfl | assumption | exact (fcF _ (by omega)).1 | decide) rfl (by show _ < kn (35 + (d + 1)); omega) ?_
      refine V_iconst (pc := 35) (v := (-1)) dX1_chances_35 (by decide) ?_
      refine V_icmpne (pc := 36) (tgt := 91) dX1_chances_36 (by decide) (fun h36 => ?_) (fun h36 => ?_)
      · exact J μ hFc hMm FrM.rf ((hMm (d + 1) p F (by omega) hd hp hF).elim (fun q => absurd q h36) id) _ _
      refine V_iconst (pc := 39) (v := 0) dX1_chances_39 (by decide) ?_
      refine V_istore5 (pc := 40) dX1_chances_40 (by decide) rfl ?_
      refine V_iconst (pc := 42) (v := 0) dX1_chances_42 (by decide) ?_
      refine V_istore6 (pc := 43) dX1_chances_43 (by decide) rfl ?_
      have loopA : ∀ (nA s : Nat) (μ1 : Mm) (acc : Int32), s ≤ 3 → 3 < s + nA → (acc = nI (suT tn ow κ (chT tn ow κ d) p F s)) → (FcR μ1 tn ow κ) → (MmR μ1 tn ow κ N) → (FrM fnd μ μ1) → V l g RX1 cX1_chances 7 (some .int) (3 * d + 4) 45 [.ref 33, .int (nI (d + 1)), .int (nI p), .int (nI F), .int (nI (p * 64 + F)), .int acc, .int (nI s)] [] μ1 (fun r μ' => r = some (.int (nI (chT tn ow κ (d + 1) p F))) ∧ FcR μ' tn ow κ ∧ MmR μ' tn ow κ N ∧ FrM fnd μ μ') := by
        intro nA
        induction nA with
        | zero => intro s μ1 acc h1 h2; exact absurd h2 (by omega)
        | succ nA ihA =>
          intro s μ1 acc hleA hfuA hacc g1 g2 g3
          refine V_iload (pc := 45) dX1_chances_45 rfl ?_
          refine V_iconst (pc := 47) (v := 3) dX1_chances_47 (by decide) ?_
          refine V_icmpge (pc := 48) (tgt := 80) dX1_chances_48 (by decide) (fun h48 => ?_) (fun h48 => ?_)
          · have h48 := (nI_leI (a := 3) (b := s) (by decide) (by omega)).mp h48; obtain rfl : s = 3 := by omega
            refine V_aload_n (pc := 80) dX1_chances_80 rfl rfl ?_
            refine V_getR (pc := 81) (ci := 1) (j := 0) (k2 := 34) dX1_chances_81 fl_X1_11 (fun _ _ _ _ => rfl) (by decide) rfl (rf_1_0 rfl) ?_
            refine V_iload_n (pc := 84) dX1_chances_84 rfl rfl ?_
            refine V_aald15 (pc := 85) (j := (d + 1)) dX1_chances_85 (by decide) rfl rfl (by show d + 1 < 5; omega) ?_
            refine V_iload (pc := 86) dX1_chances_86 rfl ?_
            refine V_iload (pc := 88) dX1_chances_88 rfl ?_
            refine V_iast (pc := 90) (j := (p * 64 + F)) dX1_chances_90 (by first | decide | omega) (by first | rfl | assumption | exact (fcF _ (by omega)).1 | decide) rfl (by show _ < kn (35 + (d + 1)); omega) ?_
            have hFn : FrM fnd μ1 (setI μ1 (34 + 1 + (d + 1)) (p * 64 + F) acc) := FrM.rf.set (show 35 ≤ 34 + 1 + (d + 1) ∧ 34 + 1 + (d + 1) ≤ 39 by omega)
            have hval : acc = nI (chT tn ow κ (d + 1) p F) := by rw [hacc]; simp only [chT]; rw [if_neg h3]
            refine J _ (g1.kept hFn) (fun d2 p2 F2 h1 h2 h3 h4 => ?_) (g3.tr hFn (fun _ q => q)) (by rw [get_eq, hval]) _ _
            by_cases e : d2 = d + 1 ∧ p2 = p ∧ F2 = F
            · obtain ⟨rfl, rfl, rfl⟩ := e
              exact Or.inr (by rw [show 35 + (d + 1) = 34 + 1 + (d + 1) by omega, get_eq, hval])
            · rw [get_ne (fun q => e ⟨by omega, by omega, by omega⟩)]
              exact g2 d2 p2 F2 h1 h2 h3 h4
          have hlt : s < 3 := nI_l3 (a := 3) (by decide) (by omega) h48
          refine V_iload (pc := 51) dX1_chances_51 rfl ?_
          refine V_aload_n (pc := 53) dX1_chances_53 rfl rfl ?_
          refine V_aload_n (pc := 54) dX1_chances_54 rfl rfl ?_
          refine V_iload (pc := 55) dX1_chances_55 rfl ?_
          refine V_iload_n (pc := 57) dX1_chances_57 rfl rfl ?_
          refine V_iload_n (pc := 58) dX1_chances_58 rfl rfl ?_
          refine V_iload_n (pc := 59) dX1_chances_59 rfl rfl ?_
          refine V_inv4 (pc := 60) (ci := 1) dX1_chances_60 ml_X1_45 (by decide) rfl ⟨by decide, rfl⟩ (by omega) (Nat.le_of_ble_eq_true rfl) (hbe μ1 s g1 g2 (by omega)) ?_
          rintro _ μ2 ⟨rfl, k1, k2, k3⟩
          refine V_iload (pc := 63) dX1_chances_63 rfl ?_
          refine V_iload_n (pc := 65) dX1_chances_65 rfl rfl ?_
          refine V_iload_n (pc := 66) dX1_chances_66 rfl rfl ?_
          refine V_iload_n (pc := 67) dX1_chances_67 rfl rfl ?_
          refine V_inv5 (pc := 68) (ci := 1) dX1_chances_68 ml_X1_49 (by decide) rfl ⟨by decide, rfl⟩ (by omega) (Nat.le_of_ble_eq_true rfl) (hwo μ2 (beT tn ow κ (chT tn ow κ d) p F s 6).1 s k1 k2 (beT_snd 6).2 (by omega)) ?_
          rintro _ μ3 ⟨rfl, m1, m2, m3⟩
          refine V_iadd (pc := 71) dX1_chances_71 ?_
          refine V_istore5 (pc := 72) dX1_chances_72 (by decide) rfl ?_
          refine V_iinc6 (pc := 74) (v := nI (s + 1)) dX1_chances_74 (nI_1 s) (by decide) rfl ?_
          refine V_goto (pc := 77) (tgt := 45) dX1_chances_77 (by decide) ?_
          exact ihA (s + 1) μ3 _ (by omega) (by omega) (by rw [hacc, nI_add]; rfl) m1 m2 ((g3.tr k3 (fun _ q => q)).tr m3 (fun _ q => q))
      exact loopA (3 + 1) 0 _ _ (by omega) (by omega) rfl hFc hMm FrM.rf
    exact absurd ((nI_ltI (a := 0) (b := d + 1) (by decide) (by omega)).mpr (by omega)) h13
  have h3 := (nI_eq (a := p) (b := 9) (by omega) (by decide)).mp h3
  refine V_getsN (pc := 6) (k := 90) dX1_chances_6 (by decide) (by decide) gs_X1_42 ?_
  refine V_iload_n (pc := 9) dX1_chances_9 rfl rfl ?_
  refine V_sald (pc := 10) (j := (d + 1)) dX1_chances_10 (by decide) (by decide) rfl (by show d + 1 < 7; omega) ?_
  refine V_iret (pc := 11) dX1_chances_11 rfl ?_
  exact ⟨by rw [stT90 (d + 1) (by omega), show chT tn ow κ (d + 1) p F = 30 ^ (d + 1) from if_pos h3], hFc, hMm, FrM.rf⟩
theorem dX1_chances_16 : decode cX1_chances 16 = .ok (.iconst 0, 1) := by decide +kernel
theorem dX1_chances_17 : decode cX1_chances 17 = .ok (.ireturn, 1) := by decide +kernel
set_option maxHeartbeats 4000000 in
set_option maxRecDepth 100000 in
theorem c_X1_chances0 {l : Launch} {g : GW} {tn : Nat → Nat → Nat} {ow : Nat → Nat} {κ N p F : Nat} (μ : Mm) (hFc : FcR μ tn ow κ) (hMm : MmR μ tn ow κ N) (hp : p ≤ 9) : Con l g yX1_chances cX1_chances 7 (some .int) 1 [.ref 33, .int (nI 0), .int (nI p), .int (nI F)] μ (fun r μ' => r = some (.int (nI (chT tn ow κ 0 p F))) ∧ FcR μ' tn ow κ ∧ MmR μ' tn ow κ N ∧ FrM fnd μ μ') := by
  refine Con.of [.ref 33, .int (nI 0), .int (nI p), .int (nI F), .null, .null, .null] 3 (by decide +kernel) (Nat.le_of_ble_eq_true rfl) rfl ?_
  refine V_iload_n (pc := 0) dX1_chances_0 rfl rfl ?_
  refine V_bipush (pc := 1) (v := 9) dX1_chances_1 (by decide) ?_
  refine V_icmpne (pc := 3) (tgt := 12) dX1_chances_3 (by decide) (fun h3 => ?_) (fun h3 => ?_)
  · have h3 := mt (nI_eq (a := p) (b := 9) (by omega) (by decide)).mpr h3
    refine V_iload_n (pc := 12) dX1_chances_12 rfl rfl ?_
    refine V_ifgt (pc := 13) (tgt := 18) dX1_chances_13 (by decide) (fun h13 => ?_) (fun h13 => ?_)
    · exact absurd h13 (by decide)
    refine V_iconst (pc := 16) (v := 0) dX1_chances_16 (by decide) ?_
    refine V_iret (pc := 17) dX1_chances_17 rfl ?_
    exact ⟨by rw [show chT tn ow κ 0 p F = 0 from if_neg h3]; rfl, hFc, hMm, FrM.rf⟩
  have h3 := (nI_eq (a := p) (b := 9) (by omega) (by decide)).mp h3
  refine V_getsN (pc := 6) (k := 90) dX1_chances_6 (by decide) (by decide) gs_X1_42 ?_
  refine V_iload_n (pc := 9) dX1_chances_9 rfl rfl ?_
  refine V_sald (pc := 10) (j := 0) dX1_chances_10 (by decide) (by decide) rfl (by decide) ?_
  refine V_iret (pc := 11) dX1_chances_11 rfl ?_
  exact ⟨by rw [show chT tn ow κ 0 p F = 1 from if_pos h3]; rfl, hFc, hMm, FrM.rf⟩
theorem c_X1_chances {l : Launch} {g : GW} {tn : Nat → Nat → Nat} {ow : Nat → Nat} {κ N : Nat} (hT : TnOK tn) (hN : N ≤ 4) : ∀ (d : Nat), d ≤ N → ∀ (μ : Mm) (p F : Nat), FcR μ tn ow κ → MmR μ tn ow κ N → p ≤ 9 → F < 64 → Con l g yX1_chances cX1_chances 7 (some .int) (3 * d + 1) [.ref 33, .int (nI d), .int (nI p), .int (nI F)] μ (fun r μ' => r = some (.int (nI (chT tn ow κ d p F))) ∧ FcR μ' tn ow κ ∧ MmR μ' tn ow κ N ∧ FrM fnd μ μ')
  | 0, _, μ, p, F, h1, h2, h3, _ => c_X1_chances0 μ h1 h2 h3
  | d + 1, hd, μ, p, F, h1, h2, h3, h4 => c_X1_chancesS μ hT h1 h2 hd hN h3 h4 (fun μ k s a1 a2 a3 a4 => c_X1_worth μ a3 a4 hT a1 a2 hd hN h3 h4 (fun μ p F b1 b2 b3 b4 => c_X1_chances hT hN d (by omega) μ p F b1 b2 b3 b4)) (fun μ s a1 a2 a3 => c_X1_bestCall μ a3 hT a1 a2 hd hN h3 h4 (fun μ k s b1 b2 b3 b4 => c_X1_worth μ b3 b4 hT b1 b2 hd hN h3 h4 (fun μ p F e1 e2 e3 e4 => c_X1_chances hT hN d (by omega) μ p F e1 e2 e3 e4)))
theorem c_X1_best {l : Launch} {g : GW} {tn : Nat → Nat → Nat} {ow : Nat → Nat} {κ N d p F s : Nat} (μ : Mm) (hT : TnOK tn) (hN : N ≤ 4) (hd : d + 1 ≤ N) (hs : s < 3) (h1 : FcR μ tn ow κ) (h2 : MmR μ tn ow κ N) (h3 : p ≤ 9) (h4 : F < 64) : Con l g yX1_bestCall cX1_bestCall 9 (some .int) (3 * d + 3) [.ref 33, .int (nI s), .int (nI (d + 1)), .int (nI p), .int (nI F)] μ (fun r μ' => r = some (.int (cI (beT tn ow κ (chT tn ow κ d) p F s 6).1)) ∧ FcR μ' tn ow κ ∧ MmR μ' tn ow κ N ∧ FrM fnd μ μ') :=
  c_X1_bestCall μ hs hT h1 h2 hd hN h3 h4 (fun μ k s b1 b2 b3 b4 => c_X1_worth μ b3 b4 hT b1 b2 hd hN h3 h4 (fun μ p F e1 e2 e3 e4 => c_X1_chances hT hN d (by omega) μ p F e1 e2 e3 e4))
