theorem dX4_passYears_0 : decode cX4_passYears 0 = .ok (.iload_n 3, 1) := by decide +kernel
theorem dX4_passYears_1 : decode cX4_passYears 1 = .ok (.istore 4, 2) := by decide +kernel
theorem dX4_passYears_3 : decode cX4_passYears 3 = .ok (.iconst 0, 1) := by decide +kernel
theorem dX4_passYears_4 : decode cX4_passYears 4 = .ok (.istore 5, 2) := by decide +kernel
theorem dX4_passYears_6 : decode cX4_passYears 6 = .ok (.iload 5, 2) := by decide +kernel
theorem dX4_passYears_8 : decode cX4_passYears 8 = .ok (.iload_n 2, 1) := by decide +kernel
theorem dX4_passYears_9 : decode cX4_passYears 9 = .ok (.if_icmp .ge 126, 3) := by decide +kernel
theorem dX4_passYears_12 : decode cX4_passYears 12 = .ok (.iload 4, 2) := by decide +kernel
theorem dX4_passYears_14 : decode cX4_passYears 14 = .ok (.invokestatic 103, 3) := by decide +kernel
theorem dX4_passYears_17 : decode cX4_passYears 17 = .ok (.istore 4, 2) := by decide +kernel
theorem dX4_passYears_19 : decode cX4_passYears 19 = .ok (.iload 4, 2) := by decide +kernel
theorem dX4_passYears_21 : decode cX4_passYears 21 = .ok (.iconst 3, 1) := by decide +kernel
theorem dX4_passYears_22 : decode cX4_passYears 22 = .ok (.invokestatic 106, 3) := by decide +kernel
theorem dX4_passYears_25 : decode cX4_passYears 25 = .ok (.istore 6, 2) := by decide +kernel
theorem dX4_passYears_27 : decode cX4_passYears 27 = .ok (.iconst 0, 1) := by decide +kernel
theorem dX4_passYears_28 : decode cX4_passYears 28 = .ok (.istore 7, 2) := by decide +kernel
theorem dX4_passYears_30 : decode cX4_passYears 30 = .ok (.iload 7, 2) := by decide +kernel
theorem dX4_passYears_32 : decode cX4_passYears 32 = .ok (.aload_n 0, 1) := by decide +kernel
theorem dX4_passYears_33 : decode cX4_passYears 33 = .ok (.getfield 31, 3) := by decide +kernel
theorem dX4_passYears_36 : decode cX4_passYears 36 = .ok (.if_icmp .ge 68, 3) := by decide +kernel
theorem dX4_passYears_39 : decode cX4_passYears 39 = .ok (.aload_n 0, 1) := by decide +kernel
theorem dX4_passYears_40 : decode cX4_passYears 40 = .ok (.getfield 11, 3) := by decide +kernel
theorem dX4_passYears_43 : decode cX4_passYears 43 = .ok (.iload 7, 2) := by decide +kernel
theorem dX4_passYears_45 : decode cX4_passYears 45 = .ok (.aaload, 1) := by decide +kernel
theorem dX4_passYears_46 : decode cX4_passYears 46 = .ok (.getfield 64, 3) := by decide +kernel
theorem dX4_passYears_49 : decode cX4_passYears 49 = .ok (.bipush 9, 2) := by decide +kernel
theorem dX4_passYears_51 : decode cX4_passYears 51 = .ok (.if_icmp .eq 47, 3) := by decide +kernel
theorem dX4_passYears_54 : decode cX4_passYears 54 = .ok (.iload 4, 2) := by decide +kernel
theorem dX4_passYears_56 : decode cX4_passYears 56 = .ok (.invokestatic 103, 3) := by decide +kernel
theorem dX4_passYears_59 : decode cX4_passYears 59 = .ok (.istore 4, 2) := by decide +kernel
theorem dX4_passYears_61 : decode cX4_passYears 61 = .ok (.iload 4, 2) := by decide +kernel
theorem dX4_passYears_63 : decode cX4_passYears 63 = .ok (.bipush 7, 2) := by decide +kernel
theorem dX4_passYears_65 : decode cX4_passYears 65 = .ok (.invokestatic 106, 3) := by decide +kernel
theorem dX4_passYears_68 : decode cX4_passYears 68 = .ok (.istore 8, 2) := by decide +kernel
theorem dX4_passYears_70 : decode cX4_passYears 70 = .ok (.aload_n 0, 1) := by decide +kernel
theorem dX4_passYears_71 : decode cX4_passYears 71 = .ok (.iload 7, 2) := by decide +kernel
theorem dX4_passYears_73 : decode cX4_passYears 73 = .ok (.iload 8, 2) := by decide +kernel
theorem dX4_passYears_75 : decode cX4_passYears 75 = .ok (.bipush 6, 2) := by decide +kernel
theorem dX4_passYears_77 : decode cX4_passYears 77 = .ok (.if_icmp .eq 12, 3) := by decide +kernel
theorem dX4_passYears_80 : decode cX4_passYears 80 = .ok (.aload_n 0, 1) := by decide +kernel
theorem dX4_passYears_81 : decode cX4_passYears 81 = .ok (.iload 8, 2) := by decide +kernel
theorem dX4_passYears_83 : decode cX4_passYears 83 = .ok (.invokevirtual 110, 3) := by decide +kernel
theorem dX4_passYears_86 : decode cX4_passYears 86 = .ok (.ifCond .eq 7, 3) := by decide +kernel
theorem dX4_passYears_89 : decode cX4_passYears 89 = .ok (.iconst (-1), 1) := by decide +kernel
theorem dX4_passYears_90 : decode cX4_passYears 90 = .ok (.goto 5, 3) := by decide +kernel
theorem dX4_passYears_93 : decode cX4_passYears 93 = .ok (.iload 8, 2) := by decide +kernel
theorem dX4_passYears_95 : decode cX4_passYears 95 = .ok (.invokevirtual 74, 3) := by decide +kernel
theorem dX4_passYears_98 : decode cX4_passYears 98 = .ok (.iinc 7 1, 3) := by decide +kernel
theorem dX4_passYears_101 : decode cX4_passYears 101 = .ok (.goto (-71), 3) := by decide +kernel
theorem dX4_passYears_104 : decode cX4_passYears 104 = .ok (.iload 4, 2) := by decide +kernel
theorem dX4_passYears_106 : decode cX4_passYears 106 = .ok (.invokestatic 103, 3) := by decide +kernel
theorem dX4_passYears_109 : decode cX4_passYears 109 = .ok (.istore 4, 2) := by decide +kernel
theorem dX4_passYears_111 : decode cX4_passYears 111 = .ok (.aload_n 0, 1) := by decide +kernel
theorem dX4_passYears_112 : decode cX4_passYears 112 = .ok (.aload_n 1, 1) := by decide +kernel
theorem dX4_passYears_113 : decode cX4_passYears 113 = .ok (.aload_n 1, 1) := by decide +kernel
theorem dX4_passYears_114 : decode cX4_passYears 114 = .ok (.iload 6, 2) := by decide +kernel
theorem dX4_passYears_116 : decode cX4_passYears 116 = .ok (.iload 4, 2) := by decide +kernel
theorem dX4_passYears_118 : decode cX4_passYears 118 = .ok (.bipush 10, 2) := by decide +kernel
theorem dX4_passYears_120 : decode cX4_passYears 120 = .ok (.invokestatic 106, 3) := by decide +kernel
theorem dX4_passYears_123 : decode cX4_passYears 123 = .ok (.invokestatic 113, 3) := by decide +kernel
theorem dX4_passYears_126 : decode cX4_passYears 126 = .ok (.invokevirtual 117, 3) := by decide +kernel
theorem dX4_passYears_129 : decode cX4_passYears 129 = .ok (.iinc 5 1, 3) := by decide +kernel
theorem dX4_passYears_132 : decode cX4_passYears 132 = .ok (.goto (-126), 3) := by decide +kernel
theorem dX4_passYears_135 : decode cX4_passYears 135 = .ok (.iload 4, 2) := by decide +kernel
theorem dX4_passYears_137 : decode cX4_passYears 137 = .ok (.ireturn, 1) := by decide +kernel
set_option maxHeartbeats 4000000 in
set_option maxRecDepth 100000 in
theorem c_X4_passYears {l : Launch} {g : GW} {s b n x : Nat} {tn : Nat → Nat → Nat} {ow : Nat → Nat} {σ : SeaT} (μ : Mm) (hs : s = 4 ∨ s = 13 ∨ s = 22) (hS : SeaR μ s σ) (hb : b = 49 ∨ b = 57) (hB : BkR μ b tn ow) (hn : n ≤ 60) (hx : x < 2 ^ 31) : Con l g yX4_passYears cX4_passYears 9 (some .int) 4 [.ref s, .ref b, .int (nI n), .int (nI x)] μ (fun r μ' => r = some (.int (nI (yrT tn ow σ x n).2)) ∧ SeaR μ' s (yrT tn ow σ x n).1 ∧ FrM (seaS s) μ μ') := by
  have hS0 := hS
  obtain ⟨hs1, hs2, hs3, hs4, hs5, hs6, hrow⟩ := seaF hs
  obtain ⟨r1, r2, r3, r4, r5, r6, r7, r8, r9⟩ := hS
  obtain ⟨hb1, hb2, hb3, hb4, hb5, hb6, hrowb⟩ := bkF hb
  have hap : ∀ k, b + 2 ≤ k → k ≤ b + 7 → ¬ seaS s k := fun k h1 h2 q => by rcases q with q | q <;> omega
  refine Con.of [.ref s, .ref b, .int (nI n), .int (nI x), .null, .null, .null, .null, .null] 5 (by decide +kernel) (Nat.le_of_ble_eq_true rfl) rfl ?_
  refine V_iload_n (pc := 0) dX4_passYears_0 rfl rfl ?_
  refine V_istore4 (pc := 1) dX4_passYears_1 (by decide) rfl ?_
  refine V_iconst (pc := 3) (v := 0) dX4_passYears_3 (by decide) ?_
  refine V_istore5 (pc := 4) dX4_passYears_4 (by decide) rfl ?_
  have loopA : ∀ (nA d : Nat) (μ1 : Mm) (e : Nat) (y6 y7 y8 : Value), d ≤ n → n < d + nA → (SeaR μ1 s (yrT tn ow σ x d).1) → (FrM (seaS s) μ μ1) → (e = (yrT tn ow σ x d).2) → (e < 2 ^ 31) → (okp [y6] 1 = true) → (okp [y7] 1 = true) → V l g RX4 cX4_passYears 9 (some .int) 4 6 [.ref s, .ref b, .int (nI n), .int (nI x), .int (nI e), .int (nI d), y6, y7, y8] [] μ1 (fun r μ' => r = some (.int (nI (yrT tn ow σ x n).2)) ∧ SeaR μ' s (yrT tn ow σ x n).1 ∧ FrM (seaS s) μ μ') := by
    intro nA
    induction nA with
    | zero => intro d μ1 e y6 y7 y8 h1 h2; exact absurd h2 (by omega)
    | succ nA ihA =>
      intro d μ1 e y6 y7 y8 hleA hfuA q1 q2 q3 q4 ok6 ok7
      refine V_iload (pc := 6) dX4_passYears_6 rfl ?_
      refine V_iload_n (pc := 8) dX4_passYears_8 rfl rfl ?_
      refine V_icmpge (pc := 9) (tgt := 135) dX4_passYears_9 (by decide) (fun h9 => ?_) (fun h9 => ?_)
      · rw [nI_leI (by omega) (by omega)] at h9; obtain rfl : d = n := by omega
        refine V_iload (pc := 135) dX4_passYears_135 rfl ?_
        refine V_iret (pc := 137) dX4_passYears_137 rfl ?_
        exact ⟨by rw [q3], q1, q2⟩
      rw [nI_leI (by omega) (by omega)] at h9; have hlt : d < n := by omega
      refine V_iload (pc := 12) dX4_passYears_12 rfl ?_
      refine V_ins1 (pc := 14) dX4_passYears_14 ml_X4_103 (by first | decide | omega) (Nat.le_of_ble_eq_true rfl) (c_X4_nextSeed μ1 q4) ?_
      rintro _ μ2 ⟨rfl, hμ⟩
      obtain rfl := hμ.symm
      refine V_istore4 (pc := 17) dX4_passYears_17 (by decide) rfl ?_
      refine V_iload (pc := 19) dX4_passYears_19 rfl ?_
      refine V_iconst (pc := 21) (v := 3) dX4_passYears_21 (by decide) ?_
      refine V_ins2 (pc := 22) dX4_passYears_22 ml_X4_106 (by first | decide | omega) (Nat.le_of_ble_eq_true rfl) (c_X4_drawOf (o := 3) μ1 (nxS_lt e) (by decide) (by decide)) ?_
      rintro _ μ2 ⟨rfl, hμ⟩
      obtain rfl := hμ.symm
      refine V_istore6 (pc := 25) dX4_passYears_25 (by decide) rfl ?_
      have hn6 := q1.2.1
      refine V_iconst (pc := 27) (v := 0) dX4_passYears_27 (by decide) ?_
      refine V_istore7 (pc := 28) dX4_passYears_28 (by decide) rfl ?_
      have loopB : ∀ (nB i : Nat) (μ2 : Mm) (f : Nat) (y8 : Value), i ≤ sN (yrT tn ow σ x d).1 → sN (yrT tn ow σ x d).1 < i + nB → (SeaR μ2 s (yrS (yrT tn ow σ x d).1 (nxS e) i).1) → (FrM (seaS s) μ μ2) → (f = (yrS (yrT tn ow σ x d).1 (nxS e) i).2) → (f < 2 ^ 31) → V l g RX4 cX4_passYears 9 (some .int) 4 30 [.ref s, .ref b, .int (nI n), .int (nI x), .int (nI f), .int (nI d), .int (nI (nxS e / 65536 % 3)), .int (nI i), y8] [] μ2 (fun r μ' => r = some (.int (nI (yrT tn ow σ x n).2)) ∧ SeaR μ' s (yrT tn ow σ x n).1 ∧ FrM (seaS s) μ μ') := by
        intro nB
        induction nB with
        | zero => intro i μ2 f y8 h1 h2; exact absurd h2 (by omega)
        | succ nB ihB =>
          intro i μ2 f y8 hleB hfuB k1 k2 k3 k4
          refine V_iload (pc := 30) dX4_passYears_30 rfl ?_
          refine V_aload_n (pc := 32) dX4_passYears_32 rfl rfl ?_
          refine V_getI (pc := 33) (ci := 4) (j := 2) dX4_passYears_33 fl_X4_31 (fun _ _ _ _ => rfl) (by first | decide | omega) (by first | rfl | assumption | exact (hrow _ (by omega)).2 | decide) ?_
          refine V_icmpge (pc := 36) (tgt := 104) dX4_passYears_36 (by decide) (fun h36 => ?_) (fun h36 => ?_)
          · have e1 := k1.1; rw [yrS_N] at e1; rw [e1, nI_leI (by omega) (by omega)] at h36; obtain rfl : i = sN (yrT tn ow σ x d).1 := by omega
            refine V_iload (pc := 104) dX4_passYears_104 rfl ?_
            refine V_ins1 (pc := 106) dX4_passYears_106 ml_X4_103 (by first | decide | omega) (Nat.le_of_ble_eq_true rfl) (c_X4_nextSeed μ2 k4) ?_
            rintro _ μ2 ⟨rfl, hμ⟩
            obtain rfl := hμ.symm
            refine V_istore4 (pc := 109) dX4_passYears_109 (by decide) rfl ?_
            refine V_aload_n (pc := 111) dX4_passYears_111 rfl rfl ?_
            refine V_aload_n (pc := 112) dX4_passYears_112 rfl rfl ?_
            refine V_aload_n (pc := 113) dX4_passYears_113 rfl rfl ?_
            refine V_iload (pc := 114) dX4_passYears_114 rfl ?_
            refine V_iload (pc := 116) dX4_passYears_116 rfl ?_
            refine V_bipush (pc := 118) (v := 10) dX4_passYears_118 (by decide) ?_
            refine V_ins2 (pc := 120) dX4_passYears_120 ml_X4_106 (by first | decide | omega) (Nat.le_of_ble_eq_true rfl) (c_X4_drawOf (o := 10) μ2 (nxS_lt f) (by decide) (by decide)) ?_
            rintro _ μ2 ⟨rfl, hμ⟩
            obtain rfl := hμ.symm
            refine V_ins3 (pc := 123) dX4_passYears_123 ml_X4_113 (by first | decide | omega) (Nat.le_of_ble_eq_true rfl) (c_X4_windDrawn μ2 hb (hB.kept k2 hap) (show nxS e / 65536 % 3 ≤ 2 by omega) (by omega)) ?_
            rintro _ μ2 ⟨rfl, hμ⟩
            obtain rfl := hμ.symm
            refine V_inv2 (pc := 126) (ci := 4) dX4_passYears_126 ml_X4_117 (by first | decide | omega) (by first | rfl | assumption | exact (hrow _ (by omega)).2 | decide) ⟨by decide, rfl⟩ (by decide) (Nat.le_of_ble_eq_true rfl) (c_X4_passDay μ2 hs k1 hb (hB.kept k2 hap) widT_le) ?_
            rintro _ μ3 ⟨rfl, m1, m2⟩
            refine V_iinc5 (pc := 129) (v := nI (d + 1)) dX4_passYears_129 (nI_1 d) (by decide) rfl ?_
            refine V_goto (pc := 132) (tgt := 6) dX4_passYears_132 (by decide) ?_
            refine ihA (d + 1) μ3 (nxS f) _ _ _ (by omega) (by omega) (m1.ext ?_) (k2.tr m2 (fun _ q => q)) ?_ (nxS_lt f) rfl rfl
            · simp only [yrT]; rw [← q3, ← k3]
            · simp only [yrT]; rw [← q3, ← k3]
          have e1 := k1.1; rw [yrS_N] at e1; rw [e1, nI_leI (by omega) (by omega)] at h36; have hli : i < sN (yrT tn ow σ x d).1 := (by omega); obtain ⟨z1, z2, z3, z4, z5, z6, z7, z8⟩ := k1.2.2.2.2.2.2.2.1 i (by omega)
          refine V_aload_n (pc := 39) dX4_passYears_39 rfl rfl ?_
          refine V_getR (pc := 40) (ci := 4) (j := 0) (k2 := (s + 1)) dX4_passYears_40 fl_X4_11 (fun _ _ _ _ => rfl) (by first | decide | omega) (by first | rfl | assumption | exact (hrow _ (by omega)).2 | decide) (rf_4_0 (by first | rfl | assumption | exact (hrow _ (by omega)).2 | decide)) ?_
          refine V_iload (pc := 43) dX4_passYears_43 rfl ?_
          refine V_aald14 (pc := 45) (j := i) dX4_passYears_45 (by first | decide | omega) (by first | rfl | assumption | exact (hrow _ (by omega)).2 | decide) rfl (by omega) ?_
          refine V_getI (pc := 46) (ci := 5) (j := 1) dX4_passYears_46 fl_X4_64 (fun _ _ _ _ => rfl) (by first | decide | omega) (by first | rfl | assumption | exact (hrow _ (by omega)).2 | decide) ?_
          refine V_bipush (pc := 49) (v := 9) dX4_passYears_49 (by decide) ?_
          refine V_icmpeq (pc := 51) (tgt := 98) dX4_passYears_51 (by decide) (fun h51 => ?_) (fun h51 => ?_)
          · rw [z3] at h51; have h51 := (nI_eq (a := sP (yrS (yrT tn ow σ x d).1 (nxS e) i).1 i) (b := 9) (by omega) (by decide)).mp h51
            refine V_iinc7 (pc := 98) (v := nI (i + 1)) dX4_passYears_98 (nI_1 i) (by decide) rfl ?_
            refine V_goto (pc := 101) (tgt := 30) dX4_passYears_101 (by decide) ?_
            first | exact ihB (i + 1) μ2 f _ (by omega) (by omega) (k1.ext (by simp only [yrS]; rw [if_pos h51])) k2 (by rw [k3]; simp only [yrS]; rw [if_pos h51]) k4 | exact ihB (i + 1) μ3 (nxS f) _ (by omega) (by omega) (m1.ext (by simp only [yrS]; rw [if_neg h51, ← k3, hc])) (k2.tr m2 (fun _ q => q)) (by simp only [yrS]; rw [if_neg h51, ← k3]) (nxS_lt f)
          rw [z3] at h51; have h51 := mt (nI_eq (a := sP (yrS (yrT tn ow σ x d).1 (nxS e) i).1 i) (b := 9) (by omega) (by decide)).mpr h51
          refine V_iload (pc := 54) dX4_passYears_54 rfl ?_
          refine V_ins1 (pc := 56) dX4_passYears_56 ml_X4_103 (by first | decide | omega) (Nat.le_of_ble_eq_true rfl) (c_X4_nextSeed μ2 k4) ?_
          rintro _ μ2 ⟨rfl, hμ⟩
          obtain rfl := hμ.symm
          refine V_istore4 (pc := 59) dX4_passYears_59 (by decide) rfl ?_
          refine V_iload (pc := 61) dX4_passYears_61 rfl ?_
          refine V_bipush (pc := 63) (v := 7) dX4_passYears_63 (by decide) ?_
          refine V_ins2 (pc := 65) dX4_passYears_65 ml_X4_106 (by first | decide | omega) (Nat.le_of_ble_eq_true rfl) (c_X4_drawOf (o := 7) μ2 (nxS_lt f) (by decide) (by decide)) ?_
          rintro _ μ2 ⟨rfl, hμ⟩
          obtain rfl := hμ.symm
          refine V_istore8 (pc := 68) dX4_passYears_68 (by decide) rfl ?_
          have hnx : nxS f / 65536 % 7 < 7 := Nat.mod_lt _ (by decide)
          have J : ∀ (c : Nat) (y : Int32), y = cI c → c = (if nxS f / 65536 % 7 = 6 ∨ (sS (yrS (yrT tn ow σ x d).1 (nxS e) i).1).testBit (nxS f / 65536 % 7) = true then 0 else nxS f / 65536 % 7 + 1) → V l g RX4 cX4_passYears 9 (some .int) 4 95 [.ref s, .ref b, .int (nI n), .int (nI x), .int (nI (nxS f)), .int (nI d), .int (nI (nxS e / 65536 % 3)), .int (nI i), .int (nI (nxS f / 65536 % 7))] [.int y, .int (nI i), .ref s] μ2 (fun r μ' => r = some (.int (nI (yrT tn ow σ x n).2)) ∧ SeaR μ' s (yrT tn ow σ x n).1 ∧ FrM (seaS s) μ μ') := by
            intro c y hy hc
            subst hy
            have hc6 : c ≤ 6 := by rw [hc]; split <;> omega
            refine V_inv2 (pc := 95) (ci := 4) dX4_passYears_95 ml_X4_74 (by first | decide | omega) (by first | rfl | assumption | exact (hrow _ (by omega)).2 | decide) ⟨by decide, rfl⟩ (by decide) (Nat.le_of_ble_eq_true rfl) (c_X4_beginCall μ2 hs k1 (show i < 6 by omega) hc6) ?_
            rintro _ μ3 ⟨rfl, m1, m2⟩
            refine V_iinc7 (pc := 98) (v := nI (i + 1)) dX4_passYears_98 (nI_1 i) (by decide) rfl ?_
            refine V_goto (pc := 101) (tgt := 30) dX4_passYears_101 (by decide) ?_
            first | exact ihB (i + 1) μ2 f _ (by omega) (by omega) (k1.ext (by simp only [yrS]; rw [if_pos h51])) k2 (by rw [k3]; simp only [yrS]; rw [if_pos h51]) k4 | exact ihB (i + 1) μ3 (nxS f) _ (by omega) (by omega) (m1.ext (by simp only [yrS]; rw [if_neg h51, ← k3, hc])) (k2.tr m2 (fun _ q => q)) (by simp only [yrS]; rw [if_neg h51, ← k3]) (nxS_lt f)
          refine V_aload_n (pc := 70) dX4_passYears_70 rfl rfl ?_
          refine V_iload (pc := 71) dX4_passYears_71 rfl ?_
          refine V_iload (pc := 73) dX4_passYears_73 rfl ?_
          refine V_bipush (pc := 75) (v := 6) dX4_passYears_75 (by decide) ?_
          refine V_icmpeq (pc := 77) (tgt := 89) dX4_passYears_77 (by decide) (fun h77 => ?_) (fun h77 => ?_)
          · have h77 := (nI_eq (a := nxS f / 65536 % 7) (b := 6) (by omega) (by decide)).mp h77
            refine V_iconst (pc := 89) (v := (-1)) dX4_passYears_89 (by decide) ?_
            refine V_goto (pc := 90) (tgt := 95) dX4_passYears_90 (by decide) ?_
            first | exact J 0 _ cI_0.symm (if_pos (Or.inl h77)).symm | exact J 0 _ cI_0.symm (if_pos (Or.inr h86)).symm | exact J _ _ (cI_s _).symm (if_neg (fun q => q.elim h77 (fun q => by rw [h86] at q; exact absurd q (by decide)))).symm
          have h77 := mt (nI_eq (a := nxS f / 65536 % 7) (b := 6) (by omega) (by decide)).mpr h77
          refine V_aload_n (pc := 80) dX4_passYears_80 rfl rfl ?_
          refine V_iload (pc := 81) dX4_passYears_81 rfl ?_
          refine V_inv1 (pc := 83) (ci := 4) dX4_passYears_83 ml_X4_110 (by first | decide | omega) (by first | rfl | assumption | exact (hrow _ (by omega)).2 | decide) ⟨by decide, rfl⟩ (by decide) (Nat.le_of_ble_eq_true rfl) (c_X4_isSpent μ2 hs k1 (show nxS f / 65536 % 7 < 6 by omega)) ?_
          rintro _ μ2 ⟨rfl, hμ⟩
          obtain rfl := hμ.symm
          refine V_ifeq (pc := 86) (tgt := 93) dX4_passYears_86 (by decide) (fun h86 => ?_) (fun h86 => ?_)
          · have h86 := (bI_0 _).mp h86
            refine V_iload (pc := 93) dX4_passYears_93 rfl ?_
            first | exact J 0 _ cI_0.symm (if_pos (Or.inl h77)).symm | exact J 0 _ cI_0.symm (if_pos (Or.inr h86)).symm | exact J _ _ (cI_s _).symm (if_neg (fun q => q.elim h77 (fun q => by rw [h86] at q; exact absurd q (by decide)))).symm
          have h86 : (sS (yrS (yrT tn ow σ x d).1 (nxS e) i).1).testBit (nxS f / 65536 % 7) = true := by cases hf : (sS (yrS (yrT tn ow σ x d).1 (nxS e) i).1).testBit (nxS f / 65536 % 7); exact absurd ((bI_0 _).mpr hf) h86; rfl
          refine V_iconst (pc := 89) (v := (-1)) dX4_passYears_89 (by decide) ?_
          refine V_goto (pc := 90) (tgt := 95) dX4_passYears_90 (by decide) ?_
          first | exact J 0 _ cI_0.symm (if_pos (Or.inl h77)).symm | exact J 0 _ cI_0.symm (if_pos (Or.inr h86)).symm | exact J _ _ (cI_s _).symm (if_neg (fun q => q.elim h77 (fun q => by rw [h86] at q; exact absurd q (by decide)))).symm
      exact loopB (sN (yrT tn ow σ x d).1 + 1) 0 _ _ _ (by omega) (by omega) q1 q2 rfl (nxS_lt e)
  exact loopA (n + 1) 0 _ _ _ _ _ (by omega) (by omega) hS0 FrM.rf rfl hx rfl rfl
theorem dX4_copyFrom_0 : decode cX4_copyFrom 0 = .ok (.iconst 0, 1) := by decide +kernel
theorem dX4_copyFrom_1 : decode cX4_copyFrom 1 = .ok (.istore_n 2, 1) := by decide +kernel
theorem dX4_copyFrom_2 : decode cX4_copyFrom 2 = .ok (.iload_n 2, 1) := by decide +kernel
theorem dX4_copyFrom_3 : decode cX4_copyFrom 3 = .ok (.bipush 6, 2) := by decide +kernel
theorem dX4_copyFrom_5 : decode cX4_copyFrom 5 = .ok (.if_icmp .ge 24, 3) := by decide +kernel
theorem dX4_copyFrom_8 : decode cX4_copyFrom 8 = .ok (.aload_n 0, 1) := by decide +kernel
theorem dX4_copyFrom_9 : decode cX4_copyFrom 9 = .ok (.getfield 11, 3) := by decide +kernel
theorem dX4_copyFrom_12 : decode cX4_copyFrom 12 = .ok (.iload_n 2, 1) := by decide +kernel
theorem dX4_copyFrom_13 : decode cX4_copyFrom 13 = .ok (.aaload, 1) := by decide +kernel
theorem dX4_copyFrom_14 : decode cX4_copyFrom 14 = .ok (.aload_n 1, 1) := by decide +kernel
theorem dX4_copyFrom_15 : decode cX4_copyFrom 15 = .ok (.getfield 11, 3) := by decide +kernel
theorem dX4_copyFrom_18 : decode cX4_copyFrom 18 = .ok (.iload_n 2, 1) := by decide +kernel
theorem dX4_copyFrom_19 : decode cX4_copyFrom 19 = .ok (.aaload, 1) := by decide +kernel
theorem dX4_copyFrom_20 : decode cX4_copyFrom 20 = .ok (.invokevirtual 44, 3) := by decide +kernel
theorem dX4_copyFrom_23 : decode cX4_copyFrom 23 = .ok (.iinc 2 1, 3) := by decide +kernel
theorem dX4_copyFrom_26 : decode cX4_copyFrom 26 = .ok (.goto (-24), 3) := by decide +kernel
theorem dX4_copyFrom_29 : decode cX4_copyFrom 29 = .ok (.aload_n 1, 1) := by decide +kernel
theorem dX4_copyFrom_30 : decode cX4_copyFrom 30 = .ok (.getfield 17, 3) := by decide +kernel
theorem dX4_copyFrom_33 : decode cX4_copyFrom 33 = .ok (.iconst 0, 1) := by decide +kernel
theorem dX4_copyFrom_34 : decode cX4_copyFrom 34 = .ok (.aload_n 0, 1) := by decide +kernel
theorem dX4_copyFrom_35 : decode cX4_copyFrom 35 = .ok (.getfield 17, 3) := by decide +kernel
theorem dX4_copyFrom_38 : decode cX4_copyFrom 38 = .ok (.iconst 0, 1) := by decide +kernel
theorem dX4_copyFrom_39 : decode cX4_copyFrom 39 = .ok (.bipush 6, 2) := by decide +kernel
theorem dX4_copyFrom_41 : decode cX4_copyFrom 41 = .ok (.invokestatic 48, 3) := by decide +kernel
theorem dX4_copyFrom_44 : decode cX4_copyFrom 44 = .ok (.aload_n 0, 1) := by decide +kernel
theorem dX4_copyFrom_45 : decode cX4_copyFrom 45 = .ok (.aload_n 1, 1) := by decide +kernel
theorem dX4_copyFrom_46 : decode cX4_copyFrom 46 = .ok (.getfield 31, 3) := by decide +kernel
theorem dX4_copyFrom_49 : decode cX4_copyFrom 49 = .ok (.putfield 31, 3) := by decide +kernel
theorem dX4_copyFrom_52 : decode cX4_copyFrom 52 = .ok (.aload_n 0, 1) := by decide +kernel
theorem dX4_copyFrom_53 : decode cX4_copyFrom 53 = .ok (.aload_n 1, 1) := by decide +kernel
theorem dX4_copyFrom_54 : decode cX4_copyFrom 54 = .ok (.getfield 35, 3) := by decide +kernel
theorem dX4_copyFrom_57 : decode cX4_copyFrom 57 = .ok (.putfield 35, 3) := by decide +kernel
theorem dX4_copyFrom_60 : decode cX4_copyFrom 60 = .ok (.aload_n 0, 1) := by decide +kernel
theorem dX4_copyFrom_61 : decode cX4_copyFrom 61 = .ok (.aload_n 1, 1) := by decide +kernel
theorem dX4_copyFrom_62 : decode cX4_copyFrom 62 = .ok (.getfield 38, 3) := by decide +kernel
theorem dX4_copyFrom_65 : decode cX4_copyFrom 65 = .ok (.putfield 38, 3) := by decide +kernel
theorem dX4_copyFrom_68 : decode cX4_copyFrom 68 = .ok (.aload_n 0, 1) := by decide +kernel
theorem dX4_copyFrom_69 : decode cX4_copyFrom 69 = .ok (.aload_n 1, 1) := by decide +kernel
theorem dX4_copyFrom_70 : decode cX4_copyFrom 70 = .ok (.getfield 41, 3) := by decide +kernel
theorem dX4_copyFrom_73 : decode cX4_copyFrom 73 = .ok (.putfield 41, 3) := by decide +kernel
theorem dX4_copyFrom_76 : decode cX4_copyFrom 76 = .ok (.return_, 1) := by decide +kernel
set_option maxHeartbeats 4000000 in
set_option maxRecDepth 100000 in
theorem c_X4_copyFrom {l : Launch} {g : GW} {s t : Nat} {σ τ : SeaT} (μ : Mm) (hs : s = 4 ∨ s = 13 ∨ s = 22) (hS : SeaR μ s σ) (ht : t = 4 ∨ t = 13 ∨ t = 22) (hT : SeaR μ t τ) (hne : s ≠ t) : Con l g yX4_copyFrom cX4_copyFrom 3 none 1 [.ref s, .ref t] μ (fun r μ' => r = none ∧ SeaR μ' s (mkSea (sN τ) (sK τ) (sP τ) (fun _ => 0) (sV τ) (sT τ) (sS τ) (sD τ) (sA τ) (sG τ)) ∧ FrM (seaS s) μ μ') := by
  have hS0 := hS
  obtain ⟨hs1, hs2, hs3, hs4, hs5, hs6, hrow⟩ := seaF hs
  obtain ⟨r1, r2, r3, r4, r5, r6, r7, r8, r9⟩ := hS
  obtain ⟨ht1, ht2, ht3, ht4, ht5, ht6, htrow⟩ := seaF ht
  obtain ⟨t1, t2, t3, t4, t5, t6, t7, t8, t9⟩ := id hT
  have hap : ∀ k, seaS t k → ¬ seaS s k := fun k h1 q => by rcases q with q | q <;> rcases h1 with h1 | h1 <;> omega
  refine Con.of [.ref s, .ref t, .null] 1 (by decide +kernel) (Nat.le_of_ble_eq_true rfl) rfl ?_
  refine V_iconst (pc := 0) (v := 0) dX4_copyFrom_0 (by decide) ?_
  refine V_istore2 (pc := 1) dX4_copyFrom_1 (by decide) rfl ?_
  have loopA : ∀ (nA i : Nat) (μ1 : Mm), i ≤ 6 → 6 < i + nA → (∀ j, j < i → ShR μ1 (s + 1 + 1 + j) (sK τ j) (sP τ j) 0 (sV τ j) (sT τ j)) → (FrM (fun k => s + 2 ≤ k ∧ k ≤ s + 7) μ μ1) → V l g RX4 cX4_copyFrom 3 none 1 2 [.ref s, .ref t, .int (nI i)] [] μ1 (fun r μ' => r = none ∧ SeaR μ' s (mkSea (sN τ) (sK τ) (sP τ) (fun _ => 0) (sV τ) (sT τ) (sS τ) (sD τ) (sA τ) (sG τ)) ∧ FrM (seaS s) μ μ') := by
    intro nA
    induction nA with
    | zero => intro i μ1 h1 h2; exact absurd h2 (by omega)
    | succ nA ihA =>
      intro i μ1 hleA hfuA q1 q2
      refine V_iload_n (pc := 2) dX4_copyFrom_2 rfl rfl ?_
      refine V_bipush (pc := 3) (v := 6) dX4_copyFrom_3 (by decide) ?_
      refine V_icmpge (pc := 5) (tgt := 29) dX4_copyFrom_5 (by decide) (fun h5 => ?_) (fun h5 => ?_)
      · have h5 := (nI_leI (a := 6) (b := i) (by decide) (by omega)).mp h5; obtain rfl : i = 6 := by omega
        refine V_aload_n (pc := 29) dX4_copyFrom_29 rfl rfl ?_
        refine V_getR (pc := 30) (ci := 4) (j := 1) (k2 := (t + 8)) dX4_copyFrom_30 fl_X4_17 (fun _ _ _ _ => rfl) (by first | decide | omega) (by first | rfl | assumption | exact (hrow _ (by omega)).2 | exact (htrow _ (by omega)).2 | decide) (rf_4_1 (by first | rfl | assumption | exact (hrow _ (by omega)).2 | exact (htrow _ (by omega)).2 | decide)) ?_
        refine V_iconst (pc := 33) (v := 0) dX4_copyFrom_33 (by decide) ?_
        refine V_aload_n (pc := 34) dX4_copyFrom_34 rfl rfl ?_
        refine V_getR (pc := 35) (ci := 4) (j := 1) (k2 := (s + 8)) dX4_copyFrom_35 fl_X4_17 (fun _ _ _ _ => rfl) (by first | decide | omega) (by first | rfl | assumption | exact (hrow _ (by omega)).2 | exact (htrow _ (by omega)).2 | decide) (rf_4_1 (by first | rfl | assumption | exact (hrow _ (by omega)).2 | exact (htrow _ (by omega)).2 | decide)) ?_
        refine V_iconst (pc := 38) (v := 0) dX4_copyFrom_38 (by decide) ?_
        refine V_bipush (pc := 39) (v := 6) dX4_copyFrom_39 (by decide) ?_
        refine V_acopy (pc := 41) (n := 6) dX4_copyFrom_41 acopyW (by omega) (by omega) ht5 hs5 rfl rfl rfl (by omega) (by omega) (by decide) rfl ?_
        have hF3 : FrM (fun k => s + 2 ≤ k ∧ k ≤ s + 8) μ (cpyI μ1 (s + 8) (t + 8) 6) := ⟨fun k hk => by rw [cpyI_ne (fun q => hk (by omega))]; exact q2.1 k (fun q => hk (by omega)), q2.2⟩
        have hS3 : ∀ j, j < 6 → ShR (cpyI μ1 (s + 8) (t + 8) 6) (s + 1 + 1 + j) (sK τ j) (sP τ j) 0 (sV τ j) (sT τ j) := fun j hj => (q1 j hj).kept (fun q => by rw [cpyI_ne (by omega)])
        have hG3 : ∀ n, n < 6 → (cpyI μ1 (s + 8) (t + 8) 6).1 (s + 8) n = sG τ n := fun n hn => by
          show (if s + 8 = s + 8 ∧ n < 6 then μ1.1 (t + 8) n else _) = _
          rw [if_pos ⟨rfl, hn⟩, q2.1 _ (fun q => by omega)]
          exact t9 n hn
        have hT3 : ∀ j, (cpyI μ1 (s + 8) (t + 8) 6).1 t j = μ.1 t j := fun j => by rw [hF3.1 t (fun q => by omega)]
        generalize cpyI μ1 (s + 8) (t + 8) 6 = μ3 at hF3 hS3 hG3 hT3 ⊢
        refine V_aload_n (pc := 44) dX4_copyFrom_44 rfl rfl ?_
        refine V_aload_n (pc := 45) dX4_copyFrom_45 rfl rfl ?_
        refine V_getI (pc := 46) (ci := 4) (j := 2) dX4_copyFrom_46 fl_X4_31 (fun _ _ _ _ => rfl) (by first | decide | omega) (by first | rfl | assumption | exact (hrow _ (by omega)).2 | exact (htrow _ (by omega)).2 | decide) ?_
        refine V_putI (pc := 49) (ci := 4) (j := 2) dX4_copyFrom_49 fl_X4_31 (fun _ _ _ _ _ => rfl) rfl rfl (by first | decide | omega) (by first | rfl | assumption | exact (hrow _ (by omega)).2 | exact (htrow _ (by omega)).2 | decide) ?_
        refine V_aload_n (pc := 52) dX4_copyFrom_52 rfl rfl ?_
        refine V_aload_n (pc := 53) dX4_copyFrom_53 rfl rfl ?_
        refine V_getI (pc := 54) (ci := 4) (j := 3) dX4_copyFrom_54 fl_X4_35 (fun _ _ _ _ => rfl) (by first | decide | omega) (by first | rfl | assumption | exact (hrow _ (by omega)).2 | exact (htrow _ (by omega)).2 | decide) ?_
        refine V_putI (pc := 57) (ci := 4) (j := 3) dX4_copyFrom_57 fl_X4_35 (fun _ _ _ _ _ => rfl) rfl rfl (by first | decide | omega) (by first | rfl | assumption | exact (hrow _ (by omega)).2 | exact (htrow _ (by omega)).2 | decide) ?_
        refine V_aload_n (pc := 60) dX4_copyFrom_60 rfl rfl ?_
        refine V_aload_n (pc := 61) dX4_copyFrom_61 rfl rfl ?_
        refine V_getI (pc := 62) (ci := 4) (j := 4) dX4_copyFrom_62 fl_X4_38 (fun _ _ _ _ => rfl) (by first | decide | omega) (by first | rfl | assumption | exact (hrow _ (by omega)).2 | exact (htrow _ (by omega)).2 | decide) ?_
        refine V_putI (pc := 65) (ci := 4) (j := 4) dX4_copyFrom_65 fl_X4_38 (fun _ _ _ _ _ => rfl) rfl rfl (by first | decide | omega) (by first | rfl | assumption | exact (hrow _ (by omega)).2 | exact (htrow _ (by omega)).2 | decide) ?_
        refine V_aload_n (pc := 68) dX4_copyFrom_68 rfl rfl ?_
        refine V_aload_n (pc := 69) dX4_copyFrom_69 rfl rfl ?_
        refine V_getI (pc := 70) (ci := 4) (j := 5) dX4_copyFrom_70 fl_X4_41 (fun _ _ _ _ => rfl) (by first | decide | omega) (by first | rfl | assumption | exact (hrow _ (by omega)).2 | exact (htrow _ (by omega)).2 | decide) ?_
        refine V_putI (pc := 73) (ci := 4) (j := 5) dX4_copyFrom_73 fl_X4_41 (fun _ _ _ _ _ => rfl) rfl rfl (by first | decide | omega) (by first | rfl | assumption | exact (hrow _ (by omega)).2 | exact (htrow _ (by omega)).2 | decide) ?_
        refine V_vret (pc := 76) dX4_copyFrom_76 rfl ?_
        have hg : ∀ k j, k ≠ s → (setI (setI (setI (setI μ3 s 2 (μ3.1 t 2)) s 3 ((setI μ3 s 2 (μ3.1 t 2)).1 t 3)) s 4 ((setI (setI μ3 s 2 (μ3.1 t 2)) s 3 ((setI μ3 s 2 (μ3.1 t 2)).1 t 3)).1 t 4)) s 5 ((setI (setI (setI μ3 s 2 (μ3.1 t 2)) s 3 ((setI μ3 s 2 (μ3.1 t 2)).1 t 3)) s 4 ((setI (setI μ3 s 2 (μ3.1 t 2)) s 3 ((setI μ3 s 2 (μ3.1 t 2)).1 t 3)).1 t 4)).1 t 5)).1 k j = μ3.1 k j := fun k j hk => by
          rw [get_ne (fun q => hk q.1), get_ne (fun q => hk q.1), get_ne (fun q => hk q.1), get_ne (fun q => hk q.1)]
        refine ⟨rfl, ⟨?_, t2, ?_, t4, ?_, ?_, t7, fun i hi => (hS3 i hi).kept (fun j => hg _ j (by omega)), fun n hn => by rw [hg _ _ (by omega)]; exact hG3 n hn⟩, ((((hF3.wk (T := seaS s) (fun k hk => Or.inr hk)).set (Or.inl rfl)).set (Or.inl rfl)).set (Or.inl rfl)).set (Or.inl rfl)⟩
        · rw [get_ne (by omega), get_ne (by omega), get_ne (by omega), get_eq, hT3]; exact t1
        · rw [get_ne (by omega), get_ne (by omega), get_eq, get_ne (by omega), hT3]; exact t3
        · rw [get_ne (by omega), get_eq, get_ne (by omega), get_ne (by omega), hT3]; exact t5
        · rw [get_eq, get_ne (by omega), get_ne (by omega), get_ne (by omega), hT3]; exact t6
      have hlt : i < 6 := nI_l3 (a := 6) (by decide) (by omega) h5
      refine V_aload_n (pc := 8) dX4_copyFrom_8 rfl rfl ?_
      refine V_getR (pc := 9) (ci := 4) (j := 0) (k2 := (s + 1)) dX4_copyFrom_9 fl_X4_11 (fun _ _ _ _ => rfl) (by first | decide | omega) (by first | rfl | assumption | exact (hrow _ (by omega)).2 | exact (htrow _ (by omega)).2 | decide) (rf_4_0 (by first | rfl | assumption | exact (hrow _ (by omega)).2 | exact (htrow _ (by omega)).2 | decide)) ?_
      refine V_iload_n (pc := 12) dX4_copyFrom_12 rfl rfl ?_
      refine V_aald14 (pc := 13) (j := i) dX4_copyFrom_13 (by first | decide | omega) (by first | rfl | assumption | exact (hrow _ (by omega)).2 | exact (htrow _ (by omega)).2 | decide) rfl (by omega) ?_
      refine V_aload_n (pc := 14) dX4_copyFrom_14 rfl rfl ?_
      refine V_getR (pc := 15) (ci := 4) (j := 0) (k2 := (t + 1)) dX4_copyFrom_15 fl_X4_11 (fun _ _ _ _ => rfl) (by first | decide | omega) (by first | rfl | assumption | exact (hrow _ (by omega)).2 | exact (htrow _ (by omega)).2 | decide) (rf_4_0 (by first | rfl | assumption | exact (hrow _ (by omega)).2 | exact (htrow _ (by omega)).2 | decide)) ?_
      refine V_iload_n (pc := 18) dX4_copyFrom_18 rfl rfl ?_
      refine V_aald14 (pc := 19) (j := i) dX4_copyFrom_19 (by first | decide | omega) (by first | rfl | assumption | exact (hrow _ (by omega)).2 | exact (htrow _ (by omega)).2 | decide) rfl (by omega) ?_
      refine V_inv1 (pc := 20) (ci := 5) dX4_copyFrom_20 ml_X4_44 (by first | decide | omega) (by first | rfl | assumption | exact (hrow _ (by omega)).2 | exact (htrow _ (by omega)).2 | decide) ⟨by decide, rfl⟩ (by decide) (Nat.le_of_ble_eq_true rfl) (c_X5_copyFrom μ1 (hrow i hlt).1 (hrow i hlt).2 (htrow i hlt).1 (htrow i hlt).2 (by omega) ((t8 i hlt).kept (fun j => by rw [q2.1 _ (fun q => by omega)]))) ?_
      rintro _ μ2 ⟨rfl, k1, k2⟩
      refine V_iinc2 (pc := 23) (v := nI (i + 1)) dX4_copyFrom_23 (nI_1 i) (by decide) rfl ?_
      refine V_goto (pc := 26) (tgt := 2) dX4_copyFrom_26 (by decide) ?_
      refine ihA (i + 1) μ2 (by omega) (by omega) (fun j hj => ?_) (q2.tr k2 (fun k hk => by have : k = s + 1 + 1 + i := hk; omega))
      by_cases e : j = i
      · rw [e]; exact k1
      · exact (q1 j (by omega)).kept (fun q => by rw [k2.1 _ (fun h => e (by have : s + 1 + 1 + j = s + 1 + 1 + i := h; omega))])
  exact loopA (6 + 1) 0 _ (by omega) (by omega) (fun j hj => absurd hj (by omega)) FrM.rf
