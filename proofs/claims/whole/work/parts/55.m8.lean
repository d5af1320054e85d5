theorem dX8_canBlow_0 : decode cX8_canBlow 0 = .ok (.aload_n 0, 1) := by decide +kernel
theorem dX8_canBlow_1 : decode cX8_canBlow 1 = .ok (.getfield 7, 3) := by decide +kernel
theorem dX8_canBlow_4 : decode cX8_canBlow 4 = .ok (.iconst 3, 1) := by decide +kernel
theorem dX8_canBlow_5 : decode cX8_canBlow 5 = .ok (.iload_n 1, 1) := by decide +kernel
theorem dX8_canBlow_6 : decode cX8_canBlow 6 = .ok (.imul, 1) := by decide +kernel
theorem dX8_canBlow_7 : decode cX8_canBlow 7 = .ok (.iaload, 1) := by decide +kernel
theorem dX8_canBlow_8 : decode cX8_canBlow 8 = .ok (.aload_n 0, 1) := by decide +kernel
theorem dX8_canBlow_9 : decode cX8_canBlow 9 = .ok (.getfield 7, 3) := by decide +kernel
theorem dX8_canBlow_12 : decode cX8_canBlow 12 = .ok (.iconst 3, 1) := by decide +kernel
theorem dX8_canBlow_13 : decode cX8_canBlow 13 = .ok (.iload_n 1, 1) := by decide +kernel
theorem dX8_canBlow_14 : decode cX8_canBlow 14 = .ok (.imul, 1) := by decide +kernel
theorem dX8_canBlow_15 : decode cX8_canBlow 15 = .ok (.iconst 1, 1) := by decide +kernel
theorem dX8_canBlow_16 : decode cX8_canBlow 16 = .ok (.iadd, 1) := by decide +kernel
theorem dX8_canBlow_17 : decode cX8_canBlow 17 = .ok (.iaload, 1) := by decide +kernel
theorem dX8_canBlow_18 : decode cX8_canBlow 18 = .ok (.iadd, 1) := by decide +kernel
theorem dX8_canBlow_19 : decode cX8_canBlow 19 = .ok (.aload_n 0, 1) := by decide +kernel
theorem dX8_canBlow_20 : decode cX8_canBlow 20 = .ok (.getfield 7, 3) := by decide +kernel
theorem dX8_canBlow_23 : decode cX8_canBlow 23 = .ok (.iconst 3, 1) := by decide +kernel
theorem dX8_canBlow_24 : decode cX8_canBlow 24 = .ok (.iload_n 1, 1) := by decide +kernel
theorem dX8_canBlow_25 : decode cX8_canBlow 25 = .ok (.imul, 1) := by decide +kernel
theorem dX8_canBlow_26 : decode cX8_canBlow 26 = .ok (.iconst 2, 1) := by decide +kernel
theorem dX8_canBlow_27 : decode cX8_canBlow 27 = .ok (.iadd, 1) := by decide +kernel
theorem dX8_canBlow_28 : decode cX8_canBlow 28 = .ok (.iaload, 1) := by decide +kernel
theorem dX8_canBlow_29 : decode cX8_canBlow 29 = .ok (.iadd, 1) := by decide +kernel
theorem dX8_canBlow_30 : decode cX8_canBlow 30 = .ok (.ifCond .le 7, 3) := by decide +kernel
theorem dX8_canBlow_33 : decode cX8_canBlow 33 = .ok (.iconst 1, 1) := by decide +kernel
theorem dX8_canBlow_34 : decode cX8_canBlow 34 = .ok (.goto 4, 3) := by decide +kernel
theorem dX8_canBlow_37 : decode cX8_canBlow 37 = .ok (.iconst 0, 1) := by decide +kernel
theorem dX8_canBlow_38 : decode cX8_canBlow 38 = .ok (.ireturn, 1) := by decide +kernel
set_option maxHeartbeats 4000000 in
set_option maxRecDepth 100000 in
theorem c_X8_canBlow {l : Launch} {g : GW} {a : AT} {w : Nat} (μ : Mm) (hO : AOK a) (hM : RM μ a) (hnb : 0 < aNb a) (hw : w < 5) : Con l g yX8_canBlow cX8_canBlow 2 (some .boolean) 0 [.ref 65, .int (nI w)] μ (fun r μ' => r = some (.int (bI (decide (0 < sumT (aTn a) w 3)))) ∧ μ' = μ) := by
  obtain ⟨m1, m2, m3, m4, m5, m6, m7, m8, m9, m10, m11, m12, m13⟩ := id hM
  obtain ⟨o1, o2, o3, o4, o5, ⟨s1, s2, s3, s4⟩, oK, o8, o9, o10⟩ := id hO
  have hB := m4 hnb
  have t0 := o4.le (w := w) (s := 0) hw (by omega)
  have t1 := o4.le (w := w) (s := 1) hw (by omega)
  have t2 := o4.le (w := w) (s := 2) hw (by omega)
  refine Con.of [.ref 65, .int (nI w)] 0 (by decide +kernel) (Nat.le_of_ble_eq_true rfl) rfl ?_
  refine V_aload_n (pc := 0) dX8_canBlow_0 rfl rfl ?_
  refine V_getR (pc := 1) (ci := 8) (j := 3) (k2 := 66) dX8_canBlow_1 fl_X8_7 (fun _ _ _ _ => rfl) (by decide) rfl (rf_8_3 rfl) ?_
  refine V_iconst (pc := 4) (v := 3) dX8_canBlow_4 (by decide) ?_
  refine V_iload_n (pc := 5) dX8_canBlow_5 rfl rfl ?_
  refine V_imul (pc := 6) dX8_canBlow_6 ?_
  refine V_iald (pc := 7) (j := (3 * w)) dX8_canBlow_7 (by decide) rfl (by rw [show (3 : Int32) = nI 3 from rfl, pk_mul]) (by show 3 * w < 15; omega) ?_
  refine V_aload_n (pc := 8) dX8_canBlow_8 rfl rfl ?_
  refine V_getR (pc := 9) (ci := 8) (j := 3) (k2 := 66) dX8_canBlow_9 fl_X8_7 (fun _ _ _ _ => rfl) (by decide) rfl (rf_8_3 rfl) ?_
  refine V_iconst (pc := 12) (v := 3) dX8_canBlow_12 (by decide) ?_
  refine V_iload_n (pc := 13) dX8_canBlow_13 rfl rfl ?_
  refine V_imul (pc := 14) dX8_canBlow_14 ?_
  refine V_iconst (pc := 15) (v := 1) dX8_canBlow_15 (by decide) ?_
  refine V_iadd (pc := 16) dX8_canBlow_16 ?_
  refine V_iald (pc := 17) (j := (3 * w + 1)) dX8_canBlow_17 (by decide) rfl (by rw [show (3 : Int32) = nI 3 from rfl, pk_mul, nI_1]) (by show 3 * w + 1 < 15; omega) ?_
  refine V_iadd (pc := 18) dX8_canBlow_18 ?_
  refine V_aload_n (pc := 19) dX8_canBlow_19 rfl rfl ?_
  refine V_getR (pc := 20) (ci := 8) (j := 3) (k2 := 66) dX8_canBlow_20 fl_X8_7 (fun _ _ _ _ => rfl) (by decide) rfl (rf_8_3 rfl) ?_
  refine V_iconst (pc := 23) (v := 3) dX8_canBlow_23 (by decide) ?_
  refine V_iload_n (pc := 24) dX8_canBlow_24 rfl rfl ?_
  refine V_imul (pc := 25) dX8_canBlow_25 ?_
  refine V_iconst (pc := 26) (v := 2) dX8_canBlow_26 (by decide) ?_
  refine V_iadd (pc := 27) dX8_canBlow_27 ?_
  refine V_iald (pc := 28) (j := (3 * w + 2)) dX8_canBlow_28 (by decide) rfl (by rw [show (3 : Int32) = nI 3 from rfl, show (2 : Int32) = nI 2 from rfl, pk_mul, nI_add]) (by show 3 * w + 2 < 15; omega) ?_
  refine V_iadd (pc := 29) dX8_canBlow_29 ?_
  have es : μ.1 66 (3 * w) + μ.1 66 (3 * w + 1) + μ.1 66 (3 * w + 2) = nI (sumT (aTn a) w 3) := by
    rw [show μ.1 66 (3 * w) = nI (aTn a w 0) from hB.1 w 0 hw (by omega), hB.1 w 1 hw (by omega), hB.1 w 2 hw (by omega), nI_add, nI_add]
    simp only [sumT, Nat.zero_add]
  have hsl : sumT (aTn a) w 3 ≤ 30 := by simp only [sumT]; omega
  rw [es]
  refine V_ifle (pc := 30) (tgt := 37) dX8_canBlow_30 (by decide) (fun h30 => ?_) (fun h30 => ?_)
  · have h30 := (nI_leI (a := sumT (aTn a) w 3) (b := 0) (by omega) (by decide)).mp h30; have ed : decide (0 < sumT (aTn a) w 3) = false := decide_eq_false (by omega)
    refine V_iconst (pc := 37) (v := 0) dX8_canBlow_37 (by decide) ?_
    refine V_zret (pc := 38) dX8_canBlow_38 rfl (by first | exact Or.inl rfl | exact Or.inr rfl | assumption) ?_
    exact ⟨by rw [ed]; rfl, rfl⟩
  have h30 := mt (nI_leI (a := sumT (aTn a) w 3) (b := 0) (by omega) (by decide)).mpr h30; have ed : decide (0 < sumT (aTn a) w 3) = true := decide_eq_true (by omega)
  refine V_iconst (pc := 33) (v := 1) dX8_canBlow_33 (by decide) ?_
  refine V_goto (pc := 34) (tgt := 38) dX8_canBlow_34 (by decide) ?_
  refine V_zret (pc := 38) dX8_canBlow_38 rfl (by first | exact Or.inl rfl | exact Or.inr rfl | assumption) ?_
  exact ⟨by rw [ed]; rfl, rfl⟩
theorem dX8_waysBy_0 : decode cX8_waysBy 0 = .ok (.iconst 0, 1) := by decide +kernel
theorem dX8_waysBy_1 : decode cX8_waysBy 1 = .ok (.istore_n 3, 1) := by decide +kernel
theorem dX8_waysBy_2 : decode cX8_waysBy 2 = .ok (.iconst 0, 1) := by decide +kernel
theorem dX8_waysBy_3 : decode cX8_waysBy 3 = .ok (.istore 4, 2) := by decide +kernel
theorem dX8_waysBy_5 : decode cX8_waysBy 5 = .ok (.iload 4, 2) := by decide +kernel
theorem dX8_waysBy_7 : decode cX8_waysBy 7 = .ok (.iconst 4, 1) := by decide +kernel
theorem dX8_waysBy_8 : decode cX8_waysBy 8 = .ok (.if_icmp .gt 87, 3) := by decide +kernel
theorem dX8_waysBy_11 : decode cX8_waysBy 11 = .ok (.aload_n 0, 1) := by decide +kernel
theorem dX8_waysBy_12 : decode cX8_waysBy 12 = .ok (.iload 4, 2) := by decide +kernel
theorem dX8_waysBy_14 : decode cX8_waysBy 14 = .ok (.invokevirtual 240, 3) := by decide +kernel
theorem dX8_waysBy_17 : decode cX8_waysBy 17 = .ok (.ifCond .eq 23, 3) := by decide +kernel
theorem dX8_waysBy_20 : decode cX8_waysBy 20 = .ok (.iload_n 2, 1) := by decide +kernel
theorem dX8_waysBy_21 : decode cX8_waysBy 21 = .ok (.iconst (-1), 1) := by decide +kernel
theorem dX8_waysBy_22 : decode cX8_waysBy 22 = .ok (.if_icmp .eq 14, 3) := by decide +kernel
theorem dX8_waysBy_25 : decode cX8_waysBy 25 = .ok (.aload_n 0, 1) := by decide +kernel
theorem dX8_waysBy_26 : decode cX8_waysBy 26 = .ok (.getfield 38, 3) := by decide +kernel
theorem dX8_waysBy_29 : decode cX8_waysBy 29 = .ok (.iload_n 1, 1) := by decide +kernel
theorem dX8_waysBy_30 : decode cX8_waysBy 30 = .ok (.iaload, 1) := by decide +kernel
theorem dX8_waysBy_31 : decode cX8_waysBy 31 = .ok (.bipush 9, 2) := by decide +kernel
theorem dX8_waysBy_33 : decode cX8_waysBy 33 = .ok (.if_icmp .eq 7, 3) := by decide +kernel
theorem dX8_waysBy_36 : decode cX8_waysBy 36 = .ok (.iconst 1, 1) := by decide +kernel
theorem dX8_waysBy_37 : decode cX8_waysBy 37 = .ok (.goto 4, 3) := by decide +kernel
theorem dX8_waysBy_40 : decode cX8_waysBy 40 = .ok (.iconst 0, 1) := by decide +kernel
theorem dX8_waysBy_41 : decode cX8_waysBy 41 = .ok (.istore 5, 2) := by decide +kernel
theorem dX8_waysBy_43 : decode cX8_waysBy 43 = .ok (.iload_n 3, 1) := by decide +kernel
theorem dX8_waysBy_44 : decode cX8_waysBy 44 = .ok (.iload 5, 2) := by decide +kernel
theorem dX8_waysBy_46 : decode cX8_waysBy 46 = .ok (.ifCond .eq 40, 3) := by decide +kernel
theorem dX8_waysBy_49 : decode cX8_waysBy 49 = .ok (.aload_n 0, 1) := by decide +kernel
theorem dX8_waysBy_50 : decode cX8_waysBy 50 = .ok (.aload_n 0, 1) := by decide +kernel
theorem dX8_waysBy_51 : decode cX8_waysBy 51 = .ok (.getfield 16, 3) := by decide +kernel
theorem dX8_waysBy_54 : decode cX8_waysBy 54 = .ok (.aload_n 0, 1) := by decide +kernel
theorem dX8_waysBy_55 : decode cX8_waysBy 55 = .ok (.getfield 34, 3) := by decide +kernel
theorem dX8_waysBy_58 : decode cX8_waysBy 58 = .ok (.iaload, 1) := by decide +kernel
theorem dX8_waysBy_59 : decode cX8_waysBy 59 = .ok (.aload_n 0, 1) := by decide +kernel
theorem dX8_waysBy_60 : decode cX8_waysBy 60 = .ok (.getfield 38, 3) := by decide +kernel
theorem dX8_waysBy_63 : decode cX8_waysBy 63 = .ok (.iload_n 1, 1) := by decide +kernel
theorem dX8_waysBy_64 : decode cX8_waysBy 64 = .ok (.iaload, 1) := by decide +kernel
theorem dX8_waysBy_65 : decode cX8_waysBy 65 = .ok (.iload 4, 2) := by decide +kernel
theorem dX8_waysBy_67 : decode cX8_waysBy 67 = .ok (.iload_n 2, 1) := by decide +kernel
theorem dX8_waysBy_68 : decode cX8_waysBy 68 = .ok (.invokevirtual 166, 3) := by decide +kernel
theorem dX8_waysBy_71 : decode cX8_waysBy 71 = .ok (.aload_n 0, 1) := by decide +kernel
theorem dX8_waysBy_72 : decode cX8_waysBy 72 = .ok (.getfield 38, 3) := by decide +kernel
theorem dX8_waysBy_75 : decode cX8_waysBy 75 = .ok (.iload_n 1, 1) := by decide +kernel
theorem dX8_waysBy_76 : decode cX8_waysBy 76 = .ok (.iconst 1, 1) := by decide +kernel
theorem dX8_waysBy_77 : decode cX8_waysBy 77 = .ok (.iadd, 1) := by decide +kernel
theorem dX8_waysBy_78 : decode cX8_waysBy 78 = .ok (.iaload, 1) := by decide +kernel
theorem dX8_waysBy_79 : decode cX8_waysBy 79 = .ok (.if_icmp .ne 7, 3) := by decide +kernel
theorem dX8_waysBy_82 : decode cX8_waysBy 82 = .ok (.iconst 1, 1) := by decide +kernel
theorem dX8_waysBy_83 : decode cX8_waysBy 83 = .ok (.goto 4, 3) := by decide +kernel
theorem dX8_waysBy_86 : decode cX8_waysBy 86 = .ok (.iconst 0, 1) := by decide +kernel
theorem dX8_waysBy_87 : decode cX8_waysBy 87 = .ok (.iadd, 1) := by decide +kernel
theorem dX8_waysBy_88 : decode cX8_waysBy 88 = .ok (.istore_n 3, 1) := by decide +kernel
theorem dX8_waysBy_89 : decode cX8_waysBy 89 = .ok (.iinc 4 1, 3) := by decide +kernel
theorem dX8_waysBy_92 : decode cX8_waysBy 92 = .ok (.goto (-87), 3) := by decide +kernel
theorem dX8_waysBy_95 : decode cX8_waysBy 95 = .ok (.iload_n 3, 1) := by decide +kernel
theorem dX8_waysBy_96 : decode cX8_waysBy 96 = .ok (.ireturn, 1) := by decide +kernel
set_option maxHeartbeats 4000000 in
set_option maxRecDepth 100000 in
theorem c_X8_waysBy {l : Launch} {g : GW} {a : AT} {d k : Nat} (μ : Mm) (hO : AOK a) (hM : RM μ a) (hnb : 0 < aNb a) (hwb : aWb a = true) (hd : d < aWn a) (hk : k ≤ 6) : Con l g yX8_waysBy cX8_waysBy 6 (some .int) 1 [.ref 65, .int (nI d), .int (cI k)] μ (fun r μ' => r = some (.int (nI (wdT (aTn a) (aOw a) (aWk a) (aWp a) d k))) ∧ μ' = μ) := by
  obtain ⟨m1, m2, m3, m4, m5, m6, m7, m8, m9, m10, m11, m12, m13⟩ := id hM
  obtain ⟨o1, o2, o3, o4, o5, ⟨s1, s2, s3, s4⟩, oK, o8, o9, o10⟩ := id hO
  obtain ⟨w1, w2, w3⟩ := m11
  rw [hwb, if_pos rfl] at w1
  obtain ⟨z, z1, z2, z3⟩ := w1
  have hp9 := o10 d (by omega)
  have hq9 := o10 (d + 1) (by omega)
  refine Con.of [.ref 65, .int (nI d), .int (cI k), .null, .null, .null] 3 (by decide +kernel) (Nat.le_of_ble_eq_true rfl) rfl ?_
  refine V_iconst (pc := 0) (v := 0) dX8_waysBy_0 (by decide) ?_
  refine V_istore3 (pc := 1) dX8_waysBy_1 (by decide) rfl ?_
  refine V_iconst (pc := 2) (v := 0) dX8_waysBy_2 (by decide) ?_
  refine V_istore4 (pc := 3) dX8_waysBy_3 (by decide) rfl ?_
  have loopA : ∀ (nA w : Nat) (u : Int32) (y5 : Value), w ≤ 5 → 5 < w + nA → (u = nI (wrT (aTn a) (aOw a) (aWk a) (aWp a) d k w)) → V l g RX8 cX8_waysBy 6 (some .int) 1 5 [.ref 65, .int (nI d), .int (cI k), .int u, .int (nI w), y5] [] μ (fun r μ' => r = some (.int (nI (wdT (aTn a) (aOw a) (aWk a) (aWp a) d k))) ∧ μ' = μ) := by
    intro nA
    induction nA with
    | zero => intro w u y5 h1 h2; exact absurd h2 (by omega)
    | succ nA ihA =>
      intro w u y5 hleA hfuA hu
      refine V_iload (pc := 5) dX8_waysBy_5 rfl ?_
      refine V_iconst (pc := 7) (v := 4) dX8_waysBy_7 (by decide) ?_
      refine V_icmpgt (pc := 8) (tgt := 95) dX8_waysBy_8 (by decide) (fun h8 => ?_) (fun h8 => ?_)
      · have h8 := (nI_ltI (a := 4) (b := w) (by decide) (by omega)).mp h8; obtain rfl : w = 5 := by omega
        refine V_iload_n (pc := 95) dX8_waysBy_95 rfl rfl ?_
        refine V_iret (pc := 96) dX8_waysBy_96 rfl ?_
        exact ⟨by rw [hu, wrT_eq]; rfl, rfl⟩
      have hlt : w < 5 := by have := mt (nI_ltI (a := 4) (b := w) (by decide) (by omega)).mpr h8; omega
      refine V_aload_n (pc := 11) dX8_waysBy_11 rfl rfl ?_
      refine V_iload (pc := 12) dX8_waysBy_12 rfl ?_
      refine V_inv1 (pc := 14) (ci := 8) dX8_waysBy_14 ml_X8_240 (by decide) rfl ⟨by decide, rfl⟩ (by first | decide | omega) (Nat.le_of_ble_eq_true rfl) (c_X8_canBlow μ hO hM hnb hlt) ?_
      rintro _ μ2 ⟨rfl, hμ⟩
      obtain rfl := hμ.symm
      refine V_ifeq (pc := 17) (tgt := 40) dX8_waysBy_17 (by decide) (fun h17 => ?_) (fun h17 => ?_)
      · have h17 := of_decide_eq_false (bI_e h17)
        refine V_iconst (pc := 40) (v := 0) dX8_waysBy_40 (by decide) ?_
        refine V_istore5 (pc := 41) dX8_waysBy_41 (by decide) rfl ?_
        refine V_iload_n (pc := 43) dX8_waysBy_43 rfl rfl ?_
        refine V_iload (pc := 44) dX8_waysBy_44 rfl ?_
        refine V_ifeq (pc := 46) (tgt := 86) dX8_waysBy_46 (by decide) (fun h46 => ?_) (fun h46 => ?_)
        · refine V_iconst (pc := 86) (v := 0) dX8_waysBy_86 (by decide) ?_
          refine V_iadd (pc := 87) dX8_waysBy_87 ?_
          refine V_istore3 (pc := 88) dX8_waysBy_88 (by decide) rfl ?_
          refine V_iinc4 (pc := 89) (v := nI (w + 1)) dX8_waysBy_89 (nI_1 w) (by decide) rfl ?_
          refine V_goto (pc := 92) (tgt := 5) dX8_waysBy_92 (by decide) ?_
          refine ihA (w + 1) _ _ (by omega) (by omega) ?_
          show _ = nI (wrT (aTn a) (aOw a) (aWk a) (aWp a) d k w + if (0 < sumT (aTn a) w 3 ∧ (k = 0 ∨ aWp a d ≠ 9)) ∧ aft (aOw a) (aWk a) (aWp a d) k w = aWp a (d + 1) then 1 else 0)
          rw [hu]
          first
          | (rw [if_pos (by omega)]; exact nI_1 _)
          | (rw [if_neg (by omega)]; exact nI_add _ 0)
        exact absurd rfl h46
      have h17 := of_decide_eq_true (bI_ne h17)
      refine V_iload_n (pc := 20) dX8_waysBy_20 rfl rfl ?_
      refine V_iconst (pc := 21) (v := (-1)) dX8_waysBy_21 (by decide) ?_
      refine V_icmpeq (pc := 22) (tgt := 36) dX8_waysBy_22 (by decide) (fun h22 => ?_) (fun h22 => ?_)
      · have h22 := (cI_m1 (a := k) (by omega)).mp h22
        refine V_iconst (pc := 36) (v := 1) dX8_waysBy_36 (by decide) ?_
        refine V_goto (pc := 37) (tgt := 41) dX8_waysBy_37 (by decide) ?_
        refine V_istore5 (pc := 41) dX8_waysBy_41 (by decide) rfl ?_
        refine V_iload_n (pc := 43) dX8_waysBy_43 rfl rfl ?_
        refine V_iload (pc := 44) dX8_waysBy_44 rfl ?_
        refine V_ifeq (pc := 46) (tgt := 86) dX8_waysBy_46 (by decide) (fun h46 => ?_) (fun h46 => ?_)
        · exact absurd h46 (by decide)
        refine V_aload_n (pc := 49) dX8_waysBy_49 rfl rfl ?_
        refine V_aload_n (pc := 50) dX8_waysBy_50 rfl rfl ?_
        refine V_getR (pc := 51) (ci := 8) (j := 6) (k2 := 68) dX8_waysBy_51 fl_X8_16 (fun _ _ _ _ => rfl) (by decide) rfl (rf_8_6 rfl) ?_
        refine V_aload_n (pc := 54) dX8_waysBy_54 rfl rfl ?_
        refine V_getI (pc := 55) (ci := 8) (j := 15) dX8_waysBy_55 fl_X8_34 (fun _ _ _ _ => rfl) (by decide) rfl ?_
        refine V_iald (pc := 58) (j := z) dX8_waysBy_58 (by decide) rfl z2 (by show z < 6; omega) ?_
        rw [(m6 z z1).1, z3]
        refine V_aload_n (pc := 59) dX8_waysBy_59 rfl rfl ?_
        refine V_getR (pc := 60) (ci := 8) (j := 17) (k2 := 74) dX8_waysBy_60 fl_X8_38 (fun _ _ _ _ => rfl) (by decide) rfl (rf_8_17 rfl) ?_
        refine V_iload_n (pc := 63) dX8_waysBy_63 rfl rfl ?_
        refine V_iald (pc := 64) (j := d) dX8_waysBy_64 (by decide) rfl rfl (by show d < 7; omega) ?_
        rw [w3 d (by omega)]
        refine V_iload (pc := 65) dX8_waysBy_65 rfl ?_
        refine V_iload_n (pc := 67) dX8_waysBy_67 rfl rfl ?_
        refine V_inv4 (pc := 68) (ci := 8) dX8_waysBy_68 ml_X8_166 (by decide) rfl ⟨by decide, rfl⟩ (by first | decide | omega) (Nat.le_of_ble_eq_true rfl) (c_X8_behind μ hO hM hnb o8 hp9 (show w ≤ 4 by omega) hk) ?_
        rintro _ μ2 ⟨rfl, hμ⟩
        obtain rfl := hμ.symm
        refine V_aload_n (pc := 71) dX8_waysBy_71 rfl rfl ?_
        refine V_getR (pc := 72) (ci := 8) (j := 17) (k2 := 74) dX8_waysBy_72 fl_X8_38 (fun _ _ _ _ => rfl) (by decide) rfl (rf_8_17 rfl) ?_
        refine V_iload_n (pc := 75) dX8_waysBy_75 rfl rfl ?_
        refine V_iconst (pc := 76) (v := 1) dX8_waysBy_76 (by decide) ?_
        refine V_iadd (pc := 77) dX8_waysBy_77 ?_
        refine V_iald (pc := 78) (j := (d + 1)) dX8_waysBy_78 (by decide) rfl (nI_1 d) (by show d + 1 < 7; omega) ?_
        have haft := aft_le (ow := aOw a) (κ := aWk a) (p := aWp a d) (k := k) (w := w) hp9
        rw [w3 (d + 1) (by omega)]
        refine V_icmpne (pc := 79) (tgt := 86) dX8_waysBy_79 (by decide) (fun h79 => ?_) (fun h79 => ?_)
        · have h79 := mt (nI_eq (a := aft (aOw a) (aWk a) (aWp a d) k w) (b := aWp a (d + 1)) (by omega) (by omega)).mpr h79
          refine V_iconst (pc := 86) (v := 0) dX8_waysBy_86 (by decide) ?_
          refine V_iadd (pc := 87) dX8_waysBy_87 ?_
          refine V_istore3 (pc := 88) dX8_waysBy_88 (by decide) rfl ?_
          refine V_iinc4 (pc := 89) (v := nI (w + 1)) dX8_waysBy_89 (nI_1 w) (by decide) rfl ?_
          refine V_goto (pc := 92) (tgt := 5) dX8_waysBy_92 (by decide) ?_
          refine ihA (w + 1) _ _ (by omega) (by omega) ?_
          show _ = nI (wrT (aTn a) (aOw a) (aWk a) (aWp a) d k w + if (0 < sumT (aTn a) w 3 ∧ (k = 0 ∨ aWp a d ≠ 9)) ∧ aft (aOw a) (aWk a) (aWp a d) k w = aWp a (d + 1) then 1 else 0)
          rw [hu]
          first
          | (rw [if_pos (by omega)]; exact nI_1 _)
          | (rw [if_neg (by omega)]; exact nI_add _ 0)
        have h79 := (nI_eq (a := aft (aOw a) (aWk a) (aWp a d) k w) (b := aWp a (d + 1)) (by omega) (by omega)).mp h79
        refine V_iconst (pc := 82) (v := 1) dX8_waysBy_82 (by decide) ?_
        refine V_goto (pc := 83) (tgt := 87) dX8_waysBy_83 (by decide) ?_
        refine V_iadd (pc := 87) dX8_waysBy_87 ?_
        refine V_istore3 (pc := 88) dX8_waysBy_88 (by decide) rfl ?_
        refine V_iinc4 (pc := 89) (v := nI (w + 1)) dX8_waysBy_89 (nI_1 w) (by decide) rfl ?_
        refine V_goto (pc := 92) (tgt := 5) dX8_waysBy_92 (by decide) ?_
        refine ihA (w + 1) _ _ (by omega) (by omega) ?_
        show _ = nI (wrT (aTn a) (aOw a) (aWk a) (aWp a) d k w + if (0 < sumT (aTn a) w 3 ∧ (k = 0 ∨ aWp a d ≠ 9)) ∧ aft (aOw a) (aWk a) (aWp a d) k w = aWp a (d + 1) then 1 else 0)
        rw [hu]
        first
        | (rw [if_pos (by omega)]; exact nI_1 _)
        | (rw [if_neg (by omega)]; exact nI_add _ 0)
      have h22 := mt (cI_m1 (a := k) (by omega)).mpr h22
      refine V_aload_n (pc := 25) dX8_waysBy_25 rfl rfl ?_
      refine V_getR (pc := 26) (ci := 8) (j := 17) (k2 := 74) dX8_waysBy_26 fl_X8_38 (fun _ _ _ _ => rfl) (by decide) rfl (rf_8_17 rfl) ?_
      refine V_iload_n (pc := 29) dX8_waysBy_29 rfl rfl ?_
      refine V_iald (pc := 30) (j := d) dX8_waysBy_30 (by decide) rfl rfl (by show d < 7; omega) ?_
      rw [w3 d (by omega)]
      refine V_bipush (pc := 31) (v := 9) dX8_waysBy_31 (by decide) ?_
      refine V_icmpeq (pc := 33) (tgt := 40) dX8_waysBy_33 (by decide) (fun h33 => ?_) (fun h33 => ?_)
      · have h33 := (nI_eq (a := aWp a d) (b := 9) (by omega) (by omega)).mp h33
        refine V_iconst (pc := 40) (v := 0) dX8_waysBy_40 (by decide) ?_
        refine V_istore5 (pc := 41) dX8_waysBy_41 (by decide) rfl ?_
        refine V_iload_n (pc := 43) dX8_waysBy_43 rfl rfl ?_
        refine V_iload (pc := 44) dX8_waysBy_44 rfl ?_
        refine V_ifeq (pc := 46) (tgt := 86) dX8_waysBy_46 (by decide) (fun h46 => ?_) (fun h46 => ?_)
        · refine V_iconst (pc := 86) (v := 0) dX8_waysBy_86 (by decide) ?_
          refine V_iadd (pc := 87) dX8_waysBy_87 ?_
          refine V_istore3 (pc := 88) dX8_waysBy_88 (by decide) rfl ?_
          refine V_iinc4 (pc := 89) (v := nI (w + 1)) dX8_waysBy_89 (nI_1 w) (by decide) rfl ?_
          refine V_goto (pc := 92) (tgt := 5) dX8_waysBy_92 (by decide) ?_
          refine ihA (w + 1) _ _ (by omega) (by omega) ?_
          show _ = nI (wrT (aTn a) (aOw a) (aWk a) (aWp a) d k w + if (0 < sumT (aTn a) w 3 ∧ (k = 0 ∨ aWp a d ≠ 9)) ∧ aft (aOw a) (aWk a) (aWp a d) k w = aWp a (d + 1) then 1 else 0)
          rw [hu]
          first
          | (rw [if_pos (by omega)]; exact nI_1 _)
          | (rw [if_neg (by omega)]; exact nI_add _ 0)
        exact absurd rfl h46
      have h33 := mt (nI_eq (a := aWp a d) (b := 9) (by omega) (by omega)).mpr h33
      refine V_iconst (pc := 36) (v := 1) dX8_waysBy_36 (by decide) ?_
      refine V_goto (pc := 37) (tgt := 41) dX8_waysBy_37 (by decide) ?_
      refine V_istore5 (pc := 41) dX8_waysBy_41 (by decide) rfl ?_
      refine V_iload_n (pc := 43) dX8_waysBy_43 rfl rfl ?_
      refine V_iload (pc := 44) dX8_waysBy_44 rfl ?_
      refine V_ifeq (pc := 46) (tgt := 86) dX8_waysBy_46 (by decide) (fun h46 => ?_) (fun h46 => ?_)
      · exact absurd h46 (by decide)
      refine V_aload_n (pc := 49) dX8_waysBy_49 rfl rfl ?_
      refine V_aload_n (pc := 50) dX8_waysBy_50 rfl rfl ?_
      refine V_getR (pc := 51) (ci := 8) (j := 6) (k2 := 68) dX8_waysBy_51 fl_X8_16 (fun _ _ _ _ => rfl) (by decide) rfl (rf_8_6 rfl) ?_
      refine V_aload_n (pc := 54) dX8_waysBy_54 rfl rfl ?_
      refine V_getI (pc := 55) (ci := 8) (j := 15) dX8_waysBy_55 fl_X8_34 (fun _ _ _ _ => rfl) (by decide) rfl ?_
      refine V_iald (pc := 58) (j := z) dX8_waysBy_58 (by decide) rfl z2 (by show z < 6; omega) ?_
      rw [(m6 z z1).1, z3]
      refine V_aload_n (pc := 59) dX8_waysBy_59 rfl rfl ?_
      refine V_getR (pc := 60) (ci := 8) (j := 17) (k2 := 74) dX8_waysBy_60 fl_X8_38 (fun _ _ _ _ => rfl) (by decide) rfl (rf_8_17 rfl) ?_
      refine V_iload_n (pc := 63) dX8_waysBy_63 rfl rfl ?_
      refine V_iald (pc := 64) (j := d) dX8_waysBy_64 (by decide) rfl rfl (by show d < 7; omega) ?_
      rw [w3 d (by omega)]
      refine V_iload (pc := 65) dX8_waysBy_65 rfl ?_
      refine V_iload_n (pc := 67) dX8_waysBy_67 rfl rfl ?_
      refine V_inv4 (pc := 68) (ci := 8) dX8_waysBy_68 ml_X8_166 (by decide) rfl ⟨by decide, rfl⟩ (by first | decide | omega) (Nat.le_of_ble_eq_true rfl) (c_X8_behind μ hO hM hnb o8 hp9 (show w ≤ 4 by omega) hk) ?_
      rintro _ μ2 ⟨rfl, hμ⟩
      obtain rfl := hμ.symm
      refine V_aload_n (pc := 71) dX8_waysBy_71 rfl rfl ?_
      refine V_getR (pc := 72) (ci := 8) (j := 17) (k2 := 74) dX8_waysBy_72 fl_X8_38 (fun _ _ _ _ => rfl) (by decide) rfl (rf_8_17 rfl) ?_
      refine V_iload_n (pc := 75) dX8_waysBy_75 rfl rfl ?_
      refine V_iconst (pc := 76) (v := 1) dX8_waysBy_76 (by decide) ?_
      refine V_iadd (pc := 77) dX8_waysBy_77 ?_
      refine V_iald (pc := 78) (j := (d + 1)) dX8_waysBy_78 (by decide) rfl (nI_1 d) (by show d + 1 < 7; omega) ?_
      have haft := aft_le (ow := aOw a) (κ := aWk a) (p := aWp a d) (k := k) (w := w) hp9
      rw [w3 (d + 1) (by omega)]
      refine V_icmpne (pc := 79) (tgt := 86) dX8_waysBy_79 (by decide) (fun h79 => ?_) (fun h79 => ?_)
      · have h79 := mt (nI_eq (a := aft (aOw a) (aWk a) (aWp a d) k w) (b := aWp a (d + 1)) (by omega) (by omega)).mpr h79
        refine V_iconst (pc := 86) (v := 0) dX8_waysBy_86 (by decide) ?_
        refine V_iadd (pc := 87) dX8_waysBy_87 ?_
        refine V_istore3 (pc := 88) dX8_waysBy_88 (by decide) rfl ?_
        refine V_iinc4 (pc := 89) (v := nI (w + 1)) dX8_waysBy_89 (nI_1 w) (by decide) rfl ?_
        refine V_goto (pc := 92) (tgt := 5) dX8_waysBy_92 (by decide) ?_
        refine ihA (w + 1) _ _ (by omega) (by omega) ?_
        show _ = nI (wrT (aTn a) (aOw a) (aWk a) (aWp a) d k w + if (0 < sumT (aTn a) w 3 ∧ (k = 0 ∨ aWp a d ≠ 9)) ∧ aft (aOw a) (aWk a) (aWp a d) k w = aWp a (d + 1) then 1 else 0)
        rw [hu]
        first
        | (rw [if_pos (by omega)]; exact nI_1 _)
        | (rw [if_neg (by omega)]; exact nI_add _ 0)
      have h79 := (nI_eq (a := aft (aOw a) (aWk a) (aWp a d) k w) (b := aWp a (d + 1)) (by omega) (by omega)).mp h79
      refine V_iconst (pc := 82) (v := 1) dX8_waysBy_82 (by decide) ?_
      refine V_goto (pc := 83) (tgt := 87) dX8_waysBy_83 (by decide) ?_
      refine V_iadd (pc := 87) dX8_waysBy_87 ?_
      refine V_istore3 (pc := 88) dX8_waysBy_88 (by decide) rfl ?_
      refine V_iinc4 (pc := 89) (v := nI (w + 1)) dX8_waysBy_89 (nI_1 w) (by decide) rfl ?_
      refine V_goto (pc := 92) (tgt := 5) dX8_waysBy_92 (by decide) ?_
      refine ihA (w + 1) _ _ (by omega) (by omega) ?_
      show _ = nI (wrT (aTn a) (aOw a) (aWk a) (aWp a) d k w + if (0 < sumT (aTn a) w 3 ∧ (k = 0 ∨ aWp a d ≠ 9)) ∧ aft (aOw a) (aWk a) (aWp a d) k w = aWp a (d + 1) then 1 else 0)
      rw [hu]
      first
      | (rw [if_pos (by omega)]; exact nI_1 _)
      | (rw [if_neg (by omega)]; exact nI_add _ 0)
  exact loopA (5 + 1) 0 _ _ (by omega) (by omega) rfl
theorem dX8_calledNow_0 : decode cX8_calledNow 0 = .ok (.iconst 1, 1) := by decide +kernel
theorem dX8_calledNow_1 : decode cX8_calledNow 1 = .ok (.istore_n 1, 1) := by decide +kernel
theorem dX8_calledNow_2 : decode cX8_calledNow 2 = .ok (.iconst 0, 1) := by decide +kernel
theorem dX8_calledNow_3 : decode cX8_calledNow 3 = .ok (.istore_n 2, 1) := by decide +kernel
theorem dX8_calledNow_4 : decode cX8_calledNow 4 = .ok (.iload_n 2, 1) := by decide +kernel
theorem dX8_calledNow_5 : decode cX8_calledNow 5 = .ok (.aload_n 0, 1) := by decide +kernel
theorem dX8_calledNow_6 : decode cX8_calledNow 6 = .ok (.getfield 141, 3) := by decide +kernel
theorem dX8_calledNow_9 : decode cX8_calledNow 9 = .ok (.if_icmp .ge 41, 3) := by decide +kernel
theorem dX8_calledNow_12 : decode cX8_calledNow 12 = .ok (.iconst 0, 1) := by decide +kernel
theorem dX8_calledNow_13 : decode cX8_calledNow 13 = .ok (.istore_n 3, 1) := by decide +kernel
theorem dX8_calledNow_14 : decode cX8_calledNow 14 = .ok (.iconst (-1), 1) := by decide +kernel
theorem dX8_calledNow_15 : decode cX8_calledNow 15 = .ok (.istore 4, 2) := by decide +kernel
theorem dX8_calledNow_17 : decode cX8_calledNow 17 = .ok (.iload 4, 2) := by decide +kernel
theorem dX8_calledNow_19 : decode cX8_calledNow 19 = .ok (.bipush 6, 2) := by decide +kernel
theorem dX8_calledNow_21 : decode cX8_calledNow 21 = .ok (.if_icmp .ge 19, 3) := by decide +kernel
theorem dX8_calledNow_24 : decode cX8_calledNow 24 = .ok (.iload_n 3, 1) := by decide +kernel
theorem dX8_calledNow_25 : decode cX8_calledNow 25 = .ok (.aload_n 0, 1) := by decide +kernel
theorem dX8_calledNow_26 : decode cX8_calledNow 26 = .ok (.iload_n 2, 1) := by decide +kernel
theorem dX8_calledNow_27 : decode cX8_calledNow 27 = .ok (.iload 4, 2) := by decide +kernel
theorem dX8_calledNow_29 : decode cX8_calledNow 29 = .ok (.invokevirtual 243, 3) := by decide +kernel
theorem dX8_calledNow_32 : decode cX8_calledNow 32 = .ok (.iadd, 1) := by decide +kernel
theorem dX8_calledNow_33 : decode cX8_calledNow 33 = .ok (.istore_n 3, 1) := by decide +kernel
theorem dX8_calledNow_34 : decode cX8_calledNow 34 = .ok (.iinc 4 1, 3) := by decide +kernel
theorem dX8_calledNow_37 : decode cX8_calledNow 37 = .ok (.goto (-20), 3) := by decide +kernel
theorem dX8_calledNow_40 : decode cX8_calledNow 40 = .ok (.iload_n 1, 1) := by decide +kernel
theorem dX8_calledNow_41 : decode cX8_calledNow 41 = .ok (.iload_n 3, 1) := by decide +kernel
theorem dX8_calledNow_42 : decode cX8_calledNow 42 = .ok (.imul, 1) := by decide +kernel
theorem dX8_calledNow_43 : decode cX8_calledNow 43 = .ok (.istore_n 1, 1) := by decide +kernel
theorem dX8_calledNow_44 : decode cX8_calledNow 44 = .ok (.iinc 2 1, 3) := by decide +kernel
theorem dX8_calledNow_47 : decode cX8_calledNow 47 = .ok (.goto (-43), 3) := by decide +kernel
theorem dX8_calledNow_50 : decode cX8_calledNow 50 = .ok (.iload_n 1, 1) := by decide +kernel
theorem dX8_calledNow_51 : decode cX8_calledNow 51 = .ok (.ireturn, 1) := by decide +kernel
set_option maxHeartbeats 4000000 in
set_option maxRecDepth 100000 in
theorem c_X8_calledNow {l : Launch} {g : GW} {a : AT}  (μ : Mm) (hO : AOK a) (hM : RM μ a) (hnb : 0 < aNb a) (hwb : aWb a = true) : Con l g yX8_calledNow cX8_calledNow 5 (some .int) 2 [.ref 65] μ (fun r μ' => r = some (.int (nI (wyT (aTn a) (aOw a) (aWk a) (aWp a) (aWn a)))) ∧ μ' = μ) := by
  obtain ⟨m1, m2, m3, m4, m5, m6, m7, m8, m9, m10, m11, m12, m13⟩ := id hM
  obtain ⟨o1, o2, o3, o4, o5, ⟨s1, s2, s3, s4⟩, oK, o8, o9, o10⟩ := id hO
  refine Con.of [.ref 65, .null, .null, .null, .null] 4 (by decide +kernel) (Nat.le_of_ble_eq_true rfl) rfl ?_
  refine V_iconst (pc := 0) (v := 1) dX8_calledNow_0 (by decide) ?_
  refine V_istore1 (pc := 1) dX8_calledNow_1 (by decide) rfl ?_
  refine V_iconst (pc := 2) (v := 0) dX8_calledNow_2 (by decide) ?_
  refine V_istore2 (pc := 3) dX8_calledNow_3 (by decide) rfl ?_
  have loopA : ∀ (nA d : Nat) (u : Int32) (y3 y4 : Value), d ≤ aWn a → aWn a < d + nA → (u = nI (wyT (aTn a) (aOw a) (aWk a) (aWp a) d)) → V l g RX8 cX8_calledNow 5 (some .int) 2 4 [.ref 65, .int u, .int (nI d), y3, y4] [] μ (fun r μ' => r = some (.int (nI (wyT (aTn a) (aOw a) (aWk a) (aWp a) (aWn a)))) ∧ μ' = μ) := by
    intro nA
    induction nA with
    | zero => intro d u y3 y4 h1 h2; exact absurd h2 (by omega)
    | succ nA ihA =>
      intro d u y3 y4 hleA hfuA hu
      refine V_iload_n (pc := 4) dX8_calledNow_4 rfl rfl ?_
      refine V_aload_n (pc := 5) dX8_calledNow_5 rfl rfl ?_
      refine V_getI (pc := 6) (ci := 8) (j := 16) dX8_calledNow_6 fl_X8_141 (fun _ _ _ _ => rfl) (by decide) rfl ?_
      refine V_icmpge (pc := 9) (tgt := 50) dX8_calledNow_9 (by decide) (fun h9 => ?_) (fun h9 => ?_)
      · rw [m11.2.1, nI_leI (by omega) (by omega)] at h9; have hn : d = aWn a := (by omega)
        refine V_iload_n (pc := 50) dX8_calledNow_50 rfl rfl ?_
        refine V_iret (pc := 51) dX8_calledNow_51 rfl ?_
        exact ⟨by rw [hu, hn], rfl⟩
      rw [m11.2.1, nI_leI (by omega) (by omega)] at h9; have hlt : d < aWn a := (by omega)
      refine V_iconst (pc := 12) (v := 0) dX8_calledNow_12 (by decide) ?_
      refine V_istore3 (pc := 13) dX8_calledNow_13 (by decide) rfl ?_
      refine V_iconst (pc := 14) (v := (-1)) dX8_calledNow_14 (by decide) ?_
      refine V_istore4 (pc := 15) dX8_calledNow_15 (by decide) rfl ?_
      have loopB : ∀ (nB k : Nat) (v : Int32), k ≤ 7 → 7 < k + nB → (v = nI (dsT (aTn a) (aOw a) (aWk a) (aWp a) d k)) → V l g RX8 cX8_calledNow 5 (some .int) 2 17 [.ref 65, .int u, .int (nI d), .int v, .int (cI k)] [] μ (fun r μ' => r = some (.int (nI (wyT (aTn a) (aOw a) (aWk a) (aWp a) (aWn a)))) ∧ μ' = μ) := by
        intro nB
        induction nB with
        | zero => intro k v h1 h2; exact absurd h2 (by omega)
        | succ nB ihB =>
          intro k v hleB hfuB hv
          refine V_iload (pc := 17) dX8_calledNow_17 rfl ?_
          refine V_bipush (pc := 19) (v := 6) dX8_calledNow_19 (by decide) ?_
          refine V_icmpge (pc := 21) (tgt := 40) dX8_calledNow_21 (by decide) (fun h21 => ?_) (fun h21 => ?_)
          · rw [geC (by omega)] at h21; obtain rfl : k = 7 := (by omega)
            refine V_iload_n (pc := 40) dX8_calledNow_40 rfl rfl ?_
            refine V_iload_n (pc := 41) dX8_calledNow_41 rfl rfl ?_
            refine V_imul (pc := 42) dX8_calledNow_42 ?_
            refine V_istore1 (pc := 43) dX8_calledNow_43 (by decide) rfl ?_
            refine V_iinc2 (pc := 44) (v := nI (d + 1)) dX8_calledNow_44 (nI_1 d) (by decide) rfl ?_
            refine V_goto (pc := 47) (tgt := 4) dX8_calledNow_47 (by decide) ?_
            exact ihA (d + 1) _ _ _ (by omega) (by omega) (by rw [hu, hv, pk_mul]; rfl)
          rw [geC (by omega)] at h21
          refine V_iload_n (pc := 24) dX8_calledNow_24 rfl rfl ?_
          refine V_aload_n (pc := 25) dX8_calledNow_25 rfl rfl ?_
          refine V_iload_n (pc := 26) dX8_calledNow_26 rfl rfl ?_
          refine V_iload (pc := 27) dX8_calledNow_27 rfl ?_
          refine V_inv2 (pc := 29) (ci := 8) dX8_calledNow_29 ml_X8_243 (by decide) rfl ⟨by decide, rfl⟩ (by first | decide | omega) (Nat.le_of_ble_eq_true rfl) (c_X8_waysBy μ hO hM hnb hwb hlt (show k ≤ 6 by omega)) ?_
          rintro _ μ2 ⟨rfl, hμ⟩
          obtain rfl := hμ.symm
          refine V_iadd (pc := 32) dX8_calledNow_32 ?_
          refine V_istore3 (pc := 33) dX8_calledNow_33 (by decide) rfl ?_
          refine V_iinc4 (pc := 34) (v := cI (k + 1)) dX8_calledNow_34 (cI_add1 k) (by decide) rfl ?_
          refine V_goto (pc := 37) (tgt := 17) dX8_calledNow_37 (by decide) ?_
          exact ihB (k + 1) _ (by omega) (by omega) (by rw [hv, nI_add]; rfl)
      exact loopB (7 + 1) 0 _ (by omega) (by omega) rfl
  exact loopA (aWn a + 1) 0 _ _ _ (by omega) (by omega) rfl
theorem dX8_called_0 : decode cX8_called 0 = .ok (.aload_n 0, 1) := by decide +kernel
theorem dX8_called_1 : decode cX8_called 1 = .ok (.getfield 34, 3) := by decide +kernel
theorem dX8_called_4 : decode cX8_called 4 = .ok (.iconst (-1), 1) := by decide +kernel
theorem dX8_called_5 : decode cX8_called 5 = .ok (.if_icmp .ne 8, 3) := by decide +kernel
theorem dX8_called_8 : decode cX8_called 8 = .ok (.bipush (-103), 2) := by decide +kernel
theorem dX8_called_10 : decode cX8_called 10 = .ok (.goto 7, 3) := by decide +kernel
theorem dX8_called_13 : decode cX8_called 13 = .ok (.aload_n 0, 1) := by decide +kernel
theorem dX8_called_14 : decode cX8_called 14 = .ok (.invokevirtual 246, 3) := by decide +kernel
theorem dX8_called_17 : decode cX8_called 17 = .ok (.ireturn, 1) := by decide +kernel
set_option maxHeartbeats 4000000 in
set_option maxRecDepth 100000 in
theorem c_X8_called {l : Launch} {g : GW} {a : AT}  (μ : Mm) (hO : AOK a) (hM : RM μ a) (hJ : AJ a) : Con l g yX8_called cX8_called 1 (some .int) 3 [.ref 65] μ (fun r μ' => r = some (.int (fCalled a)) ∧ μ' = μ) := by
  obtain ⟨m1, m2, m3, m4, m5, m6, m7, m8, m9, m10, m11, m12, m13⟩ := id hM
  obtain ⟨o1, o2, o3, o4, o5, ⟨s1, s2, s3, s4⟩, oK, o8, o9, o10⟩ := id hO
  refine Con.of [.ref 65] 0 (by decide +kernel) (Nat.le_of_ble_eq_true rfl) rfl ?_
  refine V_aload_n (pc := 0) dX8_called_0 rfl rfl ?_
  refine V_getI (pc := 1) (ci := 8) (j := 15) dX8_called_1 fl_X8_34 (fun _ _ _ _ => rfl) (by decide) rfl ?_
  refine V_iconst (pc := 4) (v := (-1)) dX8_called_4 (by decide) ?_
  refine V_icmpne (pc := 5) (tgt := 13) dX8_called_5 (by decide) (fun h5 => ?_) (fun h5 => ?_)
  · have hwb : aWb a = true := (by cases hq : aWb a; have e := m11.1; rw [hq] at e; exact absurd e h5; rfl); have hnb : 0 < aNb a := by rcases Nat.eq_zero_or_pos (aNb a) with q | q; have e := (hJ.1 q).2; rw [hwb] at e; exact absurd e (by decide); exact q
    refine V_aload_n (pc := 13) dX8_called_13 rfl rfl ?_
    refine V_inv0 (pc := 14) (ci := 8) dX8_called_14 ml_X8_246 (by decide) rfl ⟨by decide, rfl⟩ (by first | decide | omega) (Nat.le_of_ble_eq_true rfl) (c_X8_calledNow μ hO hM hnb hwb) ?_
    rintro _ μ2 ⟨rfl, hμ⟩
    obtain rfl := hμ.symm
    refine V_iret (pc := 17) dX8_called_17 rfl ?_
    refine ⟨congrArg (fun z => some (Value.int z)) ?_, rfl⟩
    unfold fCalled
    rw [hwb]
    rfl
  have hwb : aWb a = false := by cases hq : aWb a; rfl; have e := m11.1; rw [hq] at e; obtain ⟨z, z1, z2, z3⟩ := e; rw [z2] at h5; exact absurd h5 (nI_m1ne (by omega))
  refine V_bipush (pc := 8) (v := (-103)) dX8_called_8 (by decide) ?_
  refine V_goto (pc := 10) (tgt := 17) dX8_called_10 (by decide) ?_
  refine V_iret (pc := 17) dX8_called_17 rfl ?_
  refine ⟨congrArg (fun z => some (Value.int z)) ?_, rfl⟩
  unfold fCalled
  rw [hwb]
  rfl
theorem dX8_by_0 : decode cX8_by 0 = .ok (.aload_n 0, 1) := by decide +kernel
theorem dX8_by_1 : decode cX8_by 1 = .ok (.getfield 34, 3) := by decide +kernel
theorem dX8_by_4 : decode cX8_by 4 = .ok (.iconst (-1), 1) := by decide +kernel
theorem dX8_by_5 : decode cX8_by 5 = .ok (.if_icmp .ne 6, 3) := by decide +kernel
theorem dX8_by_8 : decode cX8_by 8 = .ok (.bipush (-103), 2) := by decide +kernel
theorem dX8_by_10 : decode cX8_by 10 = .ok (.ireturn, 1) := by decide +kernel
theorem dX8_by_11 : decode cX8_by 11 = .ok (.iload_n 1, 1) := by decide +kernel
theorem dX8_by_12 : decode cX8_by 12 = .ok (.iconst 0, 1) := by decide +kernel
theorem dX8_by_13 : decode cX8_by 13 = .ok (.aload_n 0, 1) := by decide +kernel
theorem dX8_by_14 : decode cX8_by 14 = .ok (.getfield 141, 3) := by decide +kernel
theorem dX8_by_17 : decode cX8_by 17 = .ok (.iconst 1, 1) := by decide +kernel
theorem dX8_by_18 : decode cX8_by 18 = .ok (.isub, 1) := by decide +kernel
theorem dX8_by_19 : decode cX8_by 19 = .ok (.invokestatic 88, 3) := by decide +kernel
theorem dX8_by_22 : decode cX8_by 22 = .ok (.ifCond .ne 6, 3) := by decide +kernel
theorem dX8_by_25 : decode cX8_by 25 = .ok (.bipush (-101), 2) := by decide +kernel
theorem dX8_by_27 : decode cX8_by 27 = .ok (.ireturn, 1) := by decide +kernel
theorem dX8_by_28 : decode cX8_by 28 = .ok (.iconst 0, 1) := by decide +kernel
theorem dX8_by_29 : decode cX8_by 29 = .ok (.istore_n 2, 1) := by decide +kernel
theorem dX8_by_30 : decode cX8_by 30 = .ok (.bipush 6, 2) := by decide +kernel
theorem dX8_by_32 : decode cX8_by 32 = .ok (.istore_n 3, 1) := by decide +kernel
theorem dX8_by_33 : decode cX8_by 33 = .ok (.iconst (-1), 1) := by decide +kernel
theorem dX8_by_34 : decode cX8_by 34 = .ok (.istore 4, 2) := by decide +kernel
theorem dX8_by_36 : decode cX8_by 36 = .ok (.iload 4, 2) := by decide +kernel
theorem dX8_by_38 : decode cX8_by 38 = .ok (.bipush 6, 2) := by decide +kernel
theorem dX8_by_40 : decode cX8_by 40 = .ok (.if_icmp .ge 44, 3) := by decide +kernel
theorem dX8_by_43 : decode cX8_by 43 = .ok (.iload_n 2, 1) := by decide +kernel
theorem dX8_by_44 : decode cX8_by 44 = .ok (.aload_n 0, 1) := by decide +kernel
theorem dX8_by_45 : decode cX8_by 45 = .ok (.iload_n 1, 1) := by decide +kernel
theorem dX8_by_46 : decode cX8_by 46 = .ok (.iload 4, 2) := by decide +kernel
theorem dX8_by_48 : decode cX8_by 48 = .ok (.invokevirtual 243, 3) := by decide +kernel
theorem dX8_by_51 : decode cX8_by 51 = .ok (.ifCond .le 7, 3) := by decide +kernel
theorem dX8_by_54 : decode cX8_by 54 = .ok (.iconst 1, 1) := by decide +kernel
theorem dX8_by_55 : decode cX8_by 55 = .ok (.goto 4, 3) := by decide +kernel
theorem dX8_by_58 : decode cX8_by 58 = .ok (.iconst 0, 1) := by decide +kernel
theorem dX8_by_59 : decode cX8_by 59 = .ok (.iadd, 1) := by decide +kernel
theorem dX8_by_60 : decode cX8_by 60 = .ok (.istore_n 2, 1) := by decide +kernel
theorem dX8_by_61 : decode cX8_by 61 = .ok (.aload_n 0, 1) := by decide +kernel
theorem dX8_by_62 : decode cX8_by 62 = .ok (.iload_n 1, 1) := by decide +kernel
theorem dX8_by_63 : decode cX8_by 63 = .ok (.iload 4, 2) := by decide +kernel
theorem dX8_by_65 : decode cX8_by 65 = .ok (.invokevirtual 243, 3) := by decide +kernel
theorem dX8_by_68 : decode cX8_by 68 = .ok (.ifCond .le 8, 3) := by decide +kernel
theorem dX8_by_71 : decode cX8_by 71 = .ok (.iload 4, 2) := by decide +kernel
theorem dX8_by_73 : decode cX8_by 73 = .ok (.goto 4, 3) := by decide +kernel
theorem dX8_by_76 : decode cX8_by 76 = .ok (.iload_n 3, 1) := by decide +kernel
theorem dX8_by_77 : decode cX8_by 77 = .ok (.istore_n 3, 1) := by decide +kernel
theorem dX8_by_78 : decode cX8_by 78 = .ok (.iinc 4 1, 3) := by decide +kernel
theorem dX8_by_81 : decode cX8_by 81 = .ok (.goto (-45), 3) := by decide +kernel
theorem dX8_by_84 : decode cX8_by 84 = .ok (.iload_n 2, 1) := by decide +kernel
theorem dX8_by_85 : decode cX8_by 85 = .ok (.iconst 1, 1) := by decide +kernel
theorem dX8_by_86 : decode cX8_by 86 = .ok (.if_icmp .ne 14, 3) := by decide +kernel
theorem dX8_by_89 : decode cX8_by 89 = .ok (.aload_n 0, 1) := by decide +kernel
theorem dX8_by_90 : decode cX8_by 90 = .ok (.invokevirtual 246, 3) := by decide +kernel
theorem dX8_by_93 : decode cX8_by 93 = .ok (.ifCond .le 7, 3) := by decide +kernel
theorem dX8_by_96 : decode cX8_by 96 = .ok (.iload_n 3, 1) := by decide +kernel
theorem dX8_by_97 : decode cX8_by 97 = .ok (.goto 5, 3) := by decide +kernel
theorem dX8_by_100 : decode cX8_by 100 = .ok (.bipush 6, 2) := by decide +kernel
theorem dX8_by_102 : decode cX8_by 102 = .ok (.ireturn, 1) := by decide +kernel
set_option maxHeartbeats 4000000 in
set_option maxRecDepth 100000 in
theorem c_X8_by {l : Launch} {g : GW} {a : AT} {x : Int32} (μ : Mm) (hO : AOK a) (hM : RM μ a) (hJ : AJ a) : Con l g yX8_by cX8_by 5 (some .int) 3 [.ref 65, .int x] μ (fun r μ' => r = some (.int (fBy a x)) ∧ μ' = μ) := by
  obtain ⟨m1, m2, m3, m4, m5, m6, m7, m8, m9, m10, m11, m12, m13⟩ := id hM
  obtain ⟨o1, o2, o3, o4, o5, ⟨s1, s2, s3, s4⟩, oK, o8, o9, o10⟩ := id hO
  refine Con.of [.ref 65, .int x, .null, .null, .null] 3 (by decide +kernel) (Nat.le_of_ble_eq_true rfl) rfl ?_
  refine V_aload_n (pc := 0) dX8_by_0 rfl rfl ?_
  refine V_getI (pc := 1) (ci := 8) (j := 15) dX8_by_1 fl_X8_34 (fun _ _ _ _ => rfl) (by decide) rfl ?_
  refine V_iconst (pc := 4) (v := (-1)) dX8_by_4 (by decide) ?_
  refine V_icmpne (pc := 5) (tgt := 11) dX8_by_5 (by decide) (fun h5 => ?_) (fun h5 => ?_)
  · have hwb : aWb a = true := (by cases hq : aWb a; have e := m11.1; rw [hq] at e; exact absurd e h5; rfl); have hnb : 0 < aNb a := by rcases Nat.eq_zero_or_pos (aNb a) with q | q; have e := (hJ.1 q).2; rw [hwb] at e; exact absurd e (by decide); exact q
    refine V_iload_n (pc := 11) dX8_by_11 rfl rfl ?_
    refine V_iconst (pc := 12) (v := 0) dX8_by_12 (by decide) ?_
    refine V_aload_n (pc := 13) dX8_by_13 rfl rfl ?_
    refine V_getI (pc := 14) (ci := 8) (j := 16) dX8_by_14 fl_X8_141 (fun _ _ _ _ => rfl) (by decide) rfl ?_
    refine V_iconst (pc := 17) (v := 1) dX8_by_17 (by decide) ?_
    refine V_isub (pc := 18) dX8_by_18 ?_
    rw [m11.2.1, cI_n1]
    refine V_ins3 (pc := 19) dX8_by_19 ml_X8_88 (by first | decide | omega) (Nat.le_of_ble_eq_true rfl) (c_X8_within μ) ?_
    rintro _ μ2 ⟨rfl, hμ⟩
    obtain rfl := hμ.symm
    rw [inW_N (n := aWn a) (by rw [cI_int (by omega)]; omega)]
    refine V_ifne (pc := 22) (tgt := 28) dX8_by_22 (by decide) (fun h22 => ?_) (fun h22 => ?_)
    · have h22 := bI_ne h22
      have hx := h22
      obtain ⟨d, hd, rfl⟩ := inN_of (by omega) h22
      have ef : fBy a (nI d) = cI (byT (aTn a) (aOw a) (aWk a) (aWp a) (aWn a) d) := by unfold fBy; rw [hwb, hx, if_pos rfl, if_pos rfl, nn_nI (by omega)]
      rw [ef]
      clear ef
      refine V_iconst (pc := 28) (v := 0) dX8_by_28 (by decide) ?_
      refine V_istore2 (pc := 29) dX8_by_29 (by decide) rfl ?_
      refine V_bipush (pc := 30) (v := 6) dX8_by_30 (by decide) ?_
      refine V_istore3 (pc := 32) dX8_by_32 (by decide) rfl ?_
      refine V_iconst (pc := 33) (v := (-1)) dX8_by_33 (by decide) ?_
      refine V_istore4 (pc := 34) dX8_by_34 (by decide) rfl ?_
      have loopA : ∀ (nA k : Nat) (f m : Nat), k ≤ 7 → 7 < k + nA → ((f, m) = onT (aTn a) (aOw a) (aWk a) (aWp a) d k) → V l g RX8 cX8_by 5 (some .int) 3 36 [.ref 65, .int (nI d), .int (nI m), .int (cI f), .int (cI k)] [] μ (fun r μ' => r = some (.int (cI (byT (aTn a) (aOw a) (aWk a) (aWp a) (aWn a) d))) ∧ μ' = μ) := by
        intro nA
        induction nA with
        | zero => intro k f m h1 h2; exact absurd h2 (by omega)
        | succ nA ihA =>
          intro k f m hleA hfuA hc
          refine V_iload (pc := 36) dX8_by_36 rfl ?_
          refine V_bipush (pc := 38) (v := 6) dX8_by_38 (by decide) ?_
          refine V_icmpge (pc := 40) (tgt := 84) dX8_by_40 (by decide) (fun h40 => ?_) (fun h40 => ?_)
          · rw [geC (by omega)] at h40; obtain rfl : k = 7 := (by omega)
            have hol := onT_le (tn := aTn a) (ow := aOw a) (κ := aWk a) (pl := aWp a) (d := d) 7 (by omega)
            have hyl := wyT_lt (tn := aTn a) (ow := aOw a) (κ := aWk a) (pl := aWp a) o9
            have e1 : f = (onT (aTn a) (aOw a) (aWk a) (aWp a) d 7).1 := congrArg Prod.fst hc
            have e2 : m = (onT (aTn a) (aOw a) (aWk a) (aWp a) d 7).2 := congrArg Prod.snd hc
            refine V_iload_n (pc := 84) dX8_by_84 rfl rfl ?_
            refine V_iconst (pc := 85) (v := 1) dX8_by_85 (by decide) ?_
            refine V_icmpne (pc := 86) (tgt := 100) dX8_by_86 (by decide) (fun h86 => ?_) (fun h86 => ?_)
            · have h86 := mt (nI_eq (a := m) (b := 1) (by omega) (by decide)).mpr h86; have eb : byT (aTn a) (aOw a) (aWk a) (aWp a) (aWn a) d = 7 := (by unfold byT; split; rfl; rw [if_neg (by omega)])
              refine V_bipush (pc := 100) (v := 6) dX8_by_100 (by decide) ?_
              refine V_iret (pc := 102) dX8_by_102 rfl ?_
              rw [eb]
              exact ⟨rfl, rfl⟩
            have h86 := (nI_eq (a := m) (b := 1) (by omega) (by decide)).mp h86
            refine V_aload_n (pc := 89) dX8_by_89 rfl rfl ?_
            refine V_inv0 (pc := 90) (ci := 8) dX8_by_90 ml_X8_246 (by decide) rfl ⟨by decide, rfl⟩ (by first | decide | omega) (Nat.le_of_ble_eq_true rfl) (c_X8_calledNow μ hO hM hnb hwb) ?_
            rintro _ μ2 ⟨rfl, hμ⟩
            obtain rfl := hμ.symm
            refine V_ifle (pc := 93) (tgt := 100) dX8_by_93 (by decide) (fun h93 => ?_) (fun h93 => ?_)
            · have h93 := (nI_leI (a := wyT (aTn a) (aOw a) (aWk a) (aWp a) (aWn a)) (b := 0) hyl (by decide)).mp h93; have eb : byT (aTn a) (aOw a) (aWk a) (aWp a) (aWn a) d = 7 := if_pos (by omega)
              refine V_bipush (pc := 100) (v := 6) dX8_by_100 (by decide) ?_
              refine V_iret (pc := 102) dX8_by_102 rfl ?_
              rw [eb]
              exact ⟨rfl, rfl⟩
            have h93 := mt (nI_leI (a := wyT (aTn a) (aOw a) (aWk a) (aWp a) (aWn a)) (b := 0) hyl (by decide)).mpr h93; have eb : byT (aTn a) (aOw a) (aWk a) (aWp a) (aWn a) d = f := (by unfold byT; rw [if_neg (by omega), if_pos (by omega), e1])
            refine V_iload_n (pc := 96) dX8_by_96 rfl rfl ?_
            refine V_goto (pc := 97) (tgt := 102) dX8_by_97 (by decide) ?_
            refine V_iret (pc := 102) dX8_by_102 rfl ?_
            rw [eb]
            exact ⟨rfl, rfl⟩
          rw [geC (by omega)] at h40
          have hwl := wdT_le (tn := aTn a) (ow := aOw a) (κ := aWk a) (pl := aWp a) (d := d) (k := k)
          have hst : onT (aTn a) (aOw a) (aWk a) (aWp a) d (k + 1) = (let q := onT (aTn a) (aOw a) (aWk a) (aWp a) d k; if 0 < wdT (aTn a) (aOw a) (aWk a) (aWp a) d k then (k, q.2 + 1) else q) := rfl
          rw [← hc] at hst
          refine V_iload_n (pc := 43) dX8_by_43 rfl rfl ?_
          refine V_aload_n (pc := 44) dX8_by_44 rfl rfl ?_
          refine V_iload_n (pc := 45) dX8_by_45 rfl rfl ?_
          refine V_iload (pc := 46) dX8_by_46 rfl ?_
          refine V_inv2 (pc := 48) (ci := 8) dX8_by_48 ml_X8_243 (by decide) rfl ⟨by decide, rfl⟩ (by first | decide | omega) (Nat.le_of_ble_eq_true rfl) (c_X8_waysBy μ hO hM hnb hwb hd (show k ≤ 6 by omega)) ?_
          rintro _ μ2 ⟨rfl, hμ⟩
          obtain rfl := hμ.symm
          refine V_ifle (pc := 51) (tgt := 58) dX8_by_51 (by decide) (fun h51 => ?_) (fun h51 => ?_)
          · have h51 := (nI_leI (a := wdT (aTn a) (aOw a) (aWk a) (aWp a) d k) (b := 0) (by omega) (by decide)).mp h51
            refine V_iconst (pc := 58) (v := 0) dX8_by_58 (by decide) ?_
            refine V_iadd (pc := 59) dX8_by_59 ?_
            refine V_istore2 (pc := 60) dX8_by_60 (by decide) rfl ?_
            refine V_aload_n (pc := 61) dX8_by_61 rfl rfl ?_
            refine V_iload_n (pc := 62) dX8_by_62 rfl rfl ?_
            refine V_iload (pc := 63) dX8_by_63 rfl ?_
            refine V_inv2 (pc := 65) (ci := 8) dX8_by_65 ml_X8_243 (by decide) rfl ⟨by decide, rfl⟩ (by first | decide | omega) (Nat.le_of_ble_eq_true rfl) (c_X8_waysBy μ hO hM hnb hwb hd (show k ≤ 6 by omega)) ?_
            rintro _ μ2 ⟨rfl, hμ⟩
            obtain rfl := hμ.symm
            refine V_ifle (pc := 68) (tgt := 76) dX8_by_68 (by decide) (fun h68 => ?_) (fun h68 => ?_)
            · have h68 := (nI_leI (a := wdT (aTn a) (aOw a) (aWk a) (aWp a) d k) (b := 0) (by omega) (by decide)).mp h68
              refine V_iload_n (pc := 76) dX8_by_76 rfl rfl ?_
              refine V_istore3 (pc := 77) dX8_by_77 (by decide) rfl ?_
              refine V_iinc4 (pc := 78) (v := cI (k + 1)) dX8_by_78 (cI_add1 k) (by decide) rfl ?_
              refine V_goto (pc := 81) (tgt := 36) dX8_by_81 (by decide) ?_
              first
              | (exfalso; omega)
              | (have ez : nI m + 0 = nI m := nI_add m 0
                 rw [ez]
                 refine ihA (k + 1) f m (by omega) (by omega) ?_
                 rw [hst]; exact (if_neg (by omega : ¬ 0 < wdT (aTn a) (aOw a) (aWk a) (aWp a) d k)).symm)
              | (have ez : nI m + 1 = nI (m + 1) := nI_1 m
                 rw [ez]
                 refine ihA (k + 1) k (m + 1) (by omega) (by omega) ?_
                 rw [hst]; exact (if_pos (by omega : 0 < wdT (aTn a) (aOw a) (aWk a) (aWp a) d k)).symm)
            have h68 := mt (nI_leI (a := wdT (aTn a) (aOw a) (aWk a) (aWp a) d k) (b := 0) (by omega) (by decide)).mpr h68
            refine V_iload (pc := 71) dX8_by_71 rfl ?_
            refine V_goto (pc := 73) (tgt := 77) dX8_by_73 (by decide) ?_
            refine V_istore3 (pc := 77) dX8_by_77 (by decide) rfl ?_
            refine V_iinc4 (pc := 78) (v := cI (k + 1)) dX8_by_78 (cI_add1 k) (by decide) rfl ?_
            refine V_goto (pc := 81) (tgt := 36) dX8_by_81 (by decide) ?_
            first
            | (exfalso; omega)
            | (have ez : nI m + 0 = nI m := nI_add m 0
               rw [ez]
               refine ihA (k + 1) f m (by omega) (by omega) ?_
               rw [hst]; exact (if_neg (by omega : ¬ 0 < wdT (aTn a) (aOw a) (aWk a) (aWp a) d k)).symm)
            | (have ez : nI m + 1 = nI (m + 1) := nI_1 m
               rw [ez]
               refine ihA (k + 1) k (m + 1) (by omega) (by omega) ?_
               rw [hst]; exact (if_pos (by omega : 0 < wdT (aTn a) (aOw a) (aWk a) (aWp a) d k)).symm)
          have h51 := mt (nI_leI (a := wdT (aTn a) (aOw a) (aWk a) (aWp a) d k) (b := 0) (by omega) (by decide)).mpr h51
          refine V_iconst (pc := 54) (v := 1) dX8_by_54 (by decide) ?_
          refine V_goto (pc := 55) (tgt := 59) dX8_by_55 (by decide) ?_
          refine V_iadd (pc := 59) dX8_by_59 ?_
          refine V_istore2 (pc := 60) dX8_by_60 (by decide) rfl ?_
          refine V_aload_n (pc := 61) dX8_by_61 rfl rfl ?_
          refine V_iload_n (pc := 62) dX8_by_62 rfl rfl ?_
          refine V_iload (pc := 63) dX8_by_63 rfl ?_
          refine V_inv2 (pc := 65) (ci := 8) dX8_by_65 ml_X8_243 (by decide) rfl ⟨by decide, rfl⟩ (by first | decide | omega) (Nat.le_of_ble_eq_true rfl) (c_X8_waysBy μ hO hM hnb hwb hd (show k ≤ 6 by omega)) ?_
          rintro _ μ2 ⟨rfl, hμ⟩
          obtain rfl := hμ.symm
          refine V_ifle (pc := 68) (tgt := 76) dX8_by_68 (by decide) (fun h68 => ?_) (fun h68 => ?_)
          · have h68 := (nI_leI (a := wdT (aTn a) (aOw a) (aWk a) (aWp a) d k) (b := 0) (by omega) (by decide)).mp h68
            refine V_iload_n (pc := 76) dX8_by_76 rfl rfl ?_
            refine V_istore3 (pc := 77) dX8_by_77 (by decide) rfl ?_
            refine V_iinc4 (pc := 78) (v := cI (k + 1)) dX8_by_78 (cI_add1 k) (by decide) rfl ?_
            refine V_goto (pc := 81) (tgt := 36) dX8_by_81 (by decide) ?_
            first
            | (exfalso; omega)
            | (have ez : nI m + 0 = nI m := nI_add m 0
               rw [ez]
               refine ihA (k + 1) f m (by omega) (by omega) ?_
               rw [hst]; exact (if_neg (by omega : ¬ 0 < wdT (aTn a) (aOw a) (aWk a) (aWp a) d k)).symm)
            | (have ez : nI m + 1 = nI (m + 1) := nI_1 m
               rw [ez]
               refine ihA (k + 1) k (m + 1) (by omega) (by omega) ?_
               rw [hst]; exact (if_pos (by omega : 0 < wdT (aTn a) (aOw a) (aWk a) (aWp a) d k)).symm)
          have h68 := mt (nI_leI (a := wdT (aTn a) (aOw a) (aWk a) (aWp a) d k) (b := 0) (by omega) (by decide)).mpr h68
          refine V_iload (pc := 71) dX8_by_71 rfl ?_
          refine V_goto (pc := 73) (tgt := 77) dX8_by_73 (by decide) ?_
          refine V_istore3 (pc := 77) dX8_by_77 (by decide) rfl ?_
          refine V_iinc4 (pc := 78) (v := cI (k + 1)) dX8_by_78 (cI_add1 k) (by decide) rfl ?_
          refine V_goto (pc := 81) (tgt := 36) dX8_by_81 (by decide) ?_
          first
          | (exfalso; omega)
          | (have ez : nI m + 0 = nI m := nI_add m 0
             rw [ez]
             refine ihA (k + 1) f m (by omega) (by omega) ?_
             rw [hst]; exact (if_neg (by omega : ¬ 0 < wdT (aTn a) (aOw a) (aWk a) (aWp a) d k)).symm)
          | (have ez : nI m + 1 = nI (m + 1) := nI_1 m
             rw [ez]
             refine ihA (k + 1) k (m + 1) (by omega) (by omega) ?_
             rw [hst]; exact (if_pos (by omega : 0 < wdT (aTn a) (aOw a) (aWk a) (aWp a) d k)).symm)
      exact loopA (7 + 1) 0 7 0 (by omega) (by omega) rfl
    have h22 := bI_e h22
    refine V_bipush (pc := 25) (v := (-101)) dX8_by_25 (by decide) ?_
    refine V_iret (pc := 27) dX8_by_27 rfl ?_
    exact ⟨congrArg (fun z => some (Value.int z)) (by unfold fBy; rw [hwb, h22]; rfl), rfl⟩
  have hwb : aWb a = false := by cases hq : aWb a; rfl; have e := m11.1; rw [hq] at e; obtain ⟨z, z1, z2, z3⟩ := e; rw [z2] at h5; exact absurd h5 (nI_m1ne (by omega))
  refine V_bipush (pc := 8) (v := (-103)) dX8_by_8 (by decide) ?_
  refine V_iret (pc := 10) dX8_by_10 rfl ?_
  exact ⟨congrArg (fun z => some (Value.int z)) (by unfold fBy; rw [hwb]; rfl), rfl⟩
theorem dX8_howMany_0 : decode cX8_howMany 0 = .ok (.iload_n 1, 1) := by decide +kernel
theorem dX8_howMany_1 : decode cX8_howMany 1 = .ok (.tableswitch 99 0 8 #[51, 56, 61, 66, 74, 79, 84, 89, 94], 51) := by decide +kernel
theorem dX8_howMany_52 : decode cX8_howMany 52 = .ok (.aload_n 0, 1) := by decide +kernel
theorem dX8_howMany_53 : decode cX8_howMany 53 = .ok (.getfield 120, 3) := by decide +kernel
theorem dX8_howMany_56 : decode cX8_howMany 56 = .ok (.ireturn, 1) := by decide +kernel
theorem dX8_howMany_57 : decode cX8_howMany 57 = .ok (.aload_n 0, 1) := by decide +kernel
theorem dX8_howMany_58 : decode cX8_howMany 58 = .ok (.getfield 129, 3) := by decide +kernel
theorem dX8_howMany_61 : decode cX8_howMany 61 = .ok (.ireturn, 1) := by decide +kernel
theorem dX8_howMany_62 : decode cX8_howMany 62 = .ok (.aload_n 0, 1) := by decide +kernel
theorem dX8_howMany_63 : decode cX8_howMany 63 = .ok (.invokevirtual 170, 3) := by decide +kernel
theorem dX8_howMany_66 : decode cX8_howMany 66 = .ok (.ireturn, 1) := by decide +kernel
theorem dX8_howMany_67 : decode cX8_howMany 67 = .ok (.aload_n 0, 1) := by decide +kernel
theorem dX8_howMany_68 : decode cX8_howMany 68 = .ok (.getfield 132, 3) := by decide +kernel
theorem dX8_howMany_71 : decode cX8_howMany 71 = .ok (.invokestatic 174, 3) := by decide +kernel
theorem dX8_howMany_74 : decode cX8_howMany 74 = .ok (.ireturn, 1) := by decide +kernel
theorem dX8_howMany_75 : decode cX8_howMany 75 = .ok (.aload_n 0, 1) := by decide +kernel
theorem dX8_howMany_76 : decode cX8_howMany 76 = .ok (.getfield 135, 3) := by decide +kernel
theorem dX8_howMany_79 : decode cX8_howMany 79 = .ok (.ireturn, 1) := by decide +kernel
theorem dX8_howMany_80 : decode cX8_howMany 80 = .ok (.aload_n 0, 1) := by decide +kernel
theorem dX8_howMany_81 : decode cX8_howMany 81 = .ok (.getfield 138, 3) := by decide +kernel
theorem dX8_howMany_84 : decode cX8_howMany 84 = .ok (.ireturn, 1) := by decide +kernel
theorem dX8_howMany_85 : decode cX8_howMany 85 = .ok (.aload_n 0, 1) := by decide +kernel
theorem dX8_howMany_86 : decode cX8_howMany 86 = .ok (.getfield 141, 3) := by decide +kernel
theorem dX8_howMany_89 : decode cX8_howMany 89 = .ok (.ireturn, 1) := by decide +kernel
theorem dX8_howMany_90 : decode cX8_howMany 90 = .ok (.aload_n 0, 1) := by decide +kernel
theorem dX8_howMany_91 : decode cX8_howMany 91 = .ok (.getfield 85, 3) := by decide +kernel
theorem dX8_howMany_94 : decode cX8_howMany 94 = .ok (.ireturn, 1) := by decide +kernel
theorem dX8_howMany_95 : decode cX8_howMany 95 = .ok (.aload_n 0, 1) := by decide +kernel
theorem dX8_howMany_96 : decode cX8_howMany 96 = .ok (.getfield 126, 3) := by decide +kernel
theorem dX8_howMany_99 : decode cX8_howMany 99 = .ok (.ireturn, 1) := by decide +kernel
theorem dX8_howMany_100 : decode cX8_howMany 100 = .ok (.bipush (-102), 2) := by decide +kernel
theorem dX8_howMany_102 : decode cX8_howMany 102 = .ok (.ireturn, 1) := by decide +kernel
set_option maxHeartbeats 4000000 in
set_option maxRecDepth 100000 in
theorem c_X8_howMany {l : Launch} {g : GW} {a : AT} {x : Int32} (μ : Mm) (hO : AOK a) (hM : RM μ a)  : Con l g yX8_howMany cX8_howMany 2 (some .int) 1 [.ref 65, .int x] μ (fun r μ' => r = some (.int (fCount a x)) ∧ μ' = μ) := by
  obtain ⟨m1, m2, m3, m4, m5, m6, m7, m8, m9, m10, m11, m12, m13⟩ := id hM
  obtain ⟨o1, o2, o3, o4, o5, ⟨s1, s2, s3, s4⟩, oK, o8, o9, o10⟩ := id hO
  refine Con.of [.ref 65, .int x] 0 (by decide +kernel) (Nat.le_of_ble_eq_true rfl) rfl ?_
  refine V_iload_n (pc := 0) dX8_howMany_0 rfl rfl ?_
  cases hx : inN x 9 with
  | false =>
    have ho : x.toInt < 0 ∨ 8 < x.toInt := by
      have h2 := of_decide_eq_false hx
      omega
    refine V_tsOut (pc := 1) (tgt := 100) dX8_howMany_1 ho (by decide) ?_
    refine V_bipush (pc := 100) (v := (-102)) dX8_howMany_100 (by decide) ?_
    refine V_iret (pc := 102) dX8_howMany_102 rfl ?_
    exact ⟨by simp [fCount, hx], rfl⟩
  | true =>
    obtain ⟨i, hi, rfl⟩ := inN_of (by decide) hx
    have e9 : fCount a (nI i) = (if i = 0 then nI (nmT (aOw a) 6) else if i = 1 then nI (sN (aS a)) else if i = 2 then nI (homeT (sP (aS a)) (sN (aS a))) else if i = 3 then nI (cntB (sS (aS a))) else if i = 4 then sD (aS a) else if i = 5 then nI (sA (aS a)) else if i = 6 then nI (aWn a) else if i = 7 then nI (aPn a) else nI (aNb a)) := by
      simp only [fCount, hx, if_true, nn_nI (j := i) (by omega)]
    rw [e9]
    clear e9 hx
    have hsel : i = 0 ∨ i = 1 ∨ i = 2 ∨ i = 3 ∨ i = 4 ∨ i = 5 ∨ i = 6 ∨ i = 7 ∨ i = 8 := by omega
    rcases hsel with hs1 | hs1 | hs1 | hs1 | hs1 | hs1 | hs1 | hs1 | hs1
    · subst hs1
      refine V_tsIn (pc := 1) (off := 51) (tgt := 52) dX8_howMany_1 (by decide) (by decide) (by decide) (by decide) ?_
      refine V_aload_n (pc := 52) dX8_howMany_52 rfl rfl ?_
      refine V_getI (pc := 53) (ci := 8) (j := 2) dX8_howMany_53 fl_X8_120 (fun _ _ _ _ => rfl) (by decide) rfl ?_
      refine V_iret (pc := 56) dX8_howMany_56 rfl ?_
      exact ⟨congrArg (fun z => some (Value.int z)) (m3), rfl⟩
    · subst hs1
      refine V_tsIn (pc := 1) (off := 56) (tgt := 57) dX8_howMany_1 (by decide) (by decide) (by decide) (by decide) ?_
      refine V_aload_n (pc := 57) dX8_howMany_57 rfl rfl ?_
      refine V_getI (pc := 58) (ci := 8) (j := 5) dX8_howMany_58 fl_X8_129 (fun _ _ _ _ => rfl) (by decide) rfl ?_
      refine V_iret (pc := 61) dX8_howMany_61 rfl ?_
      exact ⟨congrArg (fun z => some (Value.int z)) (m5), rfl⟩
    · subst hs1
      refine V_tsIn (pc := 1) (off := 61) (tgt := 62) dX8_howMany_1 (by decide) (by decide) (by decide) (by decide) ?_
      refine V_aload_n (pc := 62) dX8_howMany_62 rfl rfl ?_
      refine V_inv0 (pc := 63) (ci := 8) dX8_howMany_63 ml_X8_170 (by decide) rfl ⟨by decide, rfl⟩ (by first | decide | omega) (Nat.le_of_ble_eq_true rfl) (c_X8_homeMany μ hO hM) ?_
      rintro _ μ2 ⟨rfl, hμ⟩
      obtain rfl := hμ.symm
      refine V_iret (pc := 66) dX8_howMany_66 rfl ?_
      exact ⟨congrArg (fun z => some (Value.int z)) (rfl), rfl⟩
    · subst hs1
      refine V_tsIn (pc := 1) (off := 66) (tgt := 67) dX8_howMany_1 (by decide) (by decide) (by decide) (by decide) ?_
      refine V_aload_n (pc := 67) dX8_howMany_67 rfl rfl ?_
      refine V_getI (pc := 68) (ci := 8) (j := 11) dX8_howMany_68 fl_X8_132 (fun _ _ _ _ => rfl) (by decide) rfl ?_
      rw [m7]
      refine V_ins1 (pc := 71) dX8_howMany_71 ml_X8_174 (by first | decide | omega) (Nat.le_of_ble_eq_true rfl) (c_X8_size μ s2) ?_
      rintro _ μ2 ⟨rfl, hμ⟩
      obtain rfl := hμ.symm
      refine V_iret (pc := 74) dX8_howMany_74 rfl ?_
      exact ⟨congrArg (fun z => some (Value.int z)) (rfl), rfl⟩
    · subst hs1
      refine V_tsIn (pc := 1) (off := 74) (tgt := 75) dX8_howMany_1 (by decide) (by decide) (by decide) (by decide) ?_
      refine V_aload_n (pc := 75) dX8_howMany_75 rfl rfl ?_
      refine V_getI (pc := 76) (ci := 8) (j := 12) dX8_howMany_76 fl_X8_135 (fun _ _ _ _ => rfl) (by decide) rfl ?_
      refine V_iret (pc := 79) dX8_howMany_79 rfl ?_
      exact ⟨congrArg (fun z => some (Value.int z)) (m8), rfl⟩
    · subst hs1
      refine V_tsIn (pc := 1) (off := 79) (tgt := 80) dX8_howMany_1 (by decide) (by decide) (by decide) (by decide) ?_
      refine V_aload_n (pc := 80) dX8_howMany_80 rfl rfl ?_
      refine V_getI (pc := 81) (ci := 8) (j := 13) dX8_howMany_81 fl_X8_138 (fun _ _ _ _ => rfl) (by decide) rfl ?_
      refine V_iret (pc := 84) dX8_howMany_84 rfl ?_
      exact ⟨congrArg (fun z => some (Value.int z)) (m9), rfl⟩
    · subst hs1
      refine V_tsIn (pc := 1) (off := 84) (tgt := 85) dX8_howMany_1 (by decide) (by decide) (by decide) (by decide) ?_
      refine V_aload_n (pc := 85) dX8_howMany_85 rfl rfl ?_
      refine V_getI (pc := 86) (ci := 8) (j := 16) dX8_howMany_86 fl_X8_141 (fun _ _ _ _ => rfl) (by decide) rfl ?_
      refine V_iret (pc := 89) dX8_howMany_89 rfl ?_
      exact ⟨congrArg (fun z => some (Value.int z)) (m11.2.1), rfl⟩
    · subst hs1
      refine V_tsIn (pc := 1) (off := 89) (tgt := 90) dX8_howMany_1 (by decide) (by decide) (by decide) (by decide) ?_
      refine V_aload_n (pc := 90) dX8_howMany_90 rfl rfl ?_
      refine V_getI (pc := 91) (ci := 8) (j := 18) dX8_howMany_91 fl_X8_85 (fun _ _ _ _ => rfl) (by decide) rfl ?_
      refine V_iret (pc := 94) dX8_howMany_94 rfl ?_
      exact ⟨congrArg (fun z => some (Value.int z)) (m12.1), rfl⟩
    · subst hs1
      refine V_tsIn (pc := 1) (off := 94) (tgt := 95) dX8_howMany_1 (by decide) (by decide) (by decide) (by decide) ?_
      refine V_aload_n (pc := 95) dX8_howMany_95 rfl rfl ?_
      refine V_getI (pc := 96) (ci := 8) (j := 1) dX8_howMany_96 fl_X8_126 (fun _ _ _ _ => rfl) (by decide) rfl ?_
      refine V_iret (pc := 99) dX8_howMany_99 rfl ?_
      exact ⟨congrArg (fun z => some (Value.int z)) (m2), rfl⟩
theorem dX8_count_0 : decode cX8_count 0 = .ok (.aload_n 0, 1) := by decide +kernel
theorem dX8_count_1 : decode cX8_count 1 = .ok (.iload_n 1, 1) := by decide +kernel
theorem dX8_count_2 : decode cX8_count 2 = .ok (.invokevirtual 291, 3) := by decide +kernel
theorem dX8_count_5 : decode cX8_count 5 = .ok (.ireturn, 1) := by decide +kernel
set_option maxHeartbeats 4000000 in
set_option maxRecDepth 100000 in
theorem c_X8_count {l : Launch} {g : GW} {a : AT} {x : Int32} (μ : Mm) (hO : AOK a) (hM : RM μ a)  : Con l g yX8_count cX8_count 2 (some .int) 2 [.ref 65, .int x] μ (fun r μ' => r = some (.int (fCount a x)) ∧ μ' = μ) := by
  obtain ⟨m1, m2, m3, m4, m5, m6, m7, m8, m9, m10, m11, m12, m13⟩ := id hM
  obtain ⟨o1, o2, o3, o4, o5, ⟨s1, s2, s3, s4⟩, oK, o8, o9, o10⟩ := id hO
  refine Con.of [.ref 65, .int x] 0 (by decide +kernel) (Nat.le_of_ble_eq_true rfl) rfl ?_
  refine V_aload_n (pc := 0) dX8_count_0 rfl rfl ?_
  refine V_iload_n (pc := 1) dX8_count_1 rfl rfl ?_
  refine V_inv1 (pc := 2) (ci := 8) dX8_count_2 ml_X8_291 (by decide) rfl ⟨by decide, rfl⟩ (by first | decide | omega) (Nat.le_of_ble_eq_true rfl) (c_X8_howMany μ hO hM) ?_
  rintro _ μ2 ⟨rfl, hμ⟩
  obtain rfl := hμ.symm
  refine V_iret (pc := 5) dX8_count_5 rfl ?_
  exact ⟨rfl, rfl⟩
theorem dX8_mix_0 : decode cX8_mix 0 = .ok (.aload_n 0, 1) := by decide +kernel
theorem dX8_mix_1 : decode cX8_mix 1 = .ok (.ldc2_w 294, 3) := by decide +kernel
theorem dX8_mix_4 : decode cX8_mix 4 = .ok (.aload_n 0, 1) := by decide +kernel
theorem dX8_mix_5 : decode cX8_mix 5 = .ok (.getfield 296, 3) := by decide +kernel
theorem dX8_mix_8 : decode cX8_mix 8 = .ok (.lmul, 1) := by decide +kernel
theorem dX8_mix_9 : decode cX8_mix 9 = .ok (.lload_n 1, 1) := by decide +kernel
theorem dX8_mix_10 : decode cX8_mix 10 = .ok (.ladd, 1) := by decide +kernel
theorem dX8_mix_11 : decode cX8_mix 11 = .ok (.putfield 296, 3) := by decide +kernel
theorem dX8_mix_14 : decode cX8_mix 14 = .ok (.return_, 1) := by decide +kernel
set_option maxHeartbeats 4000000 in
set_option maxRecDepth 100000 in
theorem c_X8_mix {l : Launch} {g : GW} {v : Int64} (μ : Mm)  : Con l g yX8_mix cX8_mix 3 none 0 [.ref 65, .long v] μ (fun r μ' => r = none ∧ μ' = setL μ 65 43 (mx (μ.2.1 65 43) v)) := by
  refine Con.of [.ref 65, .long v, .null] 0 (by decide +kernel) (Nat.le_of_ble_eq_true rfl) rfl ?_
  refine V_aload_n (pc := 0) dX8_mix_0 rfl rfl ?_
  refine V_ldc2 (pc := 1) (v := 31) ct_X8_294 dX8_mix_1 ?_
  refine V_aload_n (pc := 4) dX8_mix_4 rfl rfl ?_
  refine V_getL (pc := 5) (ci := 8) (j := 43) dX8_mix_5 fl_X8_296 (fun _ _ _ _ => rfl) (by decide) rfl ?_
  refine V_lmul (pc := 8) dX8_mix_8 ?_
  refine V_lload_n (pc := 9) dX8_mix_9 rfl rfl ?_
  refine V_ladd (pc := 10) dX8_mix_10 ?_
  refine V_putL (pc := 11) (ci := 8) (j := 43) dX8_mix_11 fl_X8_296 (fun _ _ _ _ _ => rfl) rfl rfl (by decide) rfl ?_
  refine V_vret (pc := 14) dX8_mix_14 rfl ?_
  exact ⟨rfl, rfl⟩
theorem dX8_digest_0 : decode cX8_digest 0 = .ok (.aload_n 0, 1) := by decide +kernel
theorem dX8_digest_1 : decode cX8_digest 1 = .ok (.ldc2_w 299, 3) := by decide +kernel
theorem dX8_digest_4 : decode cX8_digest 4 = .ok (.putfield 296, 3) := by decide +kernel
theorem dX8_digest_7 : decode cX8_digest 7 = .ok (.aload_n 0, 1) := by decide +kernel
theorem dX8_digest_8 : decode cX8_digest 8 = .ok (.getfield 123, 3) := by decide +kernel
theorem dX8_digest_11 : decode cX8_digest 11 = .ok (.ifCond .eq 62, 3) := by decide +kernel
theorem dX8_digest_14 : decode cX8_digest 14 = .ok (.iconst 0, 1) := by decide +kernel
theorem dX8_digest_15 : decode cX8_digest 15 = .ok (.istore_n 1, 1) := by decide +kernel
theorem dX8_digest_16 : decode cX8_digest 16 = .ok (.iload_n 1, 1) := by decide +kernel
theorem dX8_digest_17 : decode cX8_digest 17 = .ok (.bipush 15, 2) := by decide +kernel
theorem dX8_digest_19 : decode cX8_digest 19 = .ok (.if_icmp .ge 20, 3) := by decide +kernel
theorem dX8_digest_22 : decode cX8_digest 22 = .ok (.aload_n 0, 1) := by decide +kernel
theorem dX8_digest_23 : decode cX8_digest 23 = .ok (.aload_n 0, 1) := by decide +kernel
theorem dX8_digest_24 : decode cX8_digest 24 = .ok (.getfield 7, 3) := by decide +kernel
theorem dX8_digest_27 : decode cX8_digest 27 = .ok (.iload_n 1, 1) := by decide +kernel
theorem dX8_digest_28 : decode cX8_digest 28 = .ok (.iaload, 1) := by decide +kernel
theorem dX8_digest_29 : decode cX8_digest 29 = .ok (.i2l, 1) := by decide +kernel
theorem dX8_digest_30 : decode cX8_digest 30 = .ok (.invokevirtual 301, 3) := by decide +kernel
theorem dX8_digest_33 : decode cX8_digest 33 = .ok (.iinc 1 1, 3) := by decide +kernel
theorem dX8_digest_36 : decode cX8_digest 36 = .ok (.goto (-20), 3) := by decide +kernel
theorem dX8_digest_39 : decode cX8_digest 39 = .ok (.iconst 0, 1) := by decide +kernel
theorem dX8_digest_40 : decode cX8_digest 40 = .ok (.istore_n 1, 1) := by decide +kernel
theorem dX8_digest_41 : decode cX8_digest 41 = .ok (.iload_n 1, 1) := by decide +kernel
theorem dX8_digest_42 : decode cX8_digest 42 = .ok (.bipush 6, 2) := by decide +kernel
theorem dX8_digest_44 : decode cX8_digest 44 = .ok (.if_icmp .ge 20, 3) := by decide +kernel
theorem dX8_digest_47 : decode cX8_digest 47 = .ok (.aload_n 0, 1) := by decide +kernel
theorem dX8_digest_48 : decode cX8_digest 48 = .ok (.aload_n 0, 1) := by decide +kernel
theorem dX8_digest_49 : decode cX8_digest 49 = .ok (.getfield 13, 3) := by decide +kernel
theorem dX8_digest_52 : decode cX8_digest 52 = .ok (.iload_n 1, 1) := by decide +kernel
theorem dX8_digest_53 : decode cX8_digest 53 = .ok (.iaload, 1) := by decide +kernel
theorem dX8_digest_54 : decode cX8_digest 54 = .ok (.i2l, 1) := by decide +kernel
theorem dX8_digest_55 : decode cX8_digest 55 = .ok (.invokevirtual 301, 3) := by decide +kernel
theorem dX8_digest_58 : decode cX8_digest 58 = .ok (.iinc 1 1, 3) := by decide +kernel
theorem dX8_digest_61 : decode cX8_digest 61 = .ok (.goto (-20), 3) := by decide +kernel
theorem dX8_digest_64 : decode cX8_digest 64 = .ok (.aload_n 0, 1) := by decide +kernel
theorem dX8_digest_65 : decode cX8_digest 65 = .ok (.aload_n 0, 1) := by decide +kernel
theorem dX8_digest_66 : decode cX8_digest 66 = .ok (.invokevirtual 231, 3) := by decide +kernel
theorem dX8_digest_69 : decode cX8_digest 69 = .ok (.i2l, 1) := by decide +kernel
theorem dX8_digest_70 : decode cX8_digest 70 = .ok (.invokevirtual 301, 3) := by decide +kernel
theorem dX8_digest_73 : decode cX8_digest 73 = .ok (.iconst 0, 1) := by decide +kernel
theorem dX8_digest_74 : decode cX8_digest 74 = .ok (.istore_n 1, 1) := by decide +kernel
theorem dX8_digest_75 : decode cX8_digest 75 = .ok (.iload_n 1, 1) := by decide +kernel
theorem dX8_digest_76 : decode cX8_digest 76 = .ok (.bipush 6, 2) := by decide +kernel
theorem dX8_digest_78 : decode cX8_digest 78 = .ok (.if_icmp .ge 32, 3) := by decide +kernel
theorem dX8_digest_81 : decode cX8_digest 81 = .ok (.aload_n 0, 1) := by decide +kernel
theorem dX8_digest_82 : decode cX8_digest 82 = .ok (.aload_n 0, 1) := by decide +kernel
theorem dX8_digest_83 : decode cX8_digest 83 = .ok (.getfield 132, 3) := by decide +kernel
theorem dX8_digest_86 : decode cX8_digest 86 = .ok (.iload_n 1, 1) := by decide +kernel
theorem dX8_digest_87 : decode cX8_digest 87 = .ok (.ishr, 1) := by decide +kernel
theorem dX8_digest_88 : decode cX8_digest 88 = .ok (.iconst 1, 1) := by decide +kernel
theorem dX8_digest_89 : decode cX8_digest 89 = .ok (.iand, 1) := by decide +kernel
theorem dX8_digest_90 : decode cX8_digest 90 = .ok (.i2l, 1) := by decide +kernel
theorem dX8_digest_91 : decode cX8_digest 91 = .ok (.invokevirtual 301, 3) := by decide +kernel
theorem dX8_digest_94 : decode cX8_digest 94 = .ok (.aload_n 0, 1) := by decide +kernel
theorem dX8_digest_95 : decode cX8_digest 95 = .ok (.aload_n 0, 1) := by decide +kernel
theorem dX8_digest_96 : decode cX8_digest 96 = .ok (.iload_n 1, 1) := by decide +kernel
theorem dX8_digest_97 : decode cX8_digest 97 = .ok (.invokevirtual 237, 3) := by decide +kernel
theorem dX8_digest_100 : decode cX8_digest 100 = .ok (.i2l, 1) := by decide +kernel
theorem dX8_digest_101 : decode cX8_digest 101 = .ok (.invokevirtual 301, 3) := by decide +kernel
theorem dX8_digest_104 : decode cX8_digest 104 = .ok (.iinc 1 1, 3) := by decide +kernel
theorem dX8_digest_107 : decode cX8_digest 107 = .ok (.goto (-32), 3) := by decide +kernel
theorem dX8_digest_110 : decode cX8_digest 110 = .ok (.iconst 0, 1) := by decide +kernel
theorem dX8_digest_111 : decode cX8_digest 111 = .ok (.istore_n 1, 1) := by decide +kernel
theorem dX8_digest_112 : decode cX8_digest 112 = .ok (.iload_n 1, 1) := by decide +kernel
theorem dX8_digest_113 : decode cX8_digest 113 = .ok (.aload_n 0, 1) := by decide +kernel
theorem dX8_digest_114 : decode cX8_digest 114 = .ok (.getfield 129, 3) := by decide +kernel
theorem dX8_digest_117 : decode cX8_digest 117 = .ok (.if_icmp .ge 55, 3) := by decide +kernel
theorem dX8_digest_120 : decode cX8_digest 120 = .ok (.iconst 0, 1) := by decide +kernel
theorem dX8_digest_121 : decode cX8_digest 121 = .ok (.istore_n 2, 1) := by decide +kernel
theorem dX8_digest_122 : decode cX8_digest 122 = .ok (.iload_n 2, 1) := by decide +kernel
theorem dX8_digest_123 : decode cX8_digest 123 = .ok (.iconst 5, 1) := by decide +kernel
theorem dX8_digest_124 : decode cX8_digest 124 = .ok (.if_icmp .ge 20, 3) := by decide +kernel
theorem dX8_digest_127 : decode cX8_digest 127 = .ok (.aload_n 0, 1) := by decide +kernel
theorem dX8_digest_128 : decode cX8_digest 128 = .ok (.aload_n 0, 1) := by decide +kernel
theorem dX8_digest_129 : decode cX8_digest 129 = .ok (.iload_n 1, 1) := by decide +kernel
theorem dX8_digest_130 : decode cX8_digest 130 = .ok (.iload_n 2, 1) := by decide +kernel
theorem dX8_digest_131 : decode cX8_digest 131 = .ok (.invokevirtual 153, 3) := by decide +kernel
theorem dX8_digest_134 : decode cX8_digest 134 = .ok (.i2l, 1) := by decide +kernel
theorem dX8_digest_135 : decode cX8_digest 135 = .ok (.invokevirtual 301, 3) := by decide +kernel
theorem dX8_digest_138 : decode cX8_digest 138 = .ok (.iinc 2 1, 3) := by decide +kernel
theorem dX8_digest_141 : decode cX8_digest 141 = .ok (.goto (-19), 3) := by decide +kernel
theorem dX8_digest_144 : decode cX8_digest 144 = .ok (.aload_n 0, 1) := by decide +kernel
theorem dX8_digest_145 : decode cX8_digest 145 = .ok (.aload_n 0, 1) := by decide +kernel
theorem dX8_digest_146 : decode cX8_digest 146 = .ok (.iload_n 1, 1) := by decide +kernel
theorem dX8_digest_147 : decode cX8_digest 147 = .ok (.iconst 2, 1) := by decide +kernel
theorem dX8_digest_148 : decode cX8_digest 148 = .ok (.iconst 0, 1) := by decide +kernel
theorem dX8_digest_149 : decode cX8_digest 149 = .ok (.invokevirtual 214, 3) := by decide +kernel
theorem dX8_digest_152 : decode cX8_digest 152 = .ok (.invokevirtual 301, 3) := by decide +kernel
theorem dX8_digest_155 : decode cX8_digest 155 = .ok (.aload_n 0, 1) := by decide +kernel
theorem dX8_digest_156 : decode cX8_digest 156 = .ok (.aload_n 0, 1) := by decide +kernel
theorem dX8_digest_157 : decode cX8_digest 157 = .ok (.iload_n 1, 1) := by decide +kernel
theorem dX8_digest_158 : decode cX8_digest 158 = .ok (.iconst 2, 1) := by decide +kernel
theorem dX8_digest_159 : decode cX8_digest 159 = .ok (.iconst 1, 1) := by decide +kernel
theorem dX8_digest_160 : decode cX8_digest 160 = .ok (.invokevirtual 214, 3) := by decide +kernel
theorem dX8_digest_163 : decode cX8_digest 163 = .ok (.invokevirtual 301, 3) := by decide +kernel
theorem dX8_digest_166 : decode cX8_digest 166 = .ok (.iinc 1 1, 3) := by decide +kernel
theorem dX8_digest_169 : decode cX8_digest 169 = .ok (.goto (-57), 3) := by decide +kernel
theorem dX8_digest_172 : decode cX8_digest 172 = .ok (.aload_n 0, 1) := by decide +kernel
theorem dX8_digest_173 : decode cX8_digest 173 = .ok (.getfield 34, 3) := by decide +kernel
theorem dX8_digest_176 : decode cX8_digest 176 = .ok (.iconst (-1), 1) := by decide +kernel
theorem dX8_digest_177 : decode cX8_digest 177 = .ok (.if_icmp .eq 12, 3) := by decide +kernel
theorem dX8_digest_180 : decode cX8_digest 180 = .ok (.aload_n 0, 1) := by decide +kernel
theorem dX8_digest_181 : decode cX8_digest 181 = .ok (.aload_n 0, 1) := by decide +kernel
theorem dX8_digest_182 : decode cX8_digest 182 = .ok (.invokevirtual 246, 3) := by decide +kernel
theorem dX8_digest_185 : decode cX8_digest 185 = .ok (.i2l, 1) := by decide +kernel
theorem dX8_digest_186 : decode cX8_digest 186 = .ok (.invokevirtual 301, 3) := by decide +kernel
theorem dX8_digest_189 : decode cX8_digest 189 = .ok (.iconst 0, 1) := by decide +kernel
theorem dX8_digest_190 : decode cX8_digest 190 = .ok (.istore_n 1, 1) := by decide +kernel
theorem dX8_digest_191 : decode cX8_digest 191 = .ok (.iload_n 1, 1) := by decide +kernel
theorem dX8_digest_192 : decode cX8_digest 192 = .ok (.aload_n 0, 1) := by decide +kernel
theorem dX8_digest_193 : decode cX8_digest 193 = .ok (.getfield 85, 3) := by decide +kernel
theorem dX8_digest_196 : decode cX8_digest 196 = .ok (.if_icmp .ge 20, 3) := by decide +kernel
theorem dX8_digest_199 : decode cX8_digest 199 = .ok (.aload_n 0, 1) := by decide +kernel
theorem dX8_digest_200 : decode cX8_digest 200 = .ok (.aload_n 0, 1) := by decide +kernel
theorem dX8_digest_201 : decode cX8_digest 201 = .ok (.getfield 41, 3) := by decide +kernel
theorem dX8_digest_204 : decode cX8_digest 204 = .ok (.iload_n 1, 1) := by decide +kernel
theorem dX8_digest_205 : decode cX8_digest 205 = .ok (.baload, 1) := by decide +kernel
theorem dX8_digest_206 : decode cX8_digest 206 = .ok (.i2l, 1) := by decide +kernel
theorem dX8_digest_207 : decode cX8_digest 207 = .ok (.invokevirtual 301, 3) := by decide +kernel
theorem dX8_digest_210 : decode cX8_digest 210 = .ok (.iinc 1 1, 3) := by decide +kernel
theorem dX8_digest_213 : decode cX8_digest 213 = .ok (.goto (-22), 3) := by decide +kernel
theorem dX8_digest_216 : decode cX8_digest 216 = .ok (.iconst 0, 1) := by decide +kernel
theorem dX8_digest_217 : decode cX8_digest 217 = .ok (.istore_n 1, 1) := by decide +kernel
theorem dX8_digest_218 : decode cX8_digest 218 = .ok (.iload_n 1, 1) := by decide +kernel
theorem dX8_digest_219 : decode cX8_digest 219 = .ok (.bipush 9, 2) := by decide +kernel
theorem dX8_digest_221 : decode cX8_digest 221 = .ok (.if_icmp .ge 19, 3) := by decide +kernel
theorem dX8_digest_224 : decode cX8_digest 224 = .ok (.aload_n 0, 1) := by decide +kernel
theorem dX8_digest_225 : decode cX8_digest 225 = .ok (.aload_n 0, 1) := by decide +kernel
theorem dX8_digest_226 : decode cX8_digest 226 = .ok (.iload_n 1, 1) := by decide +kernel
theorem dX8_digest_227 : decode cX8_digest 227 = .ok (.invokevirtual 291, 3) := by decide +kernel
theorem dX8_digest_230 : decode cX8_digest 230 = .ok (.i2l, 1) := by decide +kernel
theorem dX8_digest_231 : decode cX8_digest 231 = .ok (.invokevirtual 301, 3) := by decide +kernel
theorem dX8_digest_234 : decode cX8_digest 234 = .ok (.iinc 1 1, 3) := by decide +kernel
theorem dX8_digest_237 : decode cX8_digest 237 = .ok (.goto (-19), 3) := by decide +kernel
theorem dX8_digest_240 : decode cX8_digest 240 = .ok (.aload_n 0, 1) := by decide +kernel
theorem dX8_digest_241 : decode cX8_digest 241 = .ok (.getfield 296, 3) := by decide +kernel
theorem dX8_digest_244 : decode cX8_digest 244 = .ok (.lreturn, 1) := by decide +kernel
set_option maxHeartbeats 4000000 in
set_option maxRecDepth 100000 in
theorem c_X8_digest {l : Launch} {g : GW} {a : AT}  (μ : Mm) (hO : AOK a) (hM : RM μ a) (hJ : AJ a) : Con l g yX8_digest cX8_digest 3 (some .long) 6 [.ref 65] μ (fun r μ' => r = some (.long (fDigest a)) ∧ RM μ' a ∧ FrX μ μ') := by
  obtain ⟨m1, m2, m3, m4, m5, m6, m7, m8, m9, m10, m11, m12, m13⟩ := id hM
  obtain ⟨o1, o2, o3, o4, o5, ⟨s1, s2, s3, s4⟩, oK, o8, o9, o10⟩ := id hO
  refine Con.of [.ref 65, .null, .null] 2 (by decide +kernel) (Nat.le_of_ble_eq_true rfl) rfl ?_
  have J189 : ∀ (μ1 : Mm) (y1 y2 : Value), FrD μ μ1 → μ1.2.1 65 43 = (if aWb a then mx (dSs a (dNm a (if 0 < aNb a then dBk a 661 else 661) 6) (sN (aS a))) (fCalled a).toInt64 else (dSs a (dNm a (if 0 < aNb a then dBk a 661 else 661) 6) (sN (aS a)))) → V l g RX8 cX8_digest 3 (some .long) 6 189 [.ref 65, y1, y2] [] μ1 (fun r μ' => r = some (.long (fDigest a)) ∧ RM μ' a ∧ FrX μ μ') := by
    intro μ1 y1 y2 hF hh
    refine V_iconst (pc := 189) (v := 0) dX8_digest_189 (by decide) ?_
    refine V_istore1 (pc := 190) dX8_digest_190 (by decide) rfl ?_
    have loopF : ∀ (nF j : Nat) (μ2 : Mm), j ≤ aPn a → aPn a < j + nF → (FrD μ μ2) → (μ2.2.1 65 43 = mxF (fun i => (nI (aPc a i)).toInt64) (if aWb a then mx (dSs a (dNm a (if 0 < aNb a then dBk a 661 else 661) 6) (sN (aS a))) (fCalled a).toInt64 else (dSs a (dNm a (if 0 < aNb a then dBk a 661 else 661) 6) (sN (aS a)))) j) → V l g RX8 cX8_digest 3 (some .long) 6 191 [.ref 65, .int (nI j), y2] [] μ2 (fun r μ' => r = some (.long (fDigest a)) ∧ RM μ' a ∧ FrX μ μ') := by
      intro nF
      induction nF with
      | zero => intro j μ2 h1 h2; exact absurd h2 (by omega)
      | succ nF ihF =>
        intro j μ2 hleF hfuF hF2 hh2
        refine V_iload_n (pc := 191) dX8_digest_191 rfl rfl ?_
        refine V_aload_n (pc := 192) dX8_digest_192 rfl rfl ?_
        refine V_getI (pc := 193) (ci := 8) (j := 18) dX8_digest_193 fl_X8_85 (fun _ _ _ _ => rfl) (by decide) rfl ?_
        refine V_icmpge (pc := 196) (tgt := 216) dX8_digest_196 (by decide) (fun h196 => ?_) (fun h196 => ?_)
        · have e18 : μ2.1 65 18 = nI (aPn a) := (by rw [hF2.1]; exact m12.1); rw [e18, nI_leI (by omega) (by omega)] at h196; have hn : j = aPn a := (by omega)
          refine V_iconst (pc := 216) (v := 0) dX8_digest_216 (by decide) ?_
          refine V_istore1 (pc := 217) dX8_digest_217 (by decide) rfl ?_
          have loopG : ∀ (nG q : Nat) (μ3 : Mm), q ≤ 9 → 9 < q + nG → (FrD μ μ3) → (μ3.2.1 65 43 = mxF (fun q => (fCount a (nI q)).toInt64) (mxF (fun i => (nI (aPc a i)).toInt64) (if aWb a then mx (dSs a (dNm a (if 0 < aNb a then dBk a 661 else 661) 6) (sN (aS a))) (fCalled a).toInt64 else (dSs a (dNm a (if 0 < aNb a then dBk a 661 else 661) 6) (sN (aS a)))) (aPn a)) q) → V l g RX8 cX8_digest 3 (some .long) 6 218 [.ref 65, .int (nI q), y2] [] μ3 (fun r μ' => r = some (.long (fDigest a)) ∧ RM μ' a ∧ FrX μ μ') := by
            intro nG
            induction nG with
            | zero => intro q μ3 h1 h2; exact absurd h2 (by omega)
            | succ nG ihG =>
              intro q μ3 hleG hfuG hF3 hh3
              refine V_iload_n (pc := 218) dX8_digest_218 rfl rfl ?_
              refine V_bipush (pc := 219) (v := 9) dX8_digest_219 (by decide) ?_
              refine V_icmpge (pc := 221) (tgt := 240) dX8_digest_221 (by decide) (fun h221 => ?_) (fun h221 => ?_)
              · have h221 := (nI_leI (a := 9) (b := q) (by decide) (by omega)).mp h221; obtain rfl : q = 9 := by omega
                refine V_aload_n (pc := 240) dX8_digest_240 rfl rfl ?_
                refine V_getL (pc := 241) (ci := 8) (j := 43) dX8_digest_241 fl_X8_296 (fun _ _ _ _ => rfl) (by decide) rfl ?_
                refine V_lret (pc := 244) dX8_digest_244 rfl ?_
                exact ⟨by rw [hh3]; rfl, hM.ofI hF3.1, hF3.X⟩
              have hlt : q < 9 := nI_l3 (a := 9) (by decide) (by omega) h221
              refine V_aload_n (pc := 224) dX8_digest_224 rfl rfl ?_
              refine V_aload_n (pc := 225) dX8_digest_225 rfl rfl ?_
              refine V_iload_n (pc := 226) dX8_digest_226 rfl rfl ?_
              refine V_inv1 (pc := 227) (ci := 8) dX8_digest_227 ml_X8_291 (by decide) rfl ⟨by decide, rfl⟩ (by first | decide | omega) (Nat.le_of_ble_eq_true rfl) (c_X8_howMany μ3 hO (hM.ofI hF3.1)) ?_
              rintro _ μ4 ⟨rfl, hμ⟩
              obtain rfl := hμ.symm
              refine V_i2l (pc := 230) dX8_digest_230 ?_
              refine V_inv1 (pc := 231) (ci := 8) dX8_digest_231 ml_X8_301 (by decide) rfl ⟨by decide, rfl⟩ (by first | decide | omega) (Nat.le_of_ble_eq_true rfl) (c_X8_mix μ3) ?_
              rintro _ _ ⟨rfl, rfl⟩
              refine V_iinc1 (pc := 234) (v := nI (q + 1)) dX8_digest_234 (nI_1 q) (by decide) rfl ?_
              refine V_goto (pc := 237) (tgt := 218) dX8_digest_237 (by decide) ?_
              refine ihG (q + 1) _ (by omega) (by omega) hF3.set ?_
              rw [getl_eq, hh3]
              rfl
          exact loopG (9 + 1) 0 _ (by omega) (by omega) hF2 (by rw [hh2, hn]; rfl)
        have e18 : μ2.1 65 18 = nI (aPn a) := (by rw [hF2.1]; exact m12.1); rw [e18, nI_leI (by omega) (by omega)] at h196; have hlt : j < aPn a := (by omega)
        refine V_aload_n (pc := 199) dX8_digest_199 rfl rfl ?_
        refine V_aload_n (pc := 200) dX8_digest_200 rfl rfl ?_
        refine V_getR (pc := 201) (ci := 8) (j := 19) (k2 := 75) dX8_digest_201 fl_X8_41 (fun _ _ _ _ => rfl) (by decide) rfl (rf_8_19 rfl) ?_
        refine V_iload_n (pc := 204) dX8_digest_204 rfl rfl ?_
        refine V_bald (pc := 205) (j := j) dX8_digest_205 (by decide) rfl rfl (by show j < 30; omega) ?_
        refine V_i2l (pc := 206) dX8_digest_206 ?_
        refine V_inv1 (pc := 207) (ci := 8) dX8_digest_207 ml_X8_301 (by decide) rfl ⟨by decide, rfl⟩ (by first | decide | omega) (Nat.le_of_ble_eq_true rfl) (c_X8_mix μ2) ?_
        rintro _ _ ⟨rfl, rfl⟩
        refine V_iinc1 (pc := 210) (v := nI (j + 1)) dX8_digest_210 (nI_1 j) (by decide) rfl ?_
        refine V_goto (pc := 213) (tgt := 191) dX8_digest_213 (by decide) ?_
        refine ihF (j + 1) _ (by omega) (by omega) hF2.set ?_
        rw [getl_eq, hh2, hF2.1, m12.2 j (by omega)]
        rfl
    exact loopF (aPn a + 1) 0 _ (by omega) (by omega) hF hh
  have J73 : ∀ (μ1 : Mm) (y1 y2 : Value), FrD μ μ1 → μ1.2.1 65 43 = (if 0 < aNb a then dBk a 661 else 661) → V l g RX8 cX8_digest 3 (some .long) 6 73 [.ref 65, y1, y2] [] μ1 (fun r μ' => r = some (.long (fDigest a)) ∧ RM μ' a ∧ FrX μ μ') := by
    intro μ1 y1 y2 hF hh
    refine V_iconst (pc := 73) (v := 0) dX8_digest_73 (by decide) ?_
    refine V_istore1 (pc := 74) dX8_digest_74 (by decide) rfl ?_
    have loopC : ∀ (nC n : Nat) (μ2 : Mm), n ≤ 6 → 6 < n + nC → (FrD μ μ2) → (μ2.2.1 65 43 = dNm a (if 0 < aNb a then dBk a 661 else 661) n) → V l g RX8 cX8_digest 3 (some .long) 6 75 [.ref 65, .int (nI n), y2] [] μ2 (fun r μ' => r = some (.long (fDigest a)) ∧ RM μ' a ∧ FrX μ μ') := by
      intro nC
      induction nC with
      | zero => intro n μ2 h1 h2; exact absurd h2 (by omega)
      | succ nC ihC =>
        intro n μ2 hleC hfuC hF2 hh2
        refine V_iload_n (pc := 75) dX8_digest_75 rfl rfl ?_
        refine V_bipush (pc := 76) (v := 6) dX8_digest_76 (by decide) ?_
        refine V_icmpge (pc := 78) (tgt := 110) dX8_digest_78 (by decide) (fun h78 => ?_) (fun h78 => ?_)
        · have h78 := (nI_leI (a := 6) (b := n) (by decide) (by omega)).mp h78; obtain rfl : n = 6 := by omega
          refine V_iconst (pc := 110) (v := 0) dX8_digest_110 (by decide) ?_
          refine V_istore1 (pc := 111) dX8_digest_111 (by decide) rfl ?_
          have loopD : ∀ (nD i : Nat) (μ3 : Mm) (y2 : Value), i ≤ sN (aS a) → sN (aS a) < i + nD → (FrD μ μ3) → (μ3.2.1 65 43 = dSs a (dNm a (if 0 < aNb a then dBk a 661 else 661) 6) i) → V l g RX8 cX8_digest 3 (some .long) 6 112 [.ref 65, .int (nI i), y2] [] μ3 (fun r μ' => r = some (.long (fDigest a)) ∧ RM μ' a ∧ FrX μ μ') := by
            intro nD
            induction nD with
            | zero => intro i μ3 y2 h1 h2; exact absurd h2 (by omega)
            | succ nD ihD =>
              intro i μ3 y2 hleD hfuD hF3 hh3
              refine V_iload_n (pc := 112) dX8_digest_112 rfl rfl ?_
              refine V_aload_n (pc := 113) dX8_digest_113 rfl rfl ?_
              refine V_getI (pc := 114) (ci := 8) (j := 5) dX8_digest_114 fl_X8_129 (fun _ _ _ _ => rfl) (by decide) rfl ?_
              refine V_icmpge (pc := 117) (tgt := 172) dX8_digest_117 (by decide) (fun h117 => ?_) (fun h117 => ?_)
              · have e5 : μ3.1 65 5 = nI (sN (aS a)) := (by rw [hF3.1]; exact m5); rw [e5, nI_leI (by omega) (by omega)] at h117; have hn : i = sN (aS a) := (by omega)
                refine V_aload_n (pc := 172) dX8_digest_172 rfl rfl ?_
                refine V_getI (pc := 173) (ci := 8) (j := 15) dX8_digest_173 fl_X8_34 (fun _ _ _ _ => rfl) (by decide) rfl ?_
                refine V_iconst (pc := 176) (v := (-1)) dX8_digest_176 (by decide) ?_
                have w1 := m11.1
                rw [show μ3.1 65 15 = μ.1 65 15 from by rw [hF3.1]]
                refine V_icmpeq (pc := 177) (tgt := 189) dX8_digest_177 (by decide) (fun h177 => ?_) (fun h177 => ?_)
                · have hwb : aWb a = false := (by cases hq : aWb a; rfl; rw [hq, if_pos rfl] at w1; obtain ⟨z, z1, z2, z3⟩ := w1; rw [z2] at h177; exact absurd h177 (nI_m1ne (by omega))); exact J189 _ _ _ hF3 (by rw [hh3, hn, hwb]; rfl)
                have hwb : aWb a = true := (by cases hq : aWb a; rw [hq] at w1; exact absurd w1 h177; rfl); have hnb : 0 < aNb a := by rcases Nat.eq_zero_or_pos (aNb a) with q | q; have e := (hJ.1 q).2; rw [hwb] at e; exact absurd e (by decide); exact q
                refine V_aload_n (pc := 180) dX8_digest_180 rfl rfl ?_
                refine V_aload_n (pc := 181) dX8_digest_181 rfl rfl ?_
                refine V_inv0 (pc := 182) (ci := 8) dX8_digest_182 ml_X8_246 (by decide) rfl ⟨by decide, rfl⟩ (by first | decide | omega) (Nat.le_of_ble_eq_true rfl) (c_X8_calledNow μ3 hO (hM.ofI hF3.1) hnb hwb) ?_
                rintro _ μ4 ⟨rfl, hμ⟩
                obtain rfl := hμ.symm
                refine V_i2l (pc := 185) dX8_digest_185 ?_
                refine V_inv1 (pc := 186) (ci := 8) dX8_digest_186 ml_X8_301 (by decide) rfl ⟨by decide, rfl⟩ (by first | decide | omega) (Nat.le_of_ble_eq_true rfl) (c_X8_mix μ3) ?_
                rintro _ _ ⟨rfl, rfl⟩
                exact J189 _ _ _ hF3.set (by rw [getl_eq, hh3, hn, if_pos hwb, fCd hwb])
              have e5 : μ3.1 65 5 = nI (sN (aS a)) := (by rw [hF3.1]; exact m5); rw [e5, nI_leI (by omega) (by omega)] at h117; have hlt : i < sN (aS a) := (by omega); have hnb : 0 < aNb a := (by rcases Nat.eq_zero_or_pos (aNb a) with q | q; have := (hJ.1 q).1; omega; exact q)
              refine V_iconst (pc := 120) (v := 0) dX8_digest_120 (by decide) ?_
              refine V_istore2 (pc := 121) dX8_digest_121 (by decide) rfl ?_
              have loopE : ∀ (nE q : Nat) (μ4 : Mm), q ≤ 5 → 5 < q + nE → (FrD μ μ4) → (μ4.2.1 65 43 = mxF (fun q => (tel (aS a) i q).toInt64) (dSs a (dNm a (if 0 < aNb a then dBk a 661 else 661) 6) i) q) → V l g RX8 cX8_digest 3 (some .long) 6 122 [.ref 65, .int (nI i), .int (nI q)] [] μ4 (fun r μ' => r = some (.long (fDigest a)) ∧ RM μ' a ∧ FrX μ μ') := by
                intro nE
                induction nE with
                | zero => intro q μ4 h1 h2; exact absurd h2 (by omega)
                | succ nE ihE =>
                  intro q μ4 hleE hfuE hF4 hh4
                  refine V_iload_n (pc := 122) dX8_digest_122 rfl rfl ?_
                  refine V_iconst (pc := 123) (v := 5) dX8_digest_123 (by decide) ?_
                  refine V_icmpge (pc := 124) (tgt := 144) dX8_digest_124 (by decide) (fun h124 => ?_) (fun h124 => ?_)
                  · have h124 := (nI_leI (a := 5) (b := q) (by decide) (by omega)).mp h124; obtain rfl : q = 5 := by omega
                    refine V_aload_n (pc := 144) dX8_digest_144 rfl rfl ?_
                    refine V_aload_n (pc := 145) dX8_digest_145 rfl rfl ?_
                    refine V_iload_n (pc := 146) dX8_digest_146 rfl rfl ?_
                    refine V_iconst (pc := 147) (v := 2) dX8_digest_147 (by decide) ?_
                    refine V_iconst (pc := 148) (v := 0) dX8_digest_148 (by decide) ?_
                    refine V_inv3 (pc := 149) (ci := 8) dX8_digest_149 ml_X8_214 (by decide) rfl ⟨by decide, rfl⟩ (by first | decide | omega) (Nat.le_of_ble_eq_true rfl) (c_X8_likelyNow (d := 1) μ4 hO (hM.ofI hF4.1) hnb hlt (by omega)) ?_
                    rintro _ μ5 ⟨rfl, hF5⟩
                    rw [← fLk (z := 0) hlt (by omega) rfl]
                    refine V_inv1 (pc := 152) (ci := 8) dX8_digest_152 ml_X8_301 (by decide) rfl ⟨by decide, rfl⟩ (by first | decide | omega) (Nat.le_of_ble_eq_true rfl) (c_X8_mix μ5) ?_
                    rintro _ _ ⟨rfl, rfl⟩
                    refine V_aload_n (pc := 155) dX8_digest_155 rfl rfl ?_
                    refine V_aload_n (pc := 156) dX8_digest_156 rfl rfl ?_
                    refine V_iload_n (pc := 157) dX8_digest_157 rfl rfl ?_
                    refine V_iconst (pc := 158) (v := 2) dX8_digest_158 (by decide) ?_
                    refine V_iconst (pc := 159) (v := 1) dX8_digest_159 (by decide) ?_
                    refine V_inv3 (pc := 160) (ci := 8) dX8_digest_160 ml_X8_214 (by decide) rfl ⟨by decide, rfl⟩ (by first | decide | omega) (Nat.le_of_ble_eq_true rfl) (c_X8_likelyNow (d := 1) _ hO (hM.ofI (hF4.tr hF5.D).set.1) hnb hlt (by omega)) ?_
                    rintro _ μ6 ⟨rfl, hF6⟩
                    rw [← fLk (z := 1) hlt (by omega) rfl]
                    refine V_inv1 (pc := 163) (ci := 8) dX8_digest_163 ml_X8_301 (by decide) rfl ⟨by decide, rfl⟩ (by first | decide | omega) (Nat.le_of_ble_eq_true rfl) (c_X8_mix μ6) ?_
                    rintro _ _ ⟨rfl, rfl⟩
                    refine V_iinc1 (pc := 166) (v := nI (i + 1)) dX8_digest_166 (nI_1 i) (by decide) rfl ?_
                    refine V_goto (pc := 169) (tgt := 112) dX8_digest_169 (by decide) ?_
                    refine ihD (i + 1) _ _ (by omega) (by omega) ((hF4.tr hF5.D).set.tr hF6.D).set ?_
                    rw [getl_eq, hF6.2.2, getl_eq, hF5.2.2, hh4]
                    rfl
                  have hlt2 : q < 5 := nI_l3 (a := 5) (by decide) (by omega) h124
                  refine V_aload_n (pc := 127) dX8_digest_127 rfl rfl ?_
                  refine V_aload_n (pc := 128) dX8_digest_128 rfl rfl ?_
                  refine V_iload_n (pc := 129) dX8_digest_129 rfl rfl ?_
                  refine V_iload_n (pc := 130) dX8_digest_130 rfl rfl ?_
                  refine V_inv2 (pc := 131) (ci := 8) dX8_digest_131 ml_X8_153 (by decide) rfl ⟨by decide, rfl⟩ (by first | decide | omega) (Nat.le_of_ble_eq_true rfl) (c_X8_shipNow μ4 hO (hM.ofI hF4.1) hlt (show q ≤ 4 by omega)) ?_
                  rintro _ μ5 ⟨rfl, hμ⟩
                  obtain rfl := hμ.symm
                  refine V_i2l (pc := 134) dX8_digest_134 ?_
                  refine V_inv1 (pc := 135) (ci := 8) dX8_digest_135 ml_X8_301 (by decide) rfl ⟨by decide, rfl⟩ (by first | decide | omega) (Nat.le_of_ble_eq_true rfl) (c_X8_mix μ4) ?_
                  rintro _ _ ⟨rfl, rfl⟩
                  refine V_iinc2 (pc := 138) (v := nI (q + 1)) dX8_digest_138 (nI_1 q) (by decide) rfl ?_
                  refine V_goto (pc := 141) (tgt := 122) dX8_digest_141 (by decide) ?_
                  refine ihE (q + 1) _ (by omega) (by omega) hF4.set ?_
                  rw [getl_eq, hh4]
                  rfl
              exact loopE (5 + 1) 0 _ (by omega) (by omega) hF3 hh3
          exact loopD (sN (aS a) + 1) 0 _ _ (by omega) (by omega) hF2 hh2
        have hlt : n < 6 := nI_l3 (a := 6) (by decide) (by omega) h78
        refine V_aload_n (pc := 81) dX8_digest_81 rfl rfl ?_
        refine V_aload_n (pc := 82) dX8_digest_82 rfl rfl ?_
        refine V_getI (pc := 83) (ci := 8) (j := 11) dX8_digest_83 fl_X8_132 (fun _ _ _ _ => rfl) (by decide) rfl ?_
        refine V_iload_n (pc := 86) dX8_digest_86 rfl rfl ?_
        refine V_ishr (pc := 87) dX8_digest_87 ?_
        refine V_iconst (pc := 88) (v := 1) dX8_digest_88 (by decide) ?_
        refine V_iand (pc := 89) dX8_digest_89 ?_
        rw [show μ2.1 65 11 = nI (sS (aS a)) from by rw [hF2.1]; exact m7, bit_get _ s2 _ hlt]
        refine V_i2l (pc := 90) dX8_digest_90 ?_
        refine V_inv1 (pc := 91) (ci := 8) dX8_digest_91 ml_X8_301 (by decide) rfl ⟨by decide, rfl⟩ (by first | decide | omega) (Nat.le_of_ble_eq_true rfl) (c_X8_mix μ2) ?_
        rintro _ _ ⟨rfl, rfl⟩
        refine V_aload_n (pc := 94) dX8_digest_94 rfl rfl ?_
        refine V_aload_n (pc := 95) dX8_digest_95 rfl rfl ?_
        refine V_iload_n (pc := 96) dX8_digest_96 rfl rfl ?_
        refine V_inv1 (pc := 97) (ci := 8) dX8_digest_97 ml_X8_237 (by decide) rfl ⟨by decide, rfl⟩ (by first | decide | omega) (Nat.le_of_ble_eq_true rfl) (c_X8_guessNow _ hO (hM.ofI hF2.1) hlt) ?_
        rintro _ μ3 ⟨rfl, hμ⟩
        obtain rfl := hμ.symm
        refine V_i2l (pc := 100) dX8_digest_100 ?_
        refine V_inv1 (pc := 101) (ci := 8) dX8_digest_101 ml_X8_301 (by decide) rfl ⟨by decide, rfl⟩ (by first | decide | omega) (Nat.le_of_ble_eq_true rfl) (c_X8_mix _) ?_
        rintro _ _ ⟨rfl, rfl⟩
        refine V_iinc1 (pc := 104) (v := nI (n + 1)) dX8_digest_104 (nI_1 n) (by decide) rfl ?_
        refine V_goto (pc := 107) (tgt := 75) dX8_digest_107 (by decide) ?_
        refine ihC (n + 1) _ (by omega) (by omega) hF2.set.set ?_
        rw [getl_eq, getl_eq, hh2]
        rfl
    exact loopC (6 + 1) 0 _ (by omega) (by omega) hF hh
  refine V_aload_n (pc := 0) dX8_digest_0 rfl rfl ?_
  refine V_ldc2 (pc := 1) (v := 661) ct_X8_299 dX8_digest_1 ?_
  refine V_putL (pc := 4) (ci := 8) (j := 43) dX8_digest_4 fl_X8_296 (fun _ _ _ _ _ => rfl) rfl rfl (by decide) rfl ?_
  refine V_aload_n (pc := 7) dX8_digest_7 rfl rfl ?_
  refine V_getI (pc := 8) (ci := 8) (j := 0) dX8_digest_8 fl_X8_123 (fun _ _ _ _ => rfl) (by decide) rfl ?_
  rw [show (setL μ 65 43 661).1 65 0 = bI (decide (0 < aNb a)) from m1]
  refine V_ifeq (pc := 11) (tgt := 73) dX8_digest_11 (by decide) (fun h11 => ?_) (fun h11 => ?_)
  · have h11 := of_decide_eq_false (bI_e h11); exact J73 _ _ _ FrD.rf.set (by rw [getl_eq, if_neg h11])
  have h11 := of_decide_eq_true (bI_ne h11); have hB := m4 h11
  refine V_iconst (pc := 14) (v := 0) dX8_digest_14 (by decide) ?_
  refine V_istore1 (pc := 15) dX8_digest_15 (by decide) rfl ?_
  have loopA : ∀ (nA i : Nat) (μ1 : Mm), i ≤ 15 → 15 < i + nA → (FrD μ μ1) → (μ1.2.1 65 43 = mxF (fun k => (nI (aTn a (k / 3) (k % 3))).toInt64) 661 i) → V l g RX8 cX8_digest 3 (some .long) 6 16 [.ref 65, .int (nI i), .null] [] μ1 (fun r μ' => r = some (.long (fDigest a)) ∧ RM μ' a ∧ FrX μ μ') := by
    intro nA
    induction nA with
    | zero => intro i μ1 h1 h2; exact absurd h2 (by omega)
    | succ nA ihA =>
      intro i μ1 hleA hfuA hF hh
      refine V_iload_n (pc := 16) dX8_digest_16 rfl rfl ?_
      refine V_bipush (pc := 17) (v := 15) dX8_digest_17 (by decide) ?_
      refine V_icmpge (pc := 19) (tgt := 39) dX8_digest_19 (by decide) (fun h19 => ?_) (fun h19 => ?_)
      · have h19 := (nI_leI (a := 15) (b := i) (by decide) (by omega)).mp h19; obtain rfl : i = 15 := by omega
        refine V_iconst (pc := 39) (v := 0) dX8_digest_39 (by decide) ?_
        refine V_istore1 (pc := 40) dX8_digest_40 (by decide) rfl ?_
        have loopB : ∀ (nB n : Nat) (μ2 : Mm), n ≤ 6 → 6 < n + nB → (FrD μ μ2) → (μ2.2.1 65 43 = mxF (fun n => (cI (aOw a n)).toInt64) (mxF (fun k => (nI (aTn a (k / 3) (k % 3))).toInt64) 661 15) n) → V l g RX8 cX8_digest 3 (some .long) 6 41 [.ref 65, .int (nI n), .null] [] μ2 (fun r μ' => r = some (.long (fDigest a)) ∧ RM μ' a ∧ FrX μ μ') := by
          intro nB
          induction nB with
          | zero => intro n μ2 h1 h2; exact absurd h2 (by omega)
          | succ nB ihB =>
            intro n μ2 hleB hfuB hF2 hh2
            refine V_iload_n (pc := 41) dX8_digest_41 rfl rfl ?_
            refine V_bipush (pc := 42) (v := 6) dX8_digest_42 (by decide) ?_
            refine V_icmpge (pc := 44) (tgt := 64) dX8_digest_44 (by decide) (fun h44 => ?_) (fun h44 => ?_)
            · have h44 := (nI_leI (a := 6) (b := n) (by decide) (by omega)).mp h44; obtain rfl : n = 6 := by omega
              refine V_aload_n (pc := 64) dX8_digest_64 rfl rfl ?_
              refine V_aload_n (pc := 65) dX8_digest_65 rfl rfl ?_
              refine V_inv0 (pc := 66) (ci := 8) dX8_digest_66 ml_X8_231 (by decide) rfl ⟨by decide, rfl⟩ (by first | decide | omega) (Nat.le_of_ble_eq_true rfl) (c_X8_tellsNow μ2 hO (hM.ofI hF2.1) h11) ?_
              rintro _ μ3 ⟨rfl, hμ⟩
              obtain rfl := hμ.symm
              refine V_i2l (pc := 69) dX8_digest_69 ?_
              refine V_inv1 (pc := 70) (ci := 8) dX8_digest_70 ml_X8_301 (by decide) rfl ⟨by decide, rfl⟩ (by first | decide | omega) (Nat.le_of_ble_eq_true rfl) (c_X8_mix μ2) ?_
              rintro _ _ ⟨rfl, rfl⟩
              exact J73 _ _ _ hF2.set (by rw [getl_eq, hh2, if_pos h11]; rfl)
            have hlt : n < 6 := nI_l3 (a := 6) (by decide) (by omega) h44
            refine V_aload_n (pc := 47) dX8_digest_47 rfl rfl ?_
            refine V_aload_n (pc := 48) dX8_digest_48 rfl rfl ?_
            refine V_getR (pc := 49) (ci := 8) (j := 4) (k2 := 67) dX8_digest_49 fl_X8_13 (fun _ _ _ _ => rfl) (by decide) rfl (rf_8_4 rfl) ?_
            refine V_iload_n (pc := 52) dX8_digest_52 rfl rfl ?_
            refine V_iald (pc := 53) (j := n) dX8_digest_53 (by decide) rfl rfl (by show n < 6; omega) ?_
            refine V_i2l (pc := 54) dX8_digest_54 ?_
            refine V_inv1 (pc := 55) (ci := 8) dX8_digest_55 ml_X8_301 (by decide) rfl ⟨by decide, rfl⟩ (by first | decide | omega) (Nat.le_of_ble_eq_true rfl) (c_X8_mix μ2) ?_
            rintro _ _ ⟨rfl, rfl⟩
            refine V_iinc1 (pc := 58) (v := nI (n + 1)) dX8_digest_58 (nI_1 n) (by decide) rfl ?_
            refine V_goto (pc := 61) (tgt := 41) dX8_digest_61 (by decide) ?_
            refine ihB (n + 1) _ (by omega) (by omega) hF2.set ?_
            rw [getl_eq, hh2, hF2.1, hB.2 n (by omega)]
            rfl
        exact loopB (6 + 1) 0 _ (by omega) (by omega) hF hh
      have hlt : i < 15 := nI_l3 (a := 15) (by decide) (by omega) h19
      refine V_aload_n (pc := 22) dX8_digest_22 rfl rfl ?_
      refine V_aload_n (pc := 23) dX8_digest_23 rfl rfl ?_
      refine V_getR (pc := 24) (ci := 8) (j := 3) (k2 := 66) dX8_digest_24 fl_X8_7 (fun _ _ _ _ => rfl) (by decide) rfl (rf_8_3 rfl) ?_
      refine V_iload_n (pc := 27) dX8_digest_27 rfl rfl ?_
      refine V_iald (pc := 28) (j := i) dX8_digest_28 (by decide) rfl rfl (by show i < 15; omega) ?_
      refine V_i2l (pc := 29) dX8_digest_29 ?_
      refine V_inv1 (pc := 30) (ci := 8) dX8_digest_30 ml_X8_301 (by decide) rfl ⟨by decide, rfl⟩ (by first | decide | omega) (Nat.le_of_ble_eq_true rfl) (c_X8_mix μ1) ?_
      rintro _ _ ⟨rfl, rfl⟩
      refine V_iinc1 (pc := 33) (v := nI (i + 1)) dX8_digest_33 (nI_1 i) (by decide) rfl ?_
      refine V_goto (pc := 36) (tgt := 16) dX8_digest_36 (by decide) ?_
      refine ihA (i + 1) _ (by omega) (by omega) hF.set ?_
      rw [getl_eq, hh, hF.1]
      have e := hB.1 (i / 3) (i % 3) (by omega) (by omega)
      rw [show 3 * (i / 3) + i % 3 = i by omega] at e
      rw [e]
      rfl
  exact loopA (15 + 1) 0 _ (by omega) (by omega) FrD.rf.set getl_eq
