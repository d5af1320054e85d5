theorem dX7_mix_0 : decode cX7_mix 0 = .ok (.ldc2_w 278, 3) := by decide +kernel
theorem dX7_mix_3 : decode cX7_mix 3 = .ok (.lload_n 0, 1) := by decide +kernel
theorem dX7_mix_4 : decode cX7_mix 4 = .ok (.lmul, 1) := by decide +kernel
theorem dX7_mix_5 : decode cX7_mix 5 = .ok (.lload_n 2, 1) := by decide +kernel
theorem dX7_mix_6 : decode cX7_mix 6 = .ok (.ladd, 1) := by decide +kernel
theorem dX7_mix_7 : decode cX7_mix 7 = .ok (.lreturn, 1) := by decide +kernel
set_option maxHeartbeats 4000000 in
set_option maxRecDepth 100000 in
theorem c_X7_mix {l : Launch} {g : GW} {h v : Int64} (μ : Mm)  : Con l g yX7_mix cX7_mix 4 (some .long) 0 [.long h, .long v] μ (fun r μ' => r = some (.long (mx h v)) ∧ μ' = μ) := by
  refine Con.of [.long h, .null, .long v, .null] 0 (by decide +kernel) (Nat.le_of_ble_eq_true rfl) rfl ?_
  refine V_ldc2 (pc := 0) (v := 31) ct_X7_278 dX7_mix_0 ?_
  refine V_lload_n (pc := 3) dX7_mix_3 rfl rfl ?_
  refine V_lmul (pc := 4) dX7_mix_4 ?_
  refine V_lload_n (pc := 5) dX7_mix_5 rfl rfl ?_
  refine V_ladd (pc := 6) dX7_mix_6 ?_
  refine V_lret (pc := 7) dX7_mix_7 rfl ?_
  exact ⟨rfl, rfl⟩
theorem dX7_count_0 : decode cX7_count 0 = .ok (.iload_n 1, 1) := by decide +kernel
theorem dX7_count_1 : decode cX7_count 1 = .ok (.tableswitch 120 0 8 #[51, 59, 67, 75, 83, 91, 99, 107, 115], 51) := by decide +kernel
theorem dX7_count_52 : decode cX7_count 52 = .ok (.aload_n 0, 1) := by decide +kernel
theorem dX7_count_53 : decode cX7_count 53 = .ok (.getfield 53, 3) := by decide +kernel
theorem dX7_count_56 : decode cX7_count 56 = .ok (.invokevirtual 93, 3) := by decide +kernel
theorem dX7_count_59 : decode cX7_count 59 = .ok (.ireturn, 1) := by decide +kernel
theorem dX7_count_60 : decode cX7_count 60 = .ok (.aload_n 0, 1) := by decide +kernel
theorem dX7_count_61 : decode cX7_count 61 = .ok (.getfield 26, 3) := by decide +kernel
theorem dX7_count_64 : decode cX7_count 64 = .ok (.getfield 236, 3) := by decide +kernel
theorem dX7_count_67 : decode cX7_count 67 = .ok (.ireturn, 1) := by decide +kernel
theorem dX7_count_68 : decode cX7_count 68 = .ok (.aload_n 0, 1) := by decide +kernel
theorem dX7_count_69 : decode cX7_count 69 = .ok (.getfield 26, 3) := by decide +kernel
theorem dX7_count_72 : decode cX7_count 72 = .ok (.invokevirtual 155, 3) := by decide +kernel
theorem dX7_count_75 : decode cX7_count 75 = .ok (.ireturn, 1) := by decide +kernel
theorem dX7_count_76 : decode cX7_count 76 = .ok (.aload_n 0, 1) := by decide +kernel
theorem dX7_count_77 : decode cX7_count 77 = .ok (.getfield 26, 3) := by decide +kernel
theorem dX7_count_80 : decode cX7_count 80 = .ok (.invokevirtual 158, 3) := by decide +kernel
theorem dX7_count_83 : decode cX7_count 83 = .ok (.ireturn, 1) := by decide +kernel
theorem dX7_count_84 : decode cX7_count 84 = .ok (.aload_n 0, 1) := by decide +kernel
theorem dX7_count_85 : decode cX7_count 85 = .ok (.getfield 26, 3) := by decide +kernel
theorem dX7_count_88 : decode cX7_count 88 = .ok (.getfield 239, 3) := by decide +kernel
theorem dX7_count_91 : decode cX7_count 91 = .ok (.ireturn, 1) := by decide +kernel
theorem dX7_count_92 : decode cX7_count 92 = .ok (.aload_n 0, 1) := by decide +kernel
theorem dX7_count_93 : decode cX7_count 93 = .ok (.getfield 26, 3) := by decide +kernel
theorem dX7_count_96 : decode cX7_count 96 = .ok (.getfield 240, 3) := by decide +kernel
theorem dX7_count_99 : decode cX7_count 99 = .ok (.ireturn, 1) := by decide +kernel
theorem dX7_count_100 : decode cX7_count 100 = .ok (.aload_n 0, 1) := by decide +kernel
theorem dX7_count_101 : decode cX7_count 101 = .ok (.getfield 39, 3) := by decide +kernel
theorem dX7_count_104 : decode cX7_count 104 = .ok (.getfield 206, 3) := by decide +kernel
theorem dX7_count_107 : decode cX7_count 107 = .ok (.ireturn, 1) := by decide +kernel
theorem dX7_count_108 : decode cX7_count 108 = .ok (.aload_n 0, 1) := by decide +kernel
theorem dX7_count_109 : decode cX7_count 109 = .ok (.getfield 12, 3) := by decide +kernel
theorem dX7_count_112 : decode cX7_count 112 = .ok (.getfield 72, 3) := by decide +kernel
theorem dX7_count_115 : decode cX7_count 115 = .ok (.ireturn, 1) := by decide +kernel
theorem dX7_count_116 : decode cX7_count 116 = .ok (.aload_n 0, 1) := by decide +kernel
theorem dX7_count_117 : decode cX7_count 117 = .ok (.getfield 80, 3) := by decide +kernel
theorem dX7_count_120 : decode cX7_count 120 = .ok (.ireturn, 1) := by decide +kernel
theorem dX7_count_121 : decode cX7_count 121 = .ok (.bipush (-102), 2) := by decide +kernel
theorem dX7_count_123 : decode cX7_count 123 = .ok (.ireturn, 1) := by decide +kernel
set_option maxHeartbeats 4000000 in
set_option maxRecDepth 100000 in
theorem c_X7_count {l : Launch} {g : GW} {a : AT} {x : Int32} (μ : Mm) (hA : RC μ a)  : Con l g yX7_count cX7_count 2 (some .int) 2 [.ref 0, .int x] μ (fun r μ' => r = some (.int (fCount a x)) ∧ μ' = μ) := by
  obtain ⟨a1, a2, a3, a4, ⟨b, hb, hcur, hdrf, hB⟩, hS, hK, hD, hW⟩ := id hA
  obtain ⟨r1, r2, r3, r4, r5, r6, r7, r8, r9⟩ := id hS
  obtain ⟨w1, w2, w3, w4, w5, w6⟩ := id hW
  obtain ⟨p1, p2, p3⟩ := id a1
  obtain ⟨hb1, hb2, hb3, hb4, hb5, hb6, hrow⟩ := bkF hb
  have hship : ∀ i, i < 6 → 4 + 1 + 1 + i < 88 ∧ kt (4 + 1 + 1 + i) = 5 := (seaF (Or.inl rfl)).2.2.2.2.2.2
  have h4 : (4 : Nat) = 4 ∨ (4 : Nat) = 13 ∨ (4 : Nat) = 22 := Or.inl rfl
  refine Con.of [.ref 0, .int x] 0 (by decide +kernel) (Nat.le_of_ble_eq_true rfl) rfl ?_
  refine V_iload_n (pc := 0) dX7_count_0 rfl rfl ?_
  cases hx : inN x 9 with
  | false =>
    have ho : x.toInt < 0 ∨ 8 < x.toInt := by
      have h2 := of_decide_eq_false hx
      omega
    refine V_tsOut (pc := 1) (tgt := 121) dX7_count_1 ho (by decide) ?_
    refine V_bipush (pc := 121) (v := (-102)) dX7_count_121 (by decide) ?_
    refine V_iret (pc := 123) dX7_count_123 rfl ?_
    exact ⟨by simp [fCount, hx], rfl⟩
  | true =>
    obtain ⟨i, hi, rfl⟩ := inN_of (by decide) hx
    have e9 : fCount a (nI i) = (if i = 0 then nI (nmT (aOw a) 6) else if i = 1 then nI (sN (aS a)) else if i = 2 then nI (homeT (sP (aS a)) (sN (aS a))) else if i = 3 then nI (cntB (sS (aS a))) else if i = 4 then sD (aS a) else if i = 5 then nI (sA (aS a)) else if i = 6 then nI (aWn a) else if i = 7 then nI (aPn a) else nI (aNb a)) := by
      simp only [fCount, hx, if_true, nn_nI (j := i) (by omega)]
    rw [e9]
    clear e9 hx
    have hsel : i = 0 ∨ i = 1 ∨ i = 2 ∨ i = 3 ∨ i = 4 ∨ i = 5 ∨ i = 6 ∨ i = 7 ∨ i = 8 := by omega
    rcases hsel with hs1 | hs1 | hs1 | hs1 | hs1 | hs1 | hs1 | hs1 | hs1
    · subst hs1
      refine V_tsIn (pc := 1) (off := 51) (tgt := 52) dX7_count_1 (by decide) (by decide) (by decide) (by decide) ?_
      refine V_aload_n (pc := 52) dX7_count_52 rfl rfl ?_
      refine V_getR (pc := 53) (ci := 7) (j := 7) (k2 := b) dX7_count_53 fl_X7_53 (fun _ _ _ _ => rfl) (by decide) rfl ((rf_7_7 rfl).trans hcur) ?_
      refine V_inv0 (pc := 56) (ci := 0) dX7_count_56 ml_X7_93 (by first | decide | omega) (by first | rfl | assumption | exact (hship _ (by omega)).2 | exact (hrow _ (by omega)).2.1 | decide) ⟨by decide, rfl⟩ (by first | decide | omega) (Nat.le_of_ble_eq_true rfl) (c_X0_nameCount μ hb hB) ?_
      rintro _ μ2 ⟨rfl, hμ⟩
      obtain rfl := hμ.symm
      refine V_iret (pc := 59) dX7_count_59 rfl ?_
      exact ⟨congrArg (fun z => some (Value.int z)) (rfl), rfl⟩
    · subst hs1
      refine V_tsIn (pc := 1) (off := 59) (tgt := 60) dX7_count_1 (by decide) (by decide) (by decide) (by decide) ?_
      refine V_aload_n (pc := 60) dX7_count_60 rfl rfl ?_
      refine V_getR (pc := 61) (ci := 7) (j := 2) (k2 := 4) dX7_count_61 fl_X7_26 (fun _ _ _ _ => rfl) (by decide) rfl (rf_7_2 rfl) ?_
      refine V_getI (pc := 64) (ci := 4) (j := 2) dX7_count_64 fl_X7_236 (fun _ _ _ _ => rfl) (by decide) rfl ?_
      refine V_iret (pc := 67) dX7_count_67 rfl ?_
      exact ⟨congrArg (fun z => some (Value.int z)) (r1), rfl⟩
    · subst hs1
      refine V_tsIn (pc := 1) (off := 67) (tgt := 68) dX7_count_1 (by decide) (by decide) (by decide) (by decide) ?_
      refine V_aload_n (pc := 68) dX7_count_68 rfl rfl ?_
      refine V_getR (pc := 69) (ci := 7) (j := 2) (k2 := 4) dX7_count_69 fl_X7_26 (fun _ _ _ _ => rfl) (by decide) rfl (rf_7_2 rfl) ?_
      refine V_inv0 (pc := 72) (ci := 4) dX7_count_72 ml_X7_155 (by decide) rfl ⟨by decide, rfl⟩ (by first | decide | omega) (Nat.le_of_ble_eq_true rfl) (c_X4_homeCount μ h4 hS) ?_
      rintro _ μ2 ⟨rfl, hμ⟩
      obtain rfl := hμ.symm
      refine V_iret (pc := 75) dX7_count_75 rfl ?_
      exact ⟨congrArg (fun z => some (Value.int z)) (rfl), rfl⟩
    · subst hs1
      refine V_tsIn (pc := 1) (off := 75) (tgt := 76) dX7_count_1 (by decide) (by decide) (by decide) (by decide) ?_
      refine V_aload_n (pc := 76) dX7_count_76 rfl rfl ?_
      refine V_getR (pc := 77) (ci := 7) (j := 2) (k2 := 4) dX7_count_77 fl_X7_26 (fun _ _ _ _ => rfl) (by decide) rfl (rf_7_2 rfl) ?_
      refine V_inv0 (pc := 80) (ci := 4) dX7_count_80 ml_X7_158 (by decide) rfl ⟨by decide, rfl⟩ (by first | decide | omega) (Nat.le_of_ble_eq_true rfl) (c_X4_spentCount μ h4 hS) ?_
      rintro _ μ2 ⟨rfl, hμ⟩
      obtain rfl := hμ.symm
      refine V_iret (pc := 83) dX7_count_83 rfl ?_
      exact ⟨congrArg (fun z => some (Value.int z)) (rfl), rfl⟩
    · subst hs1
      refine V_tsIn (pc := 1) (off := 83) (tgt := 84) dX7_count_1 (by decide) (by decide) (by decide) (by decide) ?_
      refine V_aload_n (pc := 84) dX7_count_84 rfl rfl ?_
      refine V_getR (pc := 85) (ci := 7) (j := 2) (k2 := 4) dX7_count_85 fl_X7_26 (fun _ _ _ _ => rfl) (by decide) rfl (rf_7_2 rfl) ?_
      refine V_getI (pc := 88) (ci := 4) (j := 4) dX7_count_88 fl_X7_239 (fun _ _ _ _ => rfl) (by decide) rfl ?_
      refine V_iret (pc := 91) dX7_count_91 rfl ?_
      exact ⟨congrArg (fun z => some (Value.int z)) (r5), rfl⟩
    · subst hs1
      refine V_tsIn (pc := 1) (off := 91) (tgt := 92) dX7_count_1 (by decide) (by decide) (by decide) (by decide) ?_
      refine V_aload_n (pc := 92) dX7_count_92 rfl rfl ?_
      refine V_getR (pc := 93) (ci := 7) (j := 2) (k2 := 4) dX7_count_93 fl_X7_26 (fun _ _ _ _ => rfl) (by decide) rfl (rf_7_2 rfl) ?_
      refine V_getI (pc := 96) (ci := 4) (j := 5) dX7_count_96 fl_X7_240 (fun _ _ _ _ => rfl) (by decide) rfl ?_
      refine V_iret (pc := 99) dX7_count_99 rfl ?_
      exact ⟨congrArg (fun z => some (Value.int z)) (r6), rfl⟩
    · subst hs1
      refine V_tsIn (pc := 1) (off := 99) (tgt := 100) dX7_count_1 (by decide) (by decide) (by decide) (by decide) ?_
      refine V_aload_n (pc := 100) dX7_count_100 rfl rfl ?_
      refine V_getR (pc := 101) (ci := 7) (j := 5) (k2 := 31) dX7_count_101 fl_X7_39 (fun _ _ _ _ => rfl) (by decide) rfl (rf_7_5 rfl) ?_
      refine V_getI (pc := 104) (ci := 6) (j := 3) dX7_count_104 fl_X7_206 (fun _ _ _ _ => rfl) (by decide) rfl ?_
      refine V_iret (pc := 107) dX7_count_107 rfl ?_
      exact ⟨congrArg (fun z => some (Value.int z)) (w4), rfl⟩
    · subst hs1
      refine V_tsIn (pc := 1) (off := 107) (tgt := 108) dX7_count_1 (by decide) (by decide) (by decide) (by decide) ?_
      refine V_aload_n (pc := 108) dX7_count_108 rfl rfl ?_
      refine V_getR (pc := 109) (ci := 7) (j := 0) (k2 := 1) dX7_count_109 fl_X7_12 (fun _ _ _ _ => rfl) (by decide) rfl (rf_7_0 rfl) ?_
      refine V_getI (pc := 112) (ci := 2) (j := 1) dX7_count_112 fl_X7_72 (fun _ _ _ _ => rfl) (by decide) rfl ?_
      refine V_iret (pc := 115) dX7_count_115 rfl ?_
      exact ⟨congrArg (fun z => some (Value.int z)) (p1), rfl⟩
    · subst hs1
      refine V_tsIn (pc := 1) (off := 115) (tgt := 116) dX7_count_1 (by decide) (by decide) (by decide) (by decide) ?_
      refine V_aload_n (pc := 116) dX7_count_116 rfl rfl ?_
      refine V_getI (pc := 117) (ci := 7) (j := 9) dX7_count_117 fl_X7_80 (fun _ _ _ _ => rfl) (by decide) rfl ?_
      refine V_iret (pc := 120) dX7_count_120 rfl ?_
      exact ⟨congrArg (fun z => some (Value.int z)) (a2), rfl⟩
theorem dX7_years_0 : decode cX7_years 0 = .ok (.iload_n 1, 1) := by decide +kernel
theorem dX7_years_1 : decode cX7_years 1 = .ok (.iconst 1, 1) := by decide +kernel
theorem dX7_years_2 : decode cX7_years 2 = .ok (.if_icmp .lt 22, 3) := by decide +kernel
theorem dX7_years_5 : decode cX7_years 5 = .ok (.iload_n 1, 1) := by decide +kernel
theorem dX7_years_6 : decode cX7_years 6 = .ok (.bipush 60, 2) := by decide +kernel
theorem dX7_years_8 : decode cX7_years 8 = .ok (.if_icmp .gt 16, 3) := by decide +kernel
theorem dX7_years_11 : decode cX7_years 11 = .ok (.iload_n 2, 1) := by decide +kernel
theorem dX7_years_12 : decode cX7_years 12 = .ok (.ifCond .lt 12, 3) := by decide +kernel
theorem dX7_years_15 : decode cX7_years 15 = .ok (.iload_n 3, 1) := by decide +kernel
theorem dX7_years_16 : decode cX7_years 16 = .ok (.ifCond .lt 8, 3) := by decide +kernel
theorem dX7_years_19 : decode cX7_years 19 = .ok (.iload_n 3, 1) := by decide +kernel
theorem dX7_years_20 : decode cX7_years 20 = .ok (.iconst 4, 1) := by decide +kernel
theorem dX7_years_21 : decode cX7_years 21 = .ok (.if_icmp .lt 6, 3) := by decide +kernel
theorem dX7_years_24 : decode cX7_years 24 = .ok (.bipush (-102), 2) := by decide +kernel
theorem dX7_years_26 : decode cX7_years 26 = .ok (.ireturn, 1) := by decide +kernel
theorem dX7_years_27 : decode cX7_years 27 = .ok (.aload_n 0, 1) := by decide +kernel
theorem dX7_years_28 : decode cX7_years 28 = .ok (.invokevirtual 103, 3) := by decide +kernel
theorem dX7_years_31 : decode cX7_years 31 = .ok (.ifCond .ne 6, 3) := by decide +kernel
theorem dX7_years_34 : decode cX7_years 34 = .ok (.bipush (-103), 2) := by decide +kernel
theorem dX7_years_36 : decode cX7_years 36 = .ok (.ireturn, 1) := by decide +kernel
theorem dX7_years_37 : decode cX7_years 37 = .ok (.aload_n 0, 1) := by decide +kernel
theorem dX7_years_38 : decode cX7_years 38 = .ok (.getfield 33, 3) := by decide +kernel
theorem dX7_years_41 : decode cX7_years 41 = .ok (.aload_n 0, 1) := by decide +kernel
theorem dX7_years_42 : decode cX7_years 42 = .ok (.getfield 26, 3) := by decide +kernel
theorem dX7_years_45 : decode cX7_years 45 = .ok (.invokevirtual 225, 3) := by decide +kernel
theorem dX7_years_48 : decode cX7_years 48 = .ok (.aload_n 0, 1) := by decide +kernel
theorem dX7_years_49 : decode cX7_years 49 = .ok (.getfield 33, 3) := by decide +kernel
theorem dX7_years_52 : decode cX7_years 52 = .ok (.aload_n 0, 1) := by decide +kernel
theorem dX7_years_53 : decode cX7_years 53 = .ok (.getfield 53, 3) := by decide +kernel
theorem dX7_years_56 : decode cX7_years 56 = .ok (.iload_n 1, 1) := by decide +kernel
theorem dX7_years_57 : decode cX7_years 57 = .ok (.iload_n 2, 1) := by decide +kernel
theorem dX7_years_58 : decode cX7_years 58 = .ok (.invokevirtual 229, 3) := by decide +kernel
theorem dX7_years_61 : decode cX7_years 61 = .ok (.istore 4, 2) := by decide +kernel
theorem dX7_years_63 : decode cX7_years 63 = .ok (.iload_n 3, 1) := by decide +kernel
theorem dX7_years_64 : decode cX7_years 64 = .ok (.tableswitch 52 0 2 #[28, 36, 44], 28) := by decide +kernel
theorem dX7_years_92 : decode cX7_years 92 = .ok (.aload_n 0, 1) := by decide +kernel
theorem dX7_years_93 : decode cX7_years 93 = .ok (.getfield 33, 3) := by decide +kernel
theorem dX7_years_96 : decode cX7_years 96 = .ok (.invokevirtual 155, 3) := by decide +kernel
theorem dX7_years_99 : decode cX7_years 99 = .ok (.ireturn, 1) := by decide +kernel
theorem dX7_years_100 : decode cX7_years 100 = .ok (.aload_n 0, 1) := by decide +kernel
theorem dX7_years_101 : decode cX7_years 101 = .ok (.getfield 33, 3) := by decide +kernel
theorem dX7_years_104 : decode cX7_years 104 = .ok (.invokevirtual 233, 3) := by decide +kernel
theorem dX7_years_107 : decode cX7_years 107 = .ok (.ireturn, 1) := by decide +kernel
theorem dX7_years_108 : decode cX7_years 108 = .ok (.aload_n 0, 1) := by decide +kernel
theorem dX7_years_109 : decode cX7_years 109 = .ok (.getfield 33, 3) := by decide +kernel
theorem dX7_years_112 : decode cX7_years 112 = .ok (.invokevirtual 158, 3) := by decide +kernel
theorem dX7_years_115 : decode cX7_years 115 = .ok (.ireturn, 1) := by decide +kernel
theorem dX7_years_116 : decode cX7_years 116 = .ok (.iload 4, 2) := by decide +kernel
theorem dX7_years_118 : decode cX7_years 118 = .ok (.ireturn, 1) := by decide +kernel
set_option maxHeartbeats 4000000 in
set_option maxRecDepth 100000 in
theorem c_X7_years {l : Launch} {g : GW} {a : AT} {x y z : Int32} (μ : Mm) (hA : RC μ a)  : Con l g yX7_years cX7_years 5 (some .int) 5 [.ref 0, .int x, .int y, .int z] μ (fun r μ' => r = some (.int (fYears a x y z)) ∧ RC μ' a ∧ FrC μ μ') := by
  obtain ⟨a1, a2, a3, a4, ⟨b, hb, hcur, hdrf, hB⟩, hS, hK, hD, hW⟩ := id hA
  obtain ⟨r1, r2, r3, r4, r5, r6, r7, r8, r9⟩ := id hS
  obtain ⟨w1, w2, w3, w4, w5, w6⟩ := id hW
  obtain ⟨p1, p2, p3⟩ := id a1
  obtain ⟨hb1, hb2, hb3, hb4, hb5, hb6, hrow⟩ := bkF hb
  have hship : ∀ i, i < 6 → 4 + 1 + 1 + i < 88 ∧ kt (4 + 1 + 1 + i) = 5 := (seaF (Or.inl rfl)).2.2.2.2.2.2
  have h4 : (4 : Nat) = 4 ∨ (4 : Nat) = 13 ∨ (4 : Nat) = 22 := Or.inl rfl
  refine Con.of [.ref 0, .int x, .int y, .int z, .null] 1 (by decide +kernel) (Nat.le_of_ble_eq_true rfl) rfl ?_
  refine V_iload_n (pc := 0) dX7_years_0 rfl rfl ?_
  refine V_iconst (pc := 1) (v := 1) dX7_years_1 (by decide) ?_
  refine V_icmplt (pc := 2) (tgt := 24) dX7_years_2 (by decide) (fun h2 => ?_) (fun h2 => ?_)
  · have e9 : inD x 60 = false := inD_f1 h2
    refine V_bipush (pc := 24) (v := (-102)) dX7_years_24 (by decide) ?_
    refine V_iret (pc := 26) dX7_years_26 rfl ?_
    refine ⟨congrArg (fun z => some (Value.int z)) ?_, hA, FrC.rf⟩
    first
    | (simp [fYears, e9]; done)
    | (simp [fYears, h12]; done)
    | (simp [fYears, e8]; done)
  refine V_iload_n (pc := 5) dX7_years_5 rfl rfl ?_
  refine V_bipush (pc := 6) (v := 60) dX7_years_6 (by decide) ?_
  refine V_icmpgt (pc := 8) (tgt := 24) dX7_years_8 (by decide) (fun h8 => ?_) (fun h8 => ?_)
  · have e9 : inD x 60 = false := inD_f2 (M := 60) (by decide) h8
    refine V_bipush (pc := 24) (v := (-102)) dX7_years_24 (by decide) ?_
    refine V_iret (pc := 26) dX7_years_26 rfl ?_
    refine ⟨congrArg (fun z => some (Value.int z)) ?_, hA, FrC.rf⟩
    first
    | (simp [fYears, e9]; done)
    | (simp [fYears, h12]; done)
    | (simp [fYears, e8]; done)
  have e9 : inD x 60 = true := inD_t (M := 60) (by decide) h2 h8
  refine V_iload_n (pc := 11) dX7_years_11 rfl rfl ?_
  refine V_iflt (pc := 12) (tgt := 24) dX7_years_12 (by decide) (fun h12 => ?_) (fun h12 => ?_)
  · refine V_bipush (pc := 24) (v := (-102)) dX7_years_24 (by decide) ?_
    refine V_iret (pc := 26) dX7_years_26 rfl ?_
    refine ⟨congrArg (fun z => some (Value.int z)) ?_, hA, FrC.rf⟩
    first
    | (simp [fYears, e9]; done)
    | (simp [fYears, h12]; done)
    | (simp [fYears, e8]; done)
  refine V_iload_n (pc := 15) dX7_years_15 rfl rfl ?_
  refine V_iflt (pc := 16) (tgt := 24) dX7_years_16 (by decide) (fun h16 => ?_) (fun h16 => ?_)
  · have e8 : inN z 4 = false := inN_f1 h16
    refine V_bipush (pc := 24) (v := (-102)) dX7_years_24 (by decide) ?_
    refine V_iret (pc := 26) dX7_years_26 rfl ?_
    refine ⟨congrArg (fun z => some (Value.int z)) ?_, hA, FrC.rf⟩
    first
    | (simp [fYears, e9]; done)
    | (simp [fYears, h12]; done)
    | (simp [fYears, e8]; done)
  refine V_iload_n (pc := 19) dX7_years_19 rfl rfl ?_
  refine V_iconst (pc := 20) (v := 4) dX7_years_20 (by decide) ?_
  refine V_icmplt (pc := 21) (tgt := 27) dX7_years_21 (by decide) (fun h21 => ?_) (fun h21 => ?_)
  · have e8 : inN z 4 = true := inN_t (M := 4) (by decide) h16 (fun q => absurd h21 (by rw [Int32.lt_iff_toInt_lt]; rw [Int32.le_iff_toInt_le] at q; omega))
    refine V_aload_n (pc := 27) dX7_years_27 rfl rfl ?_
    refine V_inv0 (pc := 28) (ci := 7) dX7_years_28 ml_X7_103 (by decide) rfl ⟨by decide, rfl⟩ (by first | decide | omega) (Nat.le_of_ble_eq_true rfl) (c_X7_hasBook μ hA) ?_
    rintro _ μ2 ⟨rfl, hμ⟩
    obtain rfl := hμ.symm
    refine V_ifne (pc := 31) (tgt := 37) dX7_years_31 (by decide) (fun h31 => ?_) (fun h31 => ?_)
    · have h31 := of_decide_eq_true (bI_ne h31)
      obtain ⟨d, hd, rfl⟩ := inD_of (by decide) e9
      obtain ⟨s, hs, rfl⟩ := nI_of h12
      obtain ⟨q, hq, rfl⟩ := inN_of (by decide) e8
      obtain ⟨τ, hD2⟩ := hD
      have e7 : fYears a (nI (d + 1)) (nI s) (nI q) = (let w := yrT (aTn a) (aOw a) (mkSea (sN (aS a)) (sK (aS a)) (sP (aS a)) (fun _ => 0) (sV (aS a)) (sT (aS a)) (sS (aS a)) (sD (aS a)) (sA (aS a)) (sG (aS a))) s (d + 1); if q = 0 then nI (homeT (sP w.1) (sN w.1)) else if q = 1 then nI (sumP (sP w.1) (sN w.1)) else if q = 2 then nI (cntB (sS w.1)) else nI w.2) := by
        simp only [fYears, e9, e8, h12, not_false_eq_true, decide_true, Bool.and_self, if_true, nn_nI (j := d + 1) (by omega), nn_nI (j := s) hs, nn_nI (j := q) (by omega)]
        rw [if_pos h31]
      rw [e7]
      clear e7
      refine V_aload_n (pc := 37) dX7_years_37 rfl rfl ?_
      refine V_getR (pc := 38) (ci := 7) (j := 4) (k2 := 22) dX7_years_38 fl_X7_33 (fun _ _ _ _ => rfl) (by decide) rfl (rf_7_4 rfl) ?_
      refine V_aload_n (pc := 41) dX7_years_41 rfl rfl ?_
      refine V_getR (pc := 42) (ci := 7) (j := 2) (k2 := 4) dX7_years_42 fl_X7_26 (fun _ _ _ _ => rfl) (by decide) rfl (rf_7_2 rfl) ?_
      refine V_inv1 (pc := 45) (ci := 4) dX7_years_45 ml_X7_225 (by decide) rfl ⟨by decide, rfl⟩ (by first | decide | omega) (Nat.le_of_ble_eq_true rfl) (c_X4_copyFrom μ (Or.inr (Or.inr rfl)) hD2 h4 hS (by decide)) ?_
      rintro _ μ1 ⟨rfl, k1, k2⟩
      have hB1 : BkR μ1 b (aTn a) (aOw a) := hB.kept k2 (fun k h1 h2 q => by rcases q with q | q <;> omega)
      refine V_aload_n (pc := 48) dX7_years_48 rfl rfl ?_
      refine V_getR (pc := 49) (ci := 7) (j := 4) (k2 := 22) dX7_years_49 fl_X7_33 (fun _ _ _ _ => rfl) (by decide) rfl (rf_7_4 rfl) ?_
      refine V_aload_n (pc := 52) dX7_years_52 rfl rfl ?_
      refine V_getR (pc := 53) (ci := 7) (j := 7) (k2 := b) dX7_years_53 fl_X7_53 (fun _ _ _ _ => rfl) (by decide) rfl ((rf_7_7 rfl).trans (by rw [k2.2]; exact hcur)) ?_
      refine V_iload_n (pc := 56) dX7_years_56 rfl rfl ?_
      refine V_iload_n (pc := 57) dX7_years_57 rfl rfl ?_
      refine V_inv3 (pc := 58) (ci := 4) dX7_years_58 ml_X7_229 (by decide) rfl ⟨by decide, rfl⟩ (by first | decide | omega) (Nat.le_of_ble_eq_true rfl) (c_X4_passYears (n := d + 1) (x := s) μ1 (Or.inr (Or.inr rfl)) k1 hb hB1 hd hs) ?_
      rintro _ μ2 ⟨rfl, m1, m2⟩
      have k4 : FrM (seaS 22) μ μ2 := k2.tr m2 (fun _ q => q)
      have hR2 : RC μ2 a := hA.kept k4 (fun k hk => by rcases hk with q | q <;> omega) ⟨_, m1⟩
      have hC2 : FrC μ μ2 := k4.C (fun k hk => by rcases hk with q | q <;> omega)
      refine V_istore4 (pc := 61) dX7_years_61 (by decide) rfl ?_
      refine V_iload_n (pc := 63) dX7_years_63 rfl rfl ?_
      have hsel : q = 0 ∨ q = 1 ∨ q = 2 ∨ q = 3 := by omega
      rcases hsel with hs64 | hs64 | hs64 | hs64
      · subst hs64
        refine V_tsIn (pc := 64) (off := 28) (tgt := 92) dX7_years_64 (by decide) (by decide) (by decide) (by decide) ?_
        refine V_aload_n (pc := 92) dX7_years_92 rfl rfl ?_
        refine V_getR (pc := 93) (ci := 7) (j := 4) (k2 := 22) dX7_years_93 fl_X7_33 (fun _ _ _ _ => rfl) (by decide) rfl (rf_7_4 rfl) ?_
        refine V_inv0 (pc := 96) (ci := 4) dX7_years_96 ml_X7_155 (by decide) rfl ⟨by decide, rfl⟩ (by first | decide | omega) (Nat.le_of_ble_eq_true rfl) (c_X4_homeCount μ2 (Or.inr (Or.inr rfl)) m1) ?_
        rintro _ μ3 ⟨rfl, hμ⟩
        obtain rfl := hμ.symm
        refine V_iret (pc := 99) dX7_years_99 rfl ?_
        exact ⟨rfl, hR2, hC2⟩
      · subst hs64
        refine V_tsIn (pc := 64) (off := 36) (tgt := 100) dX7_years_64 (by decide) (by decide) (by decide) (by decide) ?_
        refine V_aload_n (pc := 100) dX7_years_100 rfl rfl ?_
        refine V_getR (pc := 101) (ci := 7) (j := 4) (k2 := 22) dX7_years_101 fl_X7_33 (fun _ _ _ _ => rfl) (by decide) rfl (rf_7_4 rfl) ?_
        refine V_inv0 (pc := 104) (ci := 4) dX7_years_104 ml_X7_233 (by decide) rfl ⟨by decide, rfl⟩ (by first | decide | omega) (Nat.le_of_ble_eq_true rfl) (c_X4_placesTogether μ2 (Or.inr (Or.inr rfl)) m1) ?_
        rintro _ μ3 ⟨rfl, hμ⟩
        obtain rfl := hμ.symm
        refine V_iret (pc := 107) dX7_years_107 rfl ?_
        exact ⟨rfl, hR2, hC2⟩
      · subst hs64
        refine V_tsIn (pc := 64) (off := 44) (tgt := 108) dX7_years_64 (by decide) (by decide) (by decide) (by decide) ?_
        refine V_aload_n (pc := 108) dX7_years_108 rfl rfl ?_
        refine V_getR (pc := 109) (ci := 7) (j := 4) (k2 := 22) dX7_years_109 fl_X7_33 (fun _ _ _ _ => rfl) (by decide) rfl (rf_7_4 rfl) ?_
        refine V_inv0 (pc := 112) (ci := 4) dX7_years_112 ml_X7_158 (by decide) rfl ⟨by decide, rfl⟩ (by first | decide | omega) (Nat.le_of_ble_eq_true rfl) (c_X4_spentCount μ2 (Or.inr (Or.inr rfl)) m1) ?_
        rintro _ μ3 ⟨rfl, hμ⟩
        obtain rfl := hμ.symm
        refine V_iret (pc := 115) dX7_years_115 rfl ?_
        exact ⟨rfl, hR2, hC2⟩
      subst hs64
      refine V_tsOut (pc := 64) (tgt := 116) dX7_years_64 (by decide) (by decide) ?_
      refine V_iload (pc := 116) dX7_years_116 rfl ?_
      refine V_iret (pc := 118) dX7_years_118 rfl ?_
      exact ⟨rfl, hR2, hC2⟩
    have h31 := of_decide_eq_false (bI_e h31)
    refine V_bipush (pc := 34) (v := (-103)) dX7_years_34 (by decide) ?_
    refine V_iret (pc := 36) dX7_years_36 rfl ?_
    refine ⟨congrArg (fun z => some (Value.int z)) ?_, hA, FrC.rf⟩
    simp [fYears, e9, e8, h12, h31]
  have e8 : inN z 4 = false := inN_f2 (M := 4) (by decide) (by rw [Int32.lt_iff_toInt_lt] at h21; rw [Int32.le_iff_toInt_le]; omega)
  refine V_bipush (pc := 24) (v := (-102)) dX7_years_24 (by decide) ?_
  refine V_iret (pc := 26) dX7_years_26 rfl ?_
  refine ⟨congrArg (fun z => some (Value.int z)) ?_, hA, FrC.rf⟩
  first
  | (simp [fYears, e9]; done)
  | (simp [fYears, h12]; done)
  | (simp [fYears, e8]; done)
theorem dX7_mixBook_0 : decode cX7_mixBook 0 = .ok (.lload_n 1, 1) := by decide +kernel
theorem dX7_mixBook_1 : decode cX7_mixBook 1 = .ok (.lstore_n 3, 1) := by decide +kernel
theorem dX7_mixBook_2 : decode cX7_mixBook 2 = .ok (.iconst 0, 1) := by decide +kernel
theorem dX7_mixBook_3 : decode cX7_mixBook 3 = .ok (.istore 5, 2) := by decide +kernel
theorem dX7_mixBook_5 : decode cX7_mixBook 5 = .ok (.iload 5, 2) := by decide +kernel
theorem dX7_mixBook_7 : decode cX7_mixBook 7 = .ok (.iconst 4, 1) := by decide +kernel
theorem dX7_mixBook_8 : decode cX7_mixBook 8 = .ok (.if_icmp .gt 43, 3) := by decide +kernel
theorem dX7_mixBook_11 : decode cX7_mixBook 11 = .ok (.iconst 0, 1) := by decide +kernel
theorem dX7_mixBook_12 : decode cX7_mixBook 12 = .ok (.istore 6, 2) := by decide +kernel
theorem dX7_mixBook_14 : decode cX7_mixBook 14 = .ok (.iload 6, 2) := by decide +kernel
theorem dX7_mixBook_16 : decode cX7_mixBook 16 = .ok (.iconst 3, 1) := by decide +kernel
theorem dX7_mixBook_17 : decode cX7_mixBook 17 = .ok (.if_icmp .ge 28, 3) := by decide +kernel
theorem dX7_mixBook_20 : decode cX7_mixBook 20 = .ok (.lload_n 3, 1) := by decide +kernel
theorem dX7_mixBook_21 : decode cX7_mixBook 21 = .ok (.aload_n 0, 1) := by decide +kernel
theorem dX7_mixBook_22 : decode cX7_mixBook 22 = .ok (.getfield 53, 3) := by decide +kernel
theorem dX7_mixBook_25 : decode cX7_mixBook 25 = .ok (.getfield 106, 3) := by decide +kernel
theorem dX7_mixBook_28 : decode cX7_mixBook 28 = .ok (.iload 5, 2) := by decide +kernel
theorem dX7_mixBook_30 : decode cX7_mixBook 30 = .ok (.aaload, 1) := by decide +kernel
theorem dX7_mixBook_31 : decode cX7_mixBook 31 = .ok (.iload 6, 2) := by decide +kernel
theorem dX7_mixBook_33 : decode cX7_mixBook 33 = .ok (.iaload, 1) := by decide +kernel
theorem dX7_mixBook_34 : decode cX7_mixBook 34 = .ok (.i2l, 1) := by decide +kernel
theorem dX7_mixBook_35 : decode cX7_mixBook 35 = .ok (.invokestatic 252, 3) := by decide +kernel
theorem dX7_mixBook_38 : decode cX7_mixBook 38 = .ok (.lstore_n 3, 1) := by decide +kernel
theorem dX7_mixBook_39 : decode cX7_mixBook 39 = .ok (.iinc 6 1, 3) := by decide +kernel
theorem dX7_mixBook_42 : decode cX7_mixBook 42 = .ok (.goto (-28), 3) := by decide +kernel
theorem dX7_mixBook_45 : decode cX7_mixBook 45 = .ok (.iinc 5 1, 3) := by decide +kernel
theorem dX7_mixBook_48 : decode cX7_mixBook 48 = .ok (.goto (-43), 3) := by decide +kernel
theorem dX7_mixBook_51 : decode cX7_mixBook 51 = .ok (.iconst 0, 1) := by decide +kernel
theorem dX7_mixBook_52 : decode cX7_mixBook 52 = .ok (.istore 5, 2) := by decide +kernel
theorem dX7_mixBook_54 : decode cX7_mixBook 54 = .ok (.iload 5, 2) := by decide +kernel
theorem dX7_mixBook_56 : decode cX7_mixBook 56 = .ok (.bipush 6, 2) := by decide +kernel
theorem dX7_mixBook_58 : decode cX7_mixBook 58 = .ok (.if_icmp .ge 25, 3) := by decide +kernel
theorem dX7_mixBook_61 : decode cX7_mixBook 61 = .ok (.lload_n 3, 1) := by decide +kernel
theorem dX7_mixBook_62 : decode cX7_mixBook 62 = .ok (.aload_n 0, 1) := by decide +kernel
theorem dX7_mixBook_63 : decode cX7_mixBook 63 = .ok (.getfield 53, 3) := by decide +kernel
theorem dX7_mixBook_66 : decode cX7_mixBook 66 = .ok (.getfield 113, 3) := by decide +kernel
theorem dX7_mixBook_69 : decode cX7_mixBook 69 = .ok (.iload 5, 2) := by decide +kernel
theorem dX7_mixBook_71 : decode cX7_mixBook 71 = .ok (.iaload, 1) := by decide +kernel
theorem dX7_mixBook_72 : decode cX7_mixBook 72 = .ok (.i2l, 1) := by decide +kernel
theorem dX7_mixBook_73 : decode cX7_mixBook 73 = .ok (.invokestatic 252, 3) := by decide +kernel
theorem dX7_mixBook_76 : decode cX7_mixBook 76 = .ok (.lstore_n 3, 1) := by decide +kernel
theorem dX7_mixBook_77 : decode cX7_mixBook 77 = .ok (.iinc 5 1, 3) := by decide +kernel
theorem dX7_mixBook_80 : decode cX7_mixBook 80 = .ok (.goto (-26), 3) := by decide +kernel
theorem dX7_mixBook_83 : decode cX7_mixBook 83 = .ok (.lload_n 3, 1) := by decide +kernel
theorem dX7_mixBook_84 : decode cX7_mixBook 84 = .ok (.aload_n 0, 1) := by decide +kernel
theorem dX7_mixBook_85 : decode cX7_mixBook 85 = .ok (.getfield 53, 3) := by decide +kernel
theorem dX7_mixBook_88 : decode cX7_mixBook 88 = .ok (.invokevirtual 196, 3) := by decide +kernel
theorem dX7_mixBook_91 : decode cX7_mixBook 91 = .ok (.i2l, 1) := by decide +kernel
theorem dX7_mixBook_92 : decode cX7_mixBook 92 = .ok (.invokestatic 252, 3) := by decide +kernel
theorem dX7_mixBook_95 : decode cX7_mixBook 95 = .ok (.lreturn, 1) := by decide +kernel
set_option maxHeartbeats 4000000 in
set_option maxRecDepth 100000 in
theorem c_X7_mixBook {l : Launch} {g : GW} {a : AT} {h : Int64} (μ : Mm) (hA : RC μ a)  : Con l g yX7_mixBook cX7_mixBook 7 (some .long) 3 [.ref 0, .long h] μ (fun r μ' => r = some (.long (dBk a h)) ∧ μ' = μ) := by
  obtain ⟨a1, a2, a3, a4, ⟨b, hb, hcur, hdrf, hB⟩, hS, hK, hD, hW⟩ := id hA
  obtain ⟨r1, r2, r3, r4, r5, r6, r7, r8, r9⟩ := id hS
  obtain ⟨w1, w2, w3, w4, w5, w6⟩ := id hW
  obtain ⟨p1, p2, p3⟩ := id a1
  obtain ⟨hb1, hb2, hb3, hb4, hb5, hb6, hrow⟩ := bkF hb
  have hship : ∀ i, i < 6 → 4 + 1 + 1 + i < 88 ∧ kt (4 + 1 + 1 + i) = 5 := (seaF (Or.inl rfl)).2.2.2.2.2.2
  have h4 : (4 : Nat) = 4 ∨ (4 : Nat) = 13 ∨ (4 : Nat) = 22 := Or.inl rfl
  have hf : ∀ w s, s < 3 → (nI (aTn a ((3 * w + s) / 3) ((3 * w + s) % 3))).toInt64 = (nI (aTn a w s)).toInt64 := fun w s hs => by rw [show (3 * w + s) / 3 = w by omega, show (3 * w + s) % 3 = s by omega]
  refine Con.of [.ref 0, .long h, .null, .null, .null, .null, .null] 4 (by decide +kernel) (Nat.le_of_ble_eq_true rfl) rfl ?_
  refine V_lload_n (pc := 0) dX7_mixBook_0 rfl rfl ?_
  refine V_lstore3 (pc := 1) dX7_mixBook_1 (by decide) rfl ?_
  refine V_iconst (pc := 2) (v := 0) dX7_mixBook_2 (by decide) ?_
  refine V_istore5 (pc := 3) dX7_mixBook_3 (by decide) rfl ?_
  have loopA : ∀ (nA w : Nat) (u : Int64) (y6 : Value), w ≤ 5 → 5 < w + nA → (u = mxF (fun k => (nI (aTn a (k / 3) (k % 3))).toInt64) h (3 * w)) → V l g RX7 cX7_mixBook 7 (some .long) 3 5 [.ref 0, .long h, .null, .long u, .null, .int (nI w), y6] [] μ (fun r μ' => r = some (.long (dBk a h)) ∧ μ' = μ) := by
    intro nA
    induction nA with
    | zero => intro w u y6 h1 h2; exact absurd h2 (by omega)
    | succ nA ihA =>
      intro w u y6 hleA hfuA hu
      refine V_iload (pc := 5) dX7_mixBook_5 rfl ?_
      refine V_iconst (pc := 7) (v := 4) dX7_mixBook_7 (by decide) ?_
      refine V_icmpgt (pc := 8) (tgt := 51) dX7_mixBook_8 (by decide) (fun h8 => ?_) (fun h8 => ?_)
      · have h8 := (nI_ltI (a := 4) (b := w) (by decide) (by omega)).mp h8; obtain rfl : w = 5 := by omega
        refine V_iconst (pc := 51) (v := 0) dX7_mixBook_51 (by decide) ?_
        refine V_istore5 (pc := 52) dX7_mixBook_52 (by decide) rfl ?_
        have loopC : ∀ (nC n : Nat) (v : Int64) (y6 : Value), n ≤ 6 → 6 < n + nC → (v = mxF (fun n => (cI (aOw a n)).toInt64) (mxF (fun k => (nI (aTn a (k / 3) (k % 3))).toInt64) h 15) n) → V l g RX7 cX7_mixBook 7 (some .long) 3 54 [.ref 0, .long h, .null, .long v, .null, .int (nI n), y6] [] μ (fun r μ' => r = some (.long (dBk a h)) ∧ μ' = μ) := by
          intro nC
          induction nC with
          | zero => intro n v y6 h1 h2; exact absurd h2 (by omega)
          | succ nC ihC =>
            intro n v y6 hleC hfuC hv
            refine V_iload (pc := 54) dX7_mixBook_54 rfl ?_
            refine V_bipush (pc := 56) (v := 6) dX7_mixBook_56 (by decide) ?_
            refine V_icmpge (pc := 58) (tgt := 83) dX7_mixBook_58 (by decide) (fun h58 => ?_) (fun h58 => ?_)
            · have h58 := (nI_leI (a := 6) (b := n) (by decide) (by omega)).mp h58; obtain rfl : n = 6 := by omega
              refine V_lload_n (pc := 83) dX7_mixBook_83 rfl rfl ?_
              refine V_aload_n (pc := 84) dX7_mixBook_84 rfl rfl ?_
              refine V_getR (pc := 85) (ci := 7) (j := 7) (k2 := b) dX7_mixBook_85 fl_X7_53 (fun _ _ _ _ => rfl) (by decide) rfl ((rf_7_7 rfl).trans hcur) ?_
              refine V_inv0 (pc := 88) (ci := 0) dX7_mixBook_88 ml_X7_196 (by first | decide | omega) (by first | rfl | assumption | exact (hship _ (by omega)).2 | exact (hrow _ (by omega)).2.1 | decide) ⟨by decide, rfl⟩ (by first | decide | omega) (Nat.le_of_ble_eq_true rfl) (c_X0_tellingSign μ hb hB) ?_
              rintro _ μ2 ⟨rfl, hμ⟩
              obtain rfl := hμ.symm
              refine V_i2l (pc := 91) dX7_mixBook_91 ?_
              refine V_ins2 (pc := 92) dX7_mixBook_92 ml_X7_252 (by first | decide | omega) (Nat.le_of_ble_eq_true rfl) (c_X7_mix μ) ?_
              rintro _ μ2 ⟨rfl, hμ⟩
              obtain rfl := hμ.symm
              refine V_lret (pc := 95) dX7_mixBook_95 rfl ?_
              exact ⟨by rw [hv]; rfl, rfl⟩
            have hlt : n < 6 := nI_l3 (a := 6) (by decide) (by omega) h58
            refine V_lload_n (pc := 61) dX7_mixBook_61 rfl rfl ?_
            refine V_aload_n (pc := 62) dX7_mixBook_62 rfl rfl ?_
            refine V_getR (pc := 63) (ci := 7) (j := 7) (k2 := b) dX7_mixBook_63 fl_X7_53 (fun _ _ _ _ => rfl) (by decide) rfl ((rf_7_7 rfl).trans hcur) ?_
            refine V_getR (pc := 66) (ci := 0) (j := 1) (k2 := (b + 7)) dX7_mixBook_66 fl_X7_113 (fun _ _ _ _ => rfl) (by first | decide | omega) (by first | rfl | assumption | exact (hship _ (by omega)).2 | exact (hrow _ (by omega)).2.1 | decide) (rf_0_1 (by first | rfl | assumption | exact (hship _ (by omega)).2 | exact (hrow _ (by omega)).2.1 | decide)) ?_
            refine V_iload (pc := 69) dX7_mixBook_69 rfl ?_
            refine V_iald (pc := 71) (j := n) dX7_mixBook_71 (by first | decide | omega) (by first | rfl | assumption | exact (hship _ (by omega)).2 | exact (hrow _ (by omega)).2.1 | decide) rfl (by omega) ?_
            rw [hB.2.1 n (by omega)]
            refine V_i2l (pc := 72) dX7_mixBook_72 ?_
            refine V_ins2 (pc := 73) dX7_mixBook_73 ml_X7_252 (by first | decide | omega) (Nat.le_of_ble_eq_true rfl) (c_X7_mix μ) ?_
            rintro _ μ2 ⟨rfl, hμ⟩
            obtain rfl := hμ.symm
            refine V_lstore3 (pc := 76) dX7_mixBook_76 (by decide) rfl ?_
            refine V_iinc5 (pc := 77) (v := nI (n + 1)) dX7_mixBook_77 (nI_1 n) (by decide) rfl ?_
            refine V_goto (pc := 80) (tgt := 54) dX7_mixBook_80 (by decide) ?_
            exact ihC (n + 1) _ _ (by omega) (by omega) (by rw [hv]; rfl)
        exact loopC (6 + 1) 0 _ _ (by omega) (by omega) hu
      have hlt : w < 5 := by have := mt (nI_ltI (a := 4) (b := w) (by decide) (by omega)).mpr h8; omega
      refine V_iconst (pc := 11) (v := 0) dX7_mixBook_11 (by decide) ?_
      refine V_istore6 (pc := 12) dX7_mixBook_12 (by decide) rfl ?_
      have loopB : ∀ (nB s : Nat) (v : Int64), s ≤ 3 → 3 < s + nB → (v = mxF (fun k => (nI (aTn a (k / 3) (k % 3))).toInt64) h (3 * w + s)) → V l g RX7 cX7_mixBook 7 (some .long) 3 14 [.ref 0, .long h, .null, .long v, .null, .int (nI w), .int (nI s)] [] μ (fun r μ' => r = some (.long (dBk a h)) ∧ μ' = μ) := by
        intro nB
        induction nB with
        | zero => intro s v h1 h2; exact absurd h2 (by omega)
        | succ nB ihB =>
          intro s v hleB hfuB hv
          refine V_iload (pc := 14) dX7_mixBook_14 rfl ?_
          refine V_iconst (pc := 16) (v := 3) dX7_mixBook_16 (by decide) ?_
          refine V_icmpge (pc := 17) (tgt := 45) dX7_mixBook_17 (by decide) (fun h17 => ?_) (fun h17 => ?_)
          · have h17 := (nI_leI (a := 3) (b := s) (by decide) (by omega)).mp h17; obtain rfl : s = 3 := by omega
            refine V_iinc5 (pc := 45) (v := nI (w + 1)) dX7_mixBook_45 (nI_1 w) (by decide) rfl ?_
            refine V_goto (pc := 48) (tgt := 5) dX7_mixBook_48 (by decide) ?_
            exact ihA (w + 1) _ _ (by omega) (by omega) hv
          have hlt : s < 3 := nI_l3 (a := 3) (by decide) (by omega) h17
          refine V_lload_n (pc := 20) dX7_mixBook_20 rfl rfl ?_
          refine V_aload_n (pc := 21) dX7_mixBook_21 rfl rfl ?_
          refine V_getR (pc := 22) (ci := 7) (j := 7) (k2 := b) dX7_mixBook_22 fl_X7_53 (fun _ _ _ _ => rfl) (by decide) rfl ((rf_7_7 rfl).trans hcur) ?_
          refine V_getR (pc := 25) (ci := 0) (j := 0) (k2 := (b + 1)) dX7_mixBook_25 fl_X7_106 (fun _ _ _ _ => rfl) (by first | decide | omega) (by first | rfl | assumption | exact (hship _ (by omega)).2 | exact (hrow _ (by omega)).2.1 | decide) (rf_0_0 (by first | rfl | assumption | exact (hship _ (by omega)).2 | exact (hrow _ (by omega)).2.1 | decide)) ?_
          refine V_iload (pc := 28) dX7_mixBook_28 rfl ?_
          refine V_aald15 (pc := 30) (j := w) dX7_mixBook_30 (by first | decide | omega) (by first | rfl | assumption | exact (hship _ (by omega)).2 | exact (hrow _ (by omega)).2.1 | decide) rfl (by omega) ?_
          refine V_iload (pc := 31) dX7_mixBook_31 rfl ?_
          refine V_iald (pc := 33) (j := s) dX7_mixBook_33 (by first | decide | omega) (by first | rfl | assumption | exact (hship _ (by omega)).2 | exact (hrow _ (by omega)).2.1 | decide) rfl (by have := (hrow w (by omega)).2.2; omega) ?_
          rw [hB.1 w s (by omega) (by omega)]
          refine V_i2l (pc := 34) dX7_mixBook_34 ?_
          refine V_ins2 (pc := 35) dX7_mixBook_35 ml_X7_252 (by first | decide | omega) (Nat.le_of_ble_eq_true rfl) (c_X7_mix μ) ?_
          rintro _ μ2 ⟨rfl, hμ⟩
          obtain rfl := hμ.symm
          refine V_lstore3 (pc := 38) dX7_mixBook_38 (by decide) rfl ?_
          refine V_iinc6 (pc := 39) (v := nI (s + 1)) dX7_mixBook_39 (nI_1 s) (by decide) rfl ?_
          refine V_goto (pc := 42) (tgt := 14) dX7_mixBook_42 (by decide) ?_
          exact ihB (s + 1) _ (by omega) (by omega) (by rw [hv, ← hf w s (by omega)]; rfl)
      exact loopB (3 + 1) 0 _ (by omega) (by omega) hu
  exact loopA (5 + 1) 0 _ _ (by omega) (by omega) rfl
theorem dX7_mixShip_0 : decode cX7_mixShip 0 = .ok (.lload_n 1, 1) := by decide +kernel
theorem dX7_mixShip_1 : decode cX7_mixShip 1 = .ok (.lstore 4, 2) := by decide +kernel
theorem dX7_mixShip_3 : decode cX7_mixShip 3 = .ok (.iconst 0, 1) := by decide +kernel
theorem dX7_mixShip_4 : decode cX7_mixShip 4 = .ok (.istore 6, 2) := by decide +kernel
theorem dX7_mixShip_6 : decode cX7_mixShip 6 = .ok (.iload 6, 2) := by decide +kernel
theorem dX7_mixShip_8 : decode cX7_mixShip 8 = .ok (.iconst 5, 1) := by decide +kernel
theorem dX7_mixShip_9 : decode cX7_mixShip 9 = .ok (.if_icmp .ge 24, 3) := by decide +kernel
theorem dX7_mixShip_12 : decode cX7_mixShip 12 = .ok (.lload 4, 2) := by decide +kernel
theorem dX7_mixShip_14 : decode cX7_mixShip 14 = .ok (.aload_n 0, 1) := by decide +kernel
theorem dX7_mixShip_15 : decode cX7_mixShip 15 = .ok (.iload_n 3, 1) := by decide +kernel
theorem dX7_mixShip_16 : decode cX7_mixShip 16 = .ok (.iload 6, 2) := by decide +kernel
theorem dX7_mixShip_18 : decode cX7_mixShip 18 = .ok (.invokevirtual 272, 3) := by decide +kernel
theorem dX7_mixShip_21 : decode cX7_mixShip 21 = .ok (.i2l, 1) := by decide +kernel
theorem dX7_mixShip_22 : decode cX7_mixShip 22 = .ok (.invokestatic 252, 3) := by decide +kernel
theorem dX7_mixShip_25 : decode cX7_mixShip 25 = .ok (.lstore 4, 2) := by decide +kernel
theorem dX7_mixShip_27 : decode cX7_mixShip 27 = .ok (.iinc 6 1, 3) := by decide +kernel
theorem dX7_mixShip_30 : decode cX7_mixShip 30 = .ok (.goto (-24), 3) := by decide +kernel
theorem dX7_mixShip_33 : decode cX7_mixShip 33 = .ok (.lload 4, 2) := by decide +kernel
theorem dX7_mixShip_35 : decode cX7_mixShip 35 = .ok (.aload_n 0, 1) := by decide +kernel
theorem dX7_mixShip_36 : decode cX7_mixShip 36 = .ok (.iload_n 3, 1) := by decide +kernel
theorem dX7_mixShip_37 : decode cX7_mixShip 37 = .ok (.iconst 2, 1) := by decide +kernel
theorem dX7_mixShip_38 : decode cX7_mixShip 38 = .ok (.iconst 0, 1) := by decide +kernel
theorem dX7_mixShip_39 : decode cX7_mixShip 39 = .ok (.invokevirtual 275, 3) := by decide +kernel
theorem dX7_mixShip_42 : decode cX7_mixShip 42 = .ok (.invokestatic 252, 3) := by decide +kernel
theorem dX7_mixShip_45 : decode cX7_mixShip 45 = .ok (.lstore 4, 2) := by decide +kernel
theorem dX7_mixShip_47 : decode cX7_mixShip 47 = .ok (.lload 4, 2) := by decide +kernel
theorem dX7_mixShip_49 : decode cX7_mixShip 49 = .ok (.aload_n 0, 1) := by decide +kernel
theorem dX7_mixShip_50 : decode cX7_mixShip 50 = .ok (.iload_n 3, 1) := by decide +kernel
theorem dX7_mixShip_51 : decode cX7_mixShip 51 = .ok (.iconst 2, 1) := by decide +kernel
theorem dX7_mixShip_52 : decode cX7_mixShip 52 = .ok (.iconst 1, 1) := by decide +kernel
theorem dX7_mixShip_53 : decode cX7_mixShip 53 = .ok (.invokevirtual 275, 3) := by decide +kernel
theorem dX7_mixShip_56 : decode cX7_mixShip 56 = .ok (.invokestatic 252, 3) := by decide +kernel
theorem dX7_mixShip_59 : decode cX7_mixShip 59 = .ok (.lreturn, 1) := by decide +kernel
set_option maxHeartbeats 4000000 in
set_option maxRecDepth 100000 in
theorem c_X7_mixShip {l : Launch} {g : GW} {a : AT} {h : Int64} {i : Nat} (μ : Mm) (hA : RC μ a) (hi : i < sN (aS a)) : Con l g yX7_mixShip cX7_mixShip 7 (some .long) 15 [.ref 0, .long h, .int (nI i)] μ (fun r μ' => r = some (.long (dSh a h i)) ∧ RC μ' a ∧ FrC μ μ') := by
  obtain ⟨a1, a2, a3, a4, ⟨b, hb, hcur, hdrf, hB⟩, hS, hK, hD, hW⟩ := id hA
  obtain ⟨r1, r2, r3, r4, r5, r6, r7, r8, r9⟩ := id hS
  obtain ⟨w1, w2, w3, w4, w5, w6⟩ := id hW
  obtain ⟨p1, p2, p3⟩ := id a1
  obtain ⟨hb1, hb2, hb3, hb4, hb5, hb6, hrow⟩ := bkF hb
  have hship : ∀ i, i < 6 → 4 + 1 + 1 + i < 88 ∧ kt (4 + 1 + 1 + i) = 5 := (seaF (Or.inl rfl)).2.2.2.2.2.2
  have h4 : (4 : Nat) = 4 ∨ (4 : Nat) = 13 ∨ (4 : Nat) = 22 := Or.inl rfl
  refine Con.of [.ref 0, .long h, .null, .int (nI i), .null, .null, .null] 3 (by decide +kernel) (Nat.le_of_ble_eq_true rfl) rfl ?_
  refine V_lload_n (pc := 0) dX7_mixShip_0 rfl rfl ?_
  refine V_lstore4 (pc := 1) dX7_mixShip_1 (by decide) rfl ?_
  refine V_iconst (pc := 3) (v := 0) dX7_mixShip_3 (by decide) ?_
  refine V_istore6 (pc := 4) dX7_mixShip_4 (by decide) rfl ?_
  have loopA : ∀ (nA q : Nat) (u : Int64), q ≤ 5 → 5 < q + nA → (u = mxF (fun q => (tel (aS a) i q).toInt64) h q) → V l g RX7 cX7_mixShip 7 (some .long) 15 6 [.ref 0, .long h, .null, .int (nI i), .long u, .null, .int (nI q)] [] μ (fun r μ' => r = some (.long (dSh a h i)) ∧ RC μ' a ∧ FrC μ μ') := by
    intro nA
    induction nA with
    | zero => intro q u h1 h2; exact absurd h2 (by omega)
    | succ nA ihA =>
      intro q u hleA hfuA hu
      refine V_iload (pc := 6) dX7_mixShip_6 rfl ?_
      refine V_iconst (pc := 8) (v := 5) dX7_mixShip_8 (by decide) ?_
      refine V_icmpge (pc := 9) (tgt := 33) dX7_mixShip_9 (by decide) (fun h9 => ?_) (fun h9 => ?_)
      · have h9 := (nI_leI (a := 5) (b := q) (by decide) (by omega)).mp h9; obtain rfl : q = 5 := by omega
        refine V_lload (pc := 33) dX7_mixShip_33 rfl ?_
        refine V_aload_n (pc := 35) dX7_mixShip_35 rfl rfl ?_
        refine V_iload_n (pc := 36) dX7_mixShip_36 rfl rfl ?_
        refine V_iconst (pc := 37) (v := 2) dX7_mixShip_37 (by decide) ?_
        refine V_iconst (pc := 38) (v := 0) dX7_mixShip_38 (by decide) ?_
        refine V_inv3 (pc := 39) (ci := 7) dX7_mixShip_39 ml_X7_275 (by decide) rfl ⟨by decide, rfl⟩ (by first | decide | omega) (Nat.le_of_ble_eq_true rfl) (c_X7_likely (x := nI i) (y := 2) (z := 0) μ hA) ?_
        rintro _ μ1 ⟨rfl, k1, k2⟩
        refine V_ins2 (pc := 42) dX7_mixShip_42 ml_X7_252 (by first | decide | omega) (Nat.le_of_ble_eq_true rfl) (c_X7_mix μ1) ?_
        rintro _ μ3 ⟨rfl, hμ⟩
        obtain rfl := hμ.symm
        refine V_lstore4 (pc := 45) dX7_mixShip_45 (by decide) rfl ?_
        refine V_lload (pc := 47) dX7_mixShip_47 rfl ?_
        refine V_aload_n (pc := 49) dX7_mixShip_49 rfl rfl ?_
        refine V_iload_n (pc := 50) dX7_mixShip_50 rfl rfl ?_
        refine V_iconst (pc := 51) (v := 2) dX7_mixShip_51 (by decide) ?_
        refine V_iconst (pc := 52) (v := 1) dX7_mixShip_52 (by decide) ?_
        refine V_inv3 (pc := 53) (ci := 7) dX7_mixShip_53 ml_X7_275 (by decide) rfl ⟨by decide, rfl⟩ (by first | decide | omega) (Nat.le_of_ble_eq_true rfl) (c_X7_likely (x := nI i) (y := 2) (z := 1) μ1 k1) ?_
        rintro _ μ2 ⟨rfl, m1, m2⟩
        refine V_ins2 (pc := 56) dX7_mixShip_56 ml_X7_252 (by first | decide | omega) (Nat.le_of_ble_eq_true rfl) (c_X7_mix μ2) ?_
        rintro _ μ3 ⟨rfl, hμ⟩
        obtain rfl := hμ.symm
        refine V_lret (pc := 59) dX7_mixShip_59 rfl ?_
        exact ⟨by rw [hu]; rfl, m1, k2.tr m2⟩
      have hlt : q < 5 := nI_l3 (a := 5) (by decide) (by omega) h9
      refine V_lload (pc := 12) dX7_mixShip_12 rfl ?_
      refine V_aload_n (pc := 14) dX7_mixShip_14 rfl rfl ?_
      refine V_iload_n (pc := 15) dX7_mixShip_15 rfl rfl ?_
      refine V_iload (pc := 16) dX7_mixShip_16 rfl ?_
      refine V_inv2 (pc := 18) (ci := 7) dX7_mixShip_18 ml_X7_272 (by decide) rfl ⟨by decide, rfl⟩ (by first | decide | omega) (Nat.le_of_ble_eq_true rfl) (c_X7_about (x := nI i) (y := nI q) μ hA) ?_
      rintro _ μ2 ⟨rfl, hμ⟩
      obtain rfl := hμ.symm
      rw [show fAbout a (nI i) (nI q) = tel (aS a) i q from by simp only [fAbout, inN_lt hi (by omega), inN_lt hlt (by decide), if_true, nn_nI (j := i) (by omega), nn_nI (j := q) (by omega)]]
      refine V_i2l (pc := 21) dX7_mixShip_21 ?_
      refine V_ins2 (pc := 22) dX7_mixShip_22 ml_X7_252 (by first | decide | omega) (Nat.le_of_ble_eq_true rfl) (c_X7_mix μ) ?_
      rintro _ μ2 ⟨rfl, hμ⟩
      obtain rfl := hμ.symm
      refine V_lstore4 (pc := 25) dX7_mixShip_25 (by decide) rfl ?_
      refine V_iinc6 (pc := 27) (v := nI (q + 1)) dX7_mixShip_27 (nI_1 q) (by decide) rfl ?_
      refine V_goto (pc := 30) (tgt := 6) dX7_mixShip_30 (by decide) ?_
      exact ihA (q + 1) _ (by omega) (by omega) (by rw [hu]; rfl)
  exact loopA (5 + 1) 0 _ (by omega) (by omega) rfl
theorem dX7_digest_0 : decode cX7_digest 0 = .ok (.ldc2_w 243, 3) := by decide +kernel
theorem dX7_digest_3 : decode cX7_digest 3 = .ok (.lstore_n 1, 1) := by decide +kernel
theorem dX7_digest_4 : decode cX7_digest 4 = .ok (.aload_n 0, 1) := by decide +kernel
theorem dX7_digest_5 : decode cX7_digest 5 = .ok (.invokevirtual 103, 3) := by decide +kernel
theorem dX7_digest_8 : decode cX7_digest 8 = .ok (.ifCond .eq 9, 3) := by decide +kernel
theorem dX7_digest_11 : decode cX7_digest 11 = .ok (.aload_n 0, 1) := by decide +kernel
theorem dX7_digest_12 : decode cX7_digest 12 = .ok (.lload_n 1, 1) := by decide +kernel
theorem dX7_digest_13 : decode cX7_digest 13 = .ok (.invokevirtual 245, 3) := by decide +kernel
theorem dX7_digest_16 : decode cX7_digest 16 = .ok (.lstore_n 1, 1) := by decide +kernel
theorem dX7_digest_17 : decode cX7_digest 17 = .ok (.iconst 0, 1) := by decide +kernel
theorem dX7_digest_18 : decode cX7_digest 18 = .ok (.istore_n 3, 1) := by decide +kernel
theorem dX7_digest_19 : decode cX7_digest 19 = .ok (.iload_n 3, 1) := by decide +kernel
theorem dX7_digest_20 : decode cX7_digest 20 = .ok (.bipush 6, 2) := by decide +kernel
theorem dX7_digest_22 : decode cX7_digest 22 = .ok (.if_icmp .ge 29, 3) := by decide +kernel
theorem dX7_digest_25 : decode cX7_digest 25 = .ok (.lload_n 1, 1) := by decide +kernel
theorem dX7_digest_26 : decode cX7_digest 26 = .ok (.aload_n 0, 1) := by decide +kernel
theorem dX7_digest_27 : decode cX7_digest 27 = .ok (.iload_n 3, 1) := by decide +kernel
theorem dX7_digest_28 : decode cX7_digest 28 = .ok (.invokevirtual 249, 3) := by decide +kernel
theorem dX7_digest_31 : decode cX7_digest 31 = .ok (.i2l, 1) := by decide +kernel
theorem dX7_digest_32 : decode cX7_digest 32 = .ok (.invokestatic 252, 3) := by decide +kernel
theorem dX7_digest_35 : decode cX7_digest 35 = .ok (.aload_n 0, 1) := by decide +kernel
theorem dX7_digest_36 : decode cX7_digest 36 = .ok (.iload_n 3, 1) := by decide +kernel
theorem dX7_digest_37 : decode cX7_digest 37 = .ok (.invokevirtual 256, 3) := by decide +kernel
theorem dX7_digest_40 : decode cX7_digest 40 = .ok (.i2l, 1) := by decide +kernel
theorem dX7_digest_41 : decode cX7_digest 41 = .ok (.invokestatic 252, 3) := by decide +kernel
theorem dX7_digest_44 : decode cX7_digest 44 = .ok (.lstore_n 1, 1) := by decide +kernel
theorem dX7_digest_45 : decode cX7_digest 45 = .ok (.iinc 3 1, 3) := by decide +kernel
theorem dX7_digest_48 : decode cX7_digest 48 = .ok (.goto (-29), 3) := by decide +kernel
theorem dX7_digest_51 : decode cX7_digest 51 = .ok (.iconst 0, 1) := by decide +kernel
theorem dX7_digest_52 : decode cX7_digest 52 = .ok (.istore_n 3, 1) := by decide +kernel
theorem dX7_digest_53 : decode cX7_digest 53 = .ok (.iload_n 3, 1) := by decide +kernel
theorem dX7_digest_54 : decode cX7_digest 54 = .ok (.aload_n 0, 1) := by decide +kernel
theorem dX7_digest_55 : decode cX7_digest 55 = .ok (.getfield 26, 3) := by decide +kernel
theorem dX7_digest_58 : decode cX7_digest 58 = .ok (.getfield 236, 3) := by decide +kernel
theorem dX7_digest_61 : decode cX7_digest 61 = .ok (.if_icmp .ge 16, 3) := by decide +kernel
theorem dX7_digest_64 : decode cX7_digest 64 = .ok (.aload_n 0, 1) := by decide +kernel
theorem dX7_digest_65 : decode cX7_digest 65 = .ok (.lload_n 1, 1) := by decide +kernel
theorem dX7_digest_66 : decode cX7_digest 66 = .ok (.iload_n 3, 1) := by decide +kernel
theorem dX7_digest_67 : decode cX7_digest 67 = .ok (.invokevirtual 259, 3) := by decide +kernel
theorem dX7_digest_70 : decode cX7_digest 70 = .ok (.lstore_n 1, 1) := by decide +kernel
theorem dX7_digest_71 : decode cX7_digest 71 = .ok (.iinc 3 1, 3) := by decide +kernel
theorem dX7_digest_74 : decode cX7_digest 74 = .ok (.goto (-21), 3) := by decide +kernel
theorem dX7_digest_77 : decode cX7_digest 77 = .ok (.aload_n 0, 1) := by decide +kernel
theorem dX7_digest_78 : decode cX7_digest 78 = .ok (.getfield 39, 3) := by decide +kernel
theorem dX7_digest_81 : decode cX7_digest 81 = .ok (.getfield 212, 3) := by decide +kernel
theorem dX7_digest_84 : decode cX7_digest 84 = .ok (.ifCond .eq 13, 3) := by decide +kernel
theorem dX7_digest_87 : decode cX7_digest 87 = .ok (.lload_n 1, 1) := by decide +kernel
theorem dX7_digest_88 : decode cX7_digest 88 = .ok (.aload_n 0, 1) := by decide +kernel
theorem dX7_digest_89 : decode cX7_digest 89 = .ok (.invokevirtual 263, 3) := by decide +kernel
theorem dX7_digest_92 : decode cX7_digest 92 = .ok (.i2l, 1) := by decide +kernel
theorem dX7_digest_93 : decode cX7_digest 93 = .ok (.invokestatic 252, 3) := by decide +kernel
theorem dX7_digest_96 : decode cX7_digest 96 = .ok (.lstore_n 1, 1) := by decide +kernel
theorem dX7_digest_97 : decode cX7_digest 97 = .ok (.iconst 0, 1) := by decide +kernel
theorem dX7_digest_98 : decode cX7_digest 98 = .ok (.istore_n 3, 1) := by decide +kernel
theorem dX7_digest_99 : decode cX7_digest 99 = .ok (.iload_n 3, 1) := by decide +kernel
theorem dX7_digest_100 : decode cX7_digest 100 = .ok (.aload_n 0, 1) := by decide +kernel
theorem dX7_digest_101 : decode cX7_digest 101 = .ok (.getfield 12, 3) := by decide +kernel
theorem dX7_digest_104 : decode cX7_digest 104 = .ok (.getfield 72, 3) := by decide +kernel
theorem dX7_digest_107 : decode cX7_digest 107 = .ok (.if_icmp .ge 24, 3) := by decide +kernel
theorem dX7_digest_110 : decode cX7_digest 110 = .ok (.lload_n 1, 1) := by decide +kernel
theorem dX7_digest_111 : decode cX7_digest 111 = .ok (.aload_n 0, 1) := by decide +kernel
theorem dX7_digest_112 : decode cX7_digest 112 = .ok (.getfield 12, 3) := by decide +kernel
theorem dX7_digest_115 : decode cX7_digest 115 = .ok (.getfield 266, 3) := by decide +kernel
theorem dX7_digest_118 : decode cX7_digest 118 = .ok (.iload_n 3, 1) := by decide +kernel
theorem dX7_digest_119 : decode cX7_digest 119 = .ok (.iaload, 1) := by decide +kernel
theorem dX7_digest_120 : decode cX7_digest 120 = .ok (.i2l, 1) := by decide +kernel
theorem dX7_digest_121 : decode cX7_digest 121 = .ok (.invokestatic 252, 3) := by decide +kernel
theorem dX7_digest_124 : decode cX7_digest 124 = .ok (.lstore_n 1, 1) := by decide +kernel
theorem dX7_digest_125 : decode cX7_digest 125 = .ok (.iinc 3 1, 3) := by decide +kernel
theorem dX7_digest_128 : decode cX7_digest 128 = .ok (.goto (-29), 3) := by decide +kernel
theorem dX7_digest_131 : decode cX7_digest 131 = .ok (.iconst 0, 1) := by decide +kernel
theorem dX7_digest_132 : decode cX7_digest 132 = .ok (.istore_n 3, 1) := by decide +kernel
theorem dX7_digest_133 : decode cX7_digest 133 = .ok (.iload_n 3, 1) := by decide +kernel
theorem dX7_digest_134 : decode cX7_digest 134 = .ok (.bipush 9, 2) := by decide +kernel
theorem dX7_digest_136 : decode cX7_digest 136 = .ok (.if_icmp .ge 20, 3) := by decide +kernel
theorem dX7_digest_139 : decode cX7_digest 139 = .ok (.lload_n 1, 1) := by decide +kernel
theorem dX7_digest_140 : decode cX7_digest 140 = .ok (.aload_n 0, 1) := by decide +kernel
theorem dX7_digest_141 : decode cX7_digest 141 = .ok (.iload_n 3, 1) := by decide +kernel
theorem dX7_digest_142 : decode cX7_digest 142 = .ok (.invokevirtual 269, 3) := by decide +kernel
theorem dX7_digest_145 : decode cX7_digest 145 = .ok (.i2l, 1) := by decide +kernel
theorem dX7_digest_146 : decode cX7_digest 146 = .ok (.invokestatic 252, 3) := by decide +kernel
theorem dX7_digest_149 : decode cX7_digest 149 = .ok (.lstore_n 1, 1) := by decide +kernel
theorem dX7_digest_150 : decode cX7_digest 150 = .ok (.iinc 3 1, 3) := by decide +kernel
theorem dX7_digest_153 : decode cX7_digest 153 = .ok (.goto (-20), 3) := by decide +kernel
theorem dX7_digest_156 : decode cX7_digest 156 = .ok (.lload_n 1, 1) := by decide +kernel
theorem dX7_digest_157 : decode cX7_digest 157 = .ok (.lreturn, 1) := by decide +kernel
set_option maxHeartbeats 4000000 in
set_option maxRecDepth 100000 in
theorem c_X7_digest {l : Launch} {g : GW} {a : AT}  (μ : Mm) (hA : RC μ a)  : Con l g yX7_digest cX7_digest 4 (some .long) 16 [.ref 0] μ (fun r μ' => r = some (.long (fDigest a)) ∧ RC μ' a ∧ FrC μ μ') := by
  obtain ⟨a1, a2, a3, a4, ⟨b, hb, hcur, hdrf, hB⟩, hS, hK, hD, hW⟩ := id hA
  obtain ⟨r1, r2, r3, r4, r5, r6, r7, r8, r9⟩ := id hS
  obtain ⟨w1, w2, w3, w4, w5, w6⟩ := id hW
  obtain ⟨p1, p2, p3⟩ := id a1
  obtain ⟨hb1, hb2, hb3, hb4, hb5, hb6, hrow⟩ := bkF hb
  have hship : ∀ i, i < 6 → 4 + 1 + 1 + i < 88 ∧ kt (4 + 1 + 1 + i) = 5 := (seaF (Or.inl rfl)).2.2.2.2.2.2
  have h4 : (4 : Nat) = 4 ∨ (4 : Nat) = 13 ∨ (4 : Nat) = 22 := Or.inl rfl
  refine Con.of [.ref 0, .null, .null, .null] 3 (by decide +kernel) (Nat.le_of_ble_eq_true rfl) rfl ?_
  have J17 : ∀ (u : Int64) (y3 : Value), u = (if 0 < aNb a then dBk a 661 else 661) → V l g RX7 cX7_digest 4 (some .long) 16 17 [.ref 0, .long u, .null, y3] [] μ (fun r μ' => r = some (.long (fDigest a)) ∧ RC μ' a ∧ FrC μ μ') := by
    intro u y3 hu
    refine V_iconst (pc := 17) (v := 0) dX7_digest_17 (by decide) ?_
    refine V_istore3 (pc := 18) dX7_digest_18 (by decide) rfl ?_
    have loopA : ∀ (nA n : Nat) (v : Int64), n ≤ 6 → 6 < n + nA → (v = dNm a (if 0 < aNb a then dBk a 661 else 661) n) → V l g RX7 cX7_digest 4 (some .long) 16 19 [.ref 0, .long v, .null, .int (nI n)] [] μ (fun r μ' => r = some (.long (fDigest a)) ∧ RC μ' a ∧ FrC μ μ') := by
      intro nA
      induction nA with
      | zero => intro n v h1 h2; exact absurd h2 (by omega)
      | succ nA ihA =>
        intro n v hleA hfuA hv
        refine V_iload_n (pc := 19) dX7_digest_19 rfl rfl ?_
        refine V_bipush (pc := 20) (v := 6) dX7_digest_20 (by decide) ?_
        refine V_icmpge (pc := 22) (tgt := 51) dX7_digest_22 (by decide) (fun h22 => ?_) (fun h22 => ?_)
        · have h22 := (nI_leI (a := 6) (b := n) (by decide) (by omega)).mp h22; obtain rfl : n = 6 := by omega
          refine V_iconst (pc := 51) (v := 0) dX7_digest_51 (by decide) ?_
          refine V_istore3 (pc := 52) dX7_digest_52 (by decide) rfl ?_
          have loopB : ∀ (nB i : Nat) (μ1 : Mm) (v : Int64), i ≤ sN (aS a) → sN (aS a) < i + nB → (v = dSs a (dNm a (if 0 < aNb a then dBk a 661 else 661) 6) i) → (RC μ1 a) → (FrC μ μ1) → V l g RX7 cX7_digest 4 (some .long) 16 53 [.ref 0, .long v, .null, .int (nI i)] [] μ1 (fun r μ' => r = some (.long (fDigest a)) ∧ RC μ' a ∧ FrC μ μ') := by
            intro nB
            induction nB with
            | zero => intro i μ1 v h1 h2; exact absurd h2 (by omega)
            | succ nB ihB =>
              intro i μ1 v hleB hfuB hw2 q1 q2
              refine V_iload_n (pc := 53) dX7_digest_53 rfl rfl ?_
              refine V_aload_n (pc := 54) dX7_digest_54 rfl rfl ?_
              refine V_getR (pc := 55) (ci := 7) (j := 2) (k2 := 4) dX7_digest_55 fl_X7_26 (fun _ _ _ _ => rfl) (by decide) rfl (rf_7_2 rfl) ?_
              refine V_getI (pc := 58) (ci := 4) (j := 2) dX7_digest_58 fl_X7_236 (fun _ _ _ _ => rfl) (by decide) rfl ?_
              refine V_icmpge (pc := 61) (tgt := 77) dX7_digest_61 (by decide) (fun h61 => ?_) (fun h61 => ?_)
              · rw [q1.2.2.2.2.2.1.1, nI_leI (by omega) (by omega)] at h61; obtain rfl : i = sN (aS a) := by omega
                have J97 : ∀ (u : Int64) (y3 : Value), u = (if aWb a then mx (dSs a (dNm a (if 0 < aNb a then dBk a 661 else 661) 6) (sN (aS a))) (fCalled a).toInt64 else (dSs a (dNm a (if 0 < aNb a then dBk a 661 else 661) 6) (sN (aS a)))) → V l g RX7 cX7_digest 4 (some .long) 16 97 [.ref 0, .long u, .null, y3] [] μ1 (fun r μ' => r = some (.long (fDigest a)) ∧ RC μ' a ∧ FrC μ μ') := by
                  intro u y3 hu4
                  obtain ⟨s1, s2, s3⟩ := id q1.1
                  refine V_iconst (pc := 97) (v := 0) dX7_digest_97 (by decide) ?_
                  refine V_istore3 (pc := 98) dX7_digest_98 (by decide) rfl ?_
                  have loopC : ∀ (nC i : Nat) (v : Int64), i ≤ aPn a → aPn a < i + nC → (v = mxF (fun i => (nI (aPc a i)).toInt64) (if aWb a then mx (dSs a (dNm a (if 0 < aNb a then dBk a 661 else 661) 6) (sN (aS a))) (fCalled a).toInt64 else (dSs a (dNm a (if 0 < aNb a then dBk a 661 else 661) 6) (sN (aS a)))) i) → V l g RX7 cX7_digest 4 (some .long) 16 99 [.ref 0, .long v, .null, .int (nI i)] [] μ1 (fun r μ' => r = some (.long (fDigest a)) ∧ RC μ' a ∧ FrC μ μ') := by
                    intro nC
                    induction nC with
                    | zero => intro i v h1 h2; exact absurd h2 (by omega)
                    | succ nC ihC =>
                      intro i v hleC hfuC hv5
                      refine V_iload_n (pc := 99) dX7_digest_99 rfl rfl ?_
                      refine V_aload_n (pc := 100) dX7_digest_100 rfl rfl ?_
                      refine V_getR (pc := 101) (ci := 7) (j := 0) (k2 := 1) dX7_digest_101 fl_X7_12 (fun _ _ _ _ => rfl) (by decide) rfl (rf_7_0 rfl) ?_
                      refine V_getI (pc := 104) (ci := 2) (j := 1) dX7_digest_104 fl_X7_72 (fun _ _ _ _ => rfl) (by decide) rfl ?_
                      refine V_icmpge (pc := 107) (tgt := 131) dX7_digest_107 (by decide) (fun h107 => ?_) (fun h107 => ?_)
                      · rw [s1, nI_leI (by omega) (by omega)] at h107; obtain rfl : i = aPn a := by omega
                        refine V_iconst (pc := 131) (v := 0) dX7_digest_131 (by decide) ?_
                        refine V_istore3 (pc := 132) dX7_digest_132 (by decide) rfl ?_
                        have loopD : ∀ (nD q : Nat) (v : Int64), q ≤ 9 → 9 < q + nD → (v = mxF (fun q => (fCount a (nI q)).toInt64) (mxF (fun i => (nI (aPc a i)).toInt64) (if aWb a then mx (dSs a (dNm a (if 0 < aNb a then dBk a 661 else 661) 6) (sN (aS a))) (fCalled a).toInt64 else (dSs a (dNm a (if 0 < aNb a then dBk a 661 else 661) 6) (sN (aS a)))) (aPn a)) q) → V l g RX7 cX7_digest 4 (some .long) 16 133 [.ref 0, .long v, .null, .int (nI q)] [] μ1 (fun r μ' => r = some (.long (fDigest a)) ∧ RC μ' a ∧ FrC μ μ') := by
                          intro nD
                          induction nD with
                          | zero => intro q v h1 h2; exact absurd h2 (by omega)
                          | succ nD ihD =>
                            intro q v hleD hfuD hv6
                            refine V_iload_n (pc := 133) dX7_digest_133 rfl rfl ?_
                            refine V_bipush (pc := 134) (v := 9) dX7_digest_134 (by decide) ?_
                            refine V_icmpge (pc := 136) (tgt := 156) dX7_digest_136 (by decide) (fun h136 => ?_) (fun h136 => ?_)
                            · have h136 := (nI_leI (a := 9) (b := q) (by decide) (by omega)).mp h136; obtain rfl : q = 9 := by omega
                              refine V_lload_n (pc := 156) dX7_digest_156 rfl rfl ?_
                              refine V_lret (pc := 157) dX7_digest_157 rfl ?_
                              exact ⟨by rw [hv6]; rfl, q1, q2⟩
                            have hlt : q < 9 := nI_l3 (a := 9) (by decide) (by omega) h136
                            refine V_lload_n (pc := 139) dX7_digest_139 rfl rfl ?_
                            refine V_aload_n (pc := 140) dX7_digest_140 rfl rfl ?_
                            refine V_iload_n (pc := 141) dX7_digest_141 rfl rfl ?_
                            refine V_inv1 (pc := 142) (ci := 7) dX7_digest_142 ml_X7_269 (by decide) rfl ⟨by decide, rfl⟩ (by first | decide | omega) (Nat.le_of_ble_eq_true rfl) (c_X7_count (x := nI q) μ1 q1) ?_
                            rintro _ μ9 ⟨rfl, hμ⟩
                            obtain rfl := hμ.symm
                            refine V_i2l (pc := 145) dX7_digest_145 ?_
                            refine V_ins2 (pc := 146) dX7_digest_146 ml_X7_252 (by first | decide | omega) (Nat.le_of_ble_eq_true rfl) (c_X7_mix μ1) ?_
                            rintro _ μ9 ⟨rfl, hμ⟩
                            obtain rfl := hμ.symm
                            refine V_lstore1 (pc := 149) dX7_digest_149 (by decide) rfl ?_
                            refine V_iinc3 (pc := 150) (v := nI (q + 1)) dX7_digest_150 (nI_1 q) (by decide) rfl ?_
                            refine V_goto (pc := 153) (tgt := 133) dX7_digest_153 (by decide) ?_
                            exact ihD (q + 1) _ (by omega) (by omega) (by rw [hv6]; rfl)
                        exact loopD (9 + 1) 0 _ (by omega) (by omega) hv5
                      rw [s1, nI_leI (by omega) (by omega)] at h107; have hlt : i < aPn a := (by omega)
                      refine V_lload_n (pc := 110) dX7_digest_110 rfl rfl ?_
                      refine V_aload_n (pc := 111) dX7_digest_111 rfl rfl ?_
                      refine V_getR (pc := 112) (ci := 7) (j := 0) (k2 := 1) dX7_digest_112 fl_X7_12 (fun _ _ _ _ => rfl) (by decide) rfl (rf_7_0 rfl) ?_
                      refine V_getR (pc := 115) (ci := 2) (j := 0) (k2 := 2) dX7_digest_115 fl_X7_266 (fun _ _ _ _ => rfl) (by decide) rfl (rf_2_0 rfl) ?_
                      refine V_iload_n (pc := 118) dX7_digest_118 rfl rfl ?_
                      refine V_iald (pc := 119) (j := i) dX7_digest_119 (by decide) rfl rfl (by show i < 30; omega) ?_
                      rw [(s3 i (by omega)).1]
                      refine V_i2l (pc := 120) dX7_digest_120 ?_
                      refine V_ins2 (pc := 121) dX7_digest_121 ml_X7_252 (by first | decide | omega) (Nat.le_of_ble_eq_true rfl) (c_X7_mix μ1) ?_
                      rintro _ μ9 ⟨rfl, hμ⟩
                      obtain rfl := hμ.symm
                      refine V_lstore1 (pc := 124) dX7_digest_124 (by decide) rfl ?_
                      refine V_iinc3 (pc := 125) (v := nI (i + 1)) dX7_digest_125 (nI_1 i) (by decide) rfl ?_
                      refine V_goto (pc := 128) (tgt := 99) dX7_digest_128 (by decide) ?_
                      exact ihC (i + 1) _ (by omega) (by omega) (by rw [hv5]; rfl)
                  exact loopC (aPn a + 1) 0 _ (by omega) (by omega) hu4
                refine V_aload_n (pc := 77) dX7_digest_77 rfl rfl ?_
                refine V_getR (pc := 78) (ci := 7) (j := 5) (k2 := 31) dX7_digest_78 fl_X7_39 (fun _ _ _ _ => rfl) (by decide) rfl (rf_7_5 rfl) ?_
                refine V_getI (pc := 81) (ci := 6) (j := 1) dX7_digest_81 fl_X7_212 (fun _ _ _ _ => rfl) (by decide) rfl ?_
                rw [q1.2.2.2.2.2.2.2.2.1]
                refine V_ifeq (pc := 84) (tgt := 97) dX7_digest_84 (by decide) (fun h84 => ?_) (fun h84 => ?_)
                · have h84 := bI_e h84
                  first
                  | exact J97 _ _ (by rw [h84, hw2]; rfl)
                have h84 := bI_ne h84
                refine V_lload_n (pc := 87) dX7_digest_87 rfl rfl ?_
                refine V_aload_n (pc := 88) dX7_digest_88 rfl rfl ?_
                refine V_inv0 (pc := 89) (ci := 7) dX7_digest_89 ml_X7_263 (by decide) rfl ⟨by decide, rfl⟩ (by first | decide | omega) (Nat.le_of_ble_eq_true rfl) (c_X7_called μ1 q1) ?_
                rintro _ μ9 ⟨rfl, hμ⟩
                obtain rfl := hμ.symm
                refine V_i2l (pc := 92) dX7_digest_92 ?_
                refine V_ins2 (pc := 93) dX7_digest_93 ml_X7_252 (by first | decide | omega) (Nat.le_of_ble_eq_true rfl) (c_X7_mix μ1) ?_
                rintro _ μ9 ⟨rfl, hμ⟩
                obtain rfl := hμ.symm
                refine V_lstore1 (pc := 96) dX7_digest_96 (by decide) rfl ?_
                first
                | exact J97 _ _ (by rw [h84, hw2]; rfl)
              rw [q1.2.2.2.2.2.1.1, nI_leI (by omega) (by omega)] at h61; have hlt : i < sN (aS a) := (by omega)
              refine V_aload_n (pc := 64) dX7_digest_64 rfl rfl ?_
              refine V_lload_n (pc := 65) dX7_digest_65 rfl rfl ?_
              refine V_iload_n (pc := 66) dX7_digest_66 rfl rfl ?_
              refine V_inv2 (pc := 67) (ci := 7) dX7_digest_67 ml_X7_259 (by decide) rfl ⟨by decide, rfl⟩ (by first | decide | omega) (Nat.le_of_ble_eq_true rfl) (c_X7_mixShip μ1 q1 hlt) ?_
              rintro _ μ2 ⟨rfl, m1, m2⟩
              refine V_lstore1 (pc := 70) dX7_digest_70 (by decide) rfl ?_
              refine V_iinc3 (pc := 71) (v := nI (i + 1)) dX7_digest_71 (nI_1 i) (by decide) rfl ?_
              refine V_goto (pc := 74) (tgt := 53) dX7_digest_74 (by decide) ?_
              exact ihB (i + 1) μ2 _ (by omega) (by omega) (by rw [hw2]; rfl) m1 (q2.tr m2)
          exact loopB (sN (aS a) + 1) 0 _ _ (by omega) (by omega) hv hA FrC.rf
        have hlt : n < 6 := nI_l3 (a := 6) (by decide) (by omega) h22
        refine V_lload_n (pc := 25) dX7_digest_25 rfl rfl ?_
        refine V_aload_n (pc := 26) dX7_digest_26 rfl rfl ?_
        refine V_iload_n (pc := 27) dX7_digest_27 rfl rfl ?_
        refine V_inv1 (pc := 28) (ci := 7) dX7_digest_28 ml_X7_249 (by decide) rfl ⟨by decide, rfl⟩ (by first | decide | omega) (Nat.le_of_ble_eq_true rfl) (c_X7_spent (x := nI n) μ hA) ?_
        rintro _ μ2 ⟨rfl, hμ⟩
        obtain rfl := hμ.symm
        rw [show fSpent a (nI n) = bI ((sS (aS a)).testBit n) from by simp only [fSpent, inN_lt hlt (by decide), if_true, nn_nI (j := n) (by omega)]]
        refine V_i2l (pc := 31) dX7_digest_31 ?_
        refine V_ins2 (pc := 32) dX7_digest_32 ml_X7_252 (by first | decide | omega) (Nat.le_of_ble_eq_true rfl) (c_X7_mix μ) ?_
        rintro _ μ2 ⟨rfl, hμ⟩
        obtain rfl := hμ.symm
        refine V_aload_n (pc := 35) dX7_digest_35 rfl rfl ?_
        refine V_iload_n (pc := 36) dX7_digest_36 rfl rfl ?_
        refine V_inv1 (pc := 37) (ci := 7) dX7_digest_37 ml_X7_256 (by decide) rfl ⟨by decide, rfl⟩ (by first | decide | omega) (Nat.le_of_ble_eq_true rfl) (c_X7_guess (x := nI n) μ hA) ?_
        rintro _ μ2 ⟨rfl, hμ⟩
        obtain rfl := hμ.symm
        rw [show fGuess a (nI n) = sG (aS a) n from by simp only [fGuess, inN_lt hlt (by decide), if_true, nn_nI (j := n) (by omega)]]
        refine V_i2l (pc := 40) dX7_digest_40 ?_
        refine V_ins2 (pc := 41) dX7_digest_41 ml_X7_252 (by first | decide | omega) (Nat.le_of_ble_eq_true rfl) (c_X7_mix μ) ?_
        rintro _ μ2 ⟨rfl, hμ⟩
        obtain rfl := hμ.symm
        refine V_lstore1 (pc := 44) dX7_digest_44 (by decide) rfl ?_
        refine V_iinc3 (pc := 45) (v := nI (n + 1)) dX7_digest_45 (nI_1 n) (by decide) rfl ?_
        refine V_goto (pc := 48) (tgt := 19) dX7_digest_48 (by decide) ?_
        exact ihA (n + 1) _ (by omega) (by omega) (by rw [hv]; rfl)
    exact loopA (6 + 1) 0 _ (by omega) (by omega) hu
  refine V_ldc2 (pc := 0) (v := 661) ct_X7_243 dX7_digest_0 ?_
  refine V_lstore1 (pc := 3) dX7_digest_3 (by decide) rfl ?_
  refine V_aload_n (pc := 4) dX7_digest_4 rfl rfl ?_
  refine V_inv0 (pc := 5) (ci := 7) dX7_digest_5 ml_X7_103 (by decide) rfl ⟨by decide, rfl⟩ (by first | decide | omega) (Nat.le_of_ble_eq_true rfl) (c_X7_hasBook μ hA) ?_
  rintro _ μ2 ⟨rfl, hμ⟩
  obtain rfl := hμ.symm
  refine V_ifeq (pc := 8) (tgt := 17) dX7_digest_8 (by decide) (fun h8 => ?_) (fun h8 => ?_)
  · have h8 := of_decide_eq_false (bI_e h8)
    first
    | exact J17 _ _ (by rw [if_neg h8])
    | exact J17 _ _ (by rw [if_pos h8])
  have h8 := of_decide_eq_true (bI_ne h8)
  refine V_aload_n (pc := 11) dX7_digest_11 rfl rfl ?_
  refine V_lload_n (pc := 12) dX7_digest_12 rfl rfl ?_
  refine V_inv1 (pc := 13) (ci := 7) dX7_digest_13 ml_X7_245 (by decide) rfl ⟨by decide, rfl⟩ (by first | decide | omega) (Nat.le_of_ble_eq_true rfl) (c_X7_mixBook μ hA) ?_
  rintro _ μ2 ⟨rfl, hμ⟩
  obtain rfl := hμ.symm
  refine V_lstore1 (pc := 16) dX7_digest_16 (by decide) rfl ?_
  first
  | exact J17 _ _ (by rw [if_neg h8])
  | exact J17 _ _ (by rw [if_pos h8])
