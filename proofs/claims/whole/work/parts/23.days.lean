theorem dX4_answer_0 : decode cX4_answer 0 = .ok (.aload_n 1, 1) := by decide +kernel
theorem dX4_answer_1 : decode cX4_answer 1 = .ok (.aload_n 2, 1) := by decide +kernel
theorem dX4_answer_2 : decode cX4_answer 2 = .ok (.getfield 67, 3) := by decide +kernel
theorem dX4_answer_5 : decode cX4_answer 5 = .ok (.iload_n 3, 1) := by decide +kernel
theorem dX4_answer_6 : decode cX4_answer 6 = .ok (.invokevirtual 91, 3) := by decide +kernel
theorem dX4_answer_9 : decode cX4_answer 9 = .ok (.istore 4, 2) := by decide +kernel
theorem dX4_answer_11 : decode cX4_answer 11 = .ok (.iload 4, 2) := by decide +kernel
theorem dX4_answer_13 : decode cX4_answer 13 = .ok (.ifCond .eq 16, 3) := by decide +kernel
theorem dX4_answer_16 : decode cX4_answer 16 = .ok (.aload_n 2, 1) := by decide +kernel
theorem dX4_answer_17 : decode cX4_answer 17 = .ok (.dup, 1) := by decide +kernel
theorem dX4_answer_18 : decode cX4_answer 18 = .ok (.getfield 97, 3) := by decide +kernel
theorem dX4_answer_21 : decode cX4_answer 21 = .ok (.iconst 1, 1) := by decide +kernel
theorem dX4_answer_22 : decode cX4_answer 22 = .ok (.iadd, 1) := by decide +kernel
theorem dX4_answer_23 : decode cX4_answer 23 = .ok (.putfield 97, 3) := by decide +kernel
theorem dX4_answer_26 : decode cX4_answer 26 = .ok (.goto 13, 3) := by decide +kernel
theorem dX4_answer_29 : decode cX4_answer 29 = .ok (.aload_n 2, 1) := by decide +kernel
theorem dX4_answer_30 : decode cX4_answer 30 = .ok (.dup, 1) := by decide +kernel
theorem dX4_answer_31 : decode cX4_answer 31 = .ok (.getfield 100, 3) := by decide +kernel
theorem dX4_answer_34 : decode cX4_answer 34 = .ok (.iconst 1, 1) := by decide +kernel
theorem dX4_answer_35 : decode cX4_answer 35 = .ok (.iadd, 1) := by decide +kernel
theorem dX4_answer_36 : decode cX4_answer 36 = .ok (.putfield 100, 3) := by decide +kernel
theorem dX4_answer_39 : decode cX4_answer 39 = .ok (.aload_n 0, 1) := by decide +kernel
theorem dX4_answer_40 : decode cX4_answer 40 = .ok (.getfield 41, 3) := by decide +kernel
theorem dX4_answer_43 : decode cX4_answer 43 = .ok (.bipush 40, 2) := by decide +kernel
theorem dX4_answer_45 : decode cX4_answer 45 = .ok (.if_icmp .ge 41, 3) := by decide +kernel
theorem dX4_answer_48 : decode cX4_answer 48 = .ok (.aload_n 0, 1) := by decide +kernel
theorem dX4_answer_49 : decode cX4_answer 49 = .ok (.dup, 1) := by decide +kernel
theorem dX4_answer_50 : decode cX4_answer 50 = .ok (.getfield 41, 3) := by decide +kernel
theorem dX4_answer_53 : decode cX4_answer 53 = .ok (.iconst 1, 1) := by decide +kernel
theorem dX4_answer_54 : decode cX4_answer 54 = .ok (.iadd, 1) := by decide +kernel
theorem dX4_answer_55 : decode cX4_answer 55 = .ok (.putfield 41, 3) := by decide +kernel
theorem dX4_answer_58 : decode cX4_answer 58 = .ok (.aload_n 0, 1) := by decide +kernel
theorem dX4_answer_59 : decode cX4_answer 59 = .ok (.getfield 17, 3) := by decide +kernel
theorem dX4_answer_62 : decode cX4_answer 62 = .ok (.aload_n 2, 1) := by decide +kernel
theorem dX4_answer_63 : decode cX4_answer 63 = .ok (.getfield 67, 3) := by decide +kernel
theorem dX4_answer_66 : decode cX4_answer 66 = .ok (.dup2, 1) := by decide +kernel
theorem dX4_answer_67 : decode cX4_answer 67 = .ok (.iaload, 1) := by decide +kernel
theorem dX4_answer_68 : decode cX4_answer 68 = .ok (.iload 4, 2) := by decide +kernel
theorem dX4_answer_70 : decode cX4_answer 70 = .ok (.ifCond .eq 9, 3) := by decide +kernel
theorem dX4_answer_73 : decode cX4_answer 73 = .ok (.iconst 1, 1) := by decide +kernel
theorem dX4_answer_74 : decode cX4_answer 74 = .ok (.iload_n 3, 1) := by decide +kernel
theorem dX4_answer_75 : decode cX4_answer 75 = .ok (.ishl, 1) := by decide +kernel
theorem dX4_answer_76 : decode cX4_answer 76 = .ok (.goto 8, 3) := by decide +kernel
theorem dX4_answer_79 : decode cX4_answer 79 = .ok (.iconst 1, 1) := by decide +kernel
theorem dX4_answer_80 : decode cX4_answer 80 = .ok (.iload_n 3, 1) := by decide +kernel
theorem dX4_answer_81 : decode cX4_answer 81 = .ok (.ishl, 1) := by decide +kernel
theorem dX4_answer_82 : decode cX4_answer 82 = .ok (.iconst (-1), 1) := by decide +kernel
theorem dX4_answer_83 : decode cX4_answer 83 = .ok (.ixor, 1) := by decide +kernel
theorem dX4_answer_84 : decode cX4_answer 84 = .ok (.iand, 1) := by decide +kernel
theorem dX4_answer_85 : decode cX4_answer 85 = .ok (.iastore, 1) := by decide +kernel
theorem dX4_answer_86 : decode cX4_answer 86 = .ok (.return_, 1) := by decide +kernel
set_option maxHeartbeats 4000000 in
set_option maxRecDepth 100000 in
theorem c_X4_answer {l : Launch} {g : GW} {s b i w : Nat} {tn : Nat → Nat → Nat} {ow : Nat → Nat} {σ : SeaT} (μ : Mm) (hs : s = 4 ∨ s = 13 ∨ s = 22) (hS : SeaR μ s σ) (hb : b = 49 ∨ b = 57) (hB : BkR μ b tn ow) (hi : i < 6) (hw : w ≤ 3) (hc : sC σ i ≠ 0) : Con l g yX4_answer cX4_answer 5 none 1 [.ref s, .ref b, .ref (s + 1 + 1 + i), .int (nI w)] μ (fun r μ' => r = none ∧ SeaR μ' s (ansT ow w i σ) ∧ FrM (seaS s) μ μ') := by
  have hS0 := hS
  obtain ⟨hs1, hs2, hs3, hs4, hs5, hs6, hrow⟩ := seaF hs
  obtain ⟨r1, r2, r3, r4, r5, r6, r7, r8, r9⟩ := hS
  obtain ⟨hb1, hb2, hb3, hb4, hb5, hb6, hrowb⟩ := bkF hb
  obtain ⟨z1, z2, z3, z4, z5, z6, z7, z8⟩ := r8 i hi
  obtain ⟨z9, zA⟩ := hrow i hi
  refine Con.of [.ref s, .ref b, .ref (s + 1 + 1 + i), .int (nI w), .null] 1 (by decide +kernel) (Nat.le_of_ble_eq_true rfl) rfl ?_
  refine V_aload_n (pc := 0) dX4_answer_0 rfl rfl ?_
  refine V_aload_n (pc := 1) dX4_answer_1 rfl rfl ?_
  refine V_getI (pc := 2) (ci := 5) (j := 2) dX4_answer_2 fl_X4_67 (fun _ _ _ _ => rfl) (by first | decide | omega) (by first | rfl | assumption | decide) ?_
  rw [z5]
  refine V_iload_n (pc := 5) dX4_answer_5 rfl rfl ?_
  refine V_inv2 (pc := 6) (ci := 0) dX4_answer_6 ml_X4_91 (by first | decide | omega) (by first | rfl | assumption | decide) ⟨by decide, rfl⟩ (by decide) (Nat.le_of_ble_eq_true rfl) (c_X0_favours μ hb hB z6 (show w ≤ 4 by omega)) ?_
  rintro _ μ2 ⟨rfl, hμ⟩
  obtain rfl := hμ.symm
  refine V_istore4 (pc := 9) dX4_answer_9 (by decide) rfl ?_
  have J : ∀ (μ1 : Mm) (σ1 : SeaT), SeaR μ1 s σ1 → FrM (seaS s) μ μ1 → σ1 = wShip σ i (sK σ i) (sP σ i) (sC σ i) (if fav ow (sC σ i) w then sV σ i + 1 else sV σ i) (if fav ow (sC σ i) w then sT σ i else sT σ i + 1) → V l g RX4 cX4_answer 5 none 1 39 [.ref s, .ref b, .ref (s + 1 + 1 + i), .int (nI w), .int (bI (fav ow (sC σ i) w))] [] μ1 (fun r μ' => r = none ∧ SeaR μ' s (ansT ow w i σ) ∧ FrM (seaS s) μ μ') := by
    intro μ1 σ1 q1 q2 q3
    have hc1 : sC σ1 i = sC σ i := by rw [q3]; exact up1_eq
    have ha1 : sA σ1 = sA σ := by rw [q3]; rfl
    have hg1 : sG σ1 = sG σ := by rw [q3]; rfl
    obtain ⟨t1, t2, t3, t4, t5, t6, t7, t8, t9⟩ := id q1
    obtain ⟨y1, y2, y3, y4, y5, y6, y7, y8⟩ := t8 i hi
    refine V_aload_n (pc := 39) dX4_answer_39 rfl rfl ?_
    refine V_getI (pc := 40) (ci := 4) (j := 5) dX4_answer_40 fl_X4_41 (fun _ _ _ _ => rfl) (by first | decide | omega) (by first | rfl | assumption | decide) ?_
    refine V_bipush (pc := 43) (v := 40) dX4_answer_43 (by decide) ?_
    refine V_icmpge (pc := 45) (tgt := 86) dX4_answer_45 (by decide) (fun h45 => ?_) (fun h45 => ?_)
    · rw [t6, ha1] at h45; have h45 := (nI_leI (a := 40) (b := sA σ) (by decide) (by omega)).mp h45; refine V_vret (pc := 86) dX4_answer_86 rfl ?_; exact ⟨rfl, q1.ext (by unfold ansT; simp only; rw [if_neg (by omega), q3]), q2⟩
    rw [t6, ha1] at h45; have h45 := mt (nI_leI (a := 40) (b := sA σ) (by decide) (by omega)).mpr h45
    refine V_aload_n (pc := 48) dX4_answer_48 rfl rfl ?_
    refine V_dup (pc := 49) dX4_answer_49 rfl ?_
    refine V_getI (pc := 50) (ci := 4) (j := 5) dX4_answer_50 fl_X4_41 (fun _ _ _ _ => rfl) (by first | decide | omega) (by first | rfl | assumption | decide) ?_
    refine V_iconst (pc := 53) (v := 1) dX4_answer_53 (by decide) ?_
    refine V_iadd (pc := 54) dX4_answer_54 ?_
    refine V_putI (pc := 55) (ci := 4) (j := 5) dX4_answer_55 fl_X4_41 (fun _ _ _ _ _ => rfl) rfl rfl (by first | decide | omega) (by first | rfl | assumption | decide) ?_
    refine V_aload_n (pc := 58) dX4_answer_58 rfl rfl ?_
    refine V_getR (pc := 59) (ci := 4) (j := 1) (k2 := (s + 8)) dX4_answer_59 fl_X4_17 (fun _ _ _ _ => rfl) (by first | decide | omega) (by first | rfl | assumption | decide) (rf_4_1 (by first | rfl | assumption | decide)) ?_
    refine V_aload_n (pc := 62) dX4_answer_62 rfl rfl ?_
    refine V_getI (pc := 63) (ci := 5) (j := 2) dX4_answer_63 fl_X4_67 (fun _ _ _ _ => rfl) (by first | decide | omega) (by first | rfl | assumption | decide) ?_
    refine V_dup2_11 (pc := 66) dX4_answer_66 rfl rfl ?_
    refine V_iald (pc := 67) (j := (sC σ i - 1)) dX4_answer_67 (by first | decide | omega) (by first | rfl | assumption | decide) (by rw [get_ne (by omega), y5, hc1, ← cI_s, Nat.sub_add_cancel (by omega)]) (by omega) ?_
    refine V_iload (pc := 68) dX4_answer_68 rfl ?_
    refine V_ifeq (pc := 70) (tgt := 79) dX4_answer_70 (by decide) (fun h70 => ?_) (fun h70 => ?_)
    · have h70 := (bI_0 _).mp h70
      refine V_iconst (pc := 79) (v := 1) dX4_answer_79 (by decide) ?_
      refine V_iload_n (pc := 80) dX4_answer_80 rfl rfl ?_
      refine V_ishl (pc := 81) dX4_answer_81 ?_
      refine V_iconst (pc := 82) (v := (-1)) dX4_answer_82 (by decide) ?_
      refine V_ixor (pc := 83) dX4_answer_83 ?_
      refine V_iand (pc := 84) dX4_answer_84 ?_
      refine V_iast (pc := 85) (j := (sC σ i - 1)) dX4_answer_85 (by first | decide | omega) (by first | rfl | assumption | decide) (by rw [get_ne (by omega), y5, hc1, ← cI_s, Nat.sub_add_cancel (by omega)]) (by omega) ?_
      refine V_vret (pc := 86) dX4_answer_86 rfl ?_
      have e5 : μ1.1 s 5 + 1 = nI (sA σ + 1) := by rw [t6, ha1]; exact nI_1 _
      have e8 : μ1.1 (s + 8) (sC σ i - 1) = sG σ (sC σ i - 1) := by rw [t9 _ (by omega), hg1]
      refine ⟨rfl, (SeaR.ans (n := sC σ i - 1) (a := sA σ + 1) (x := sG σ (sC σ i - 1) &&& msk (fav ow (sC σ i) w) w) q1 (by omega) (by omega) (fun k j a1 a2 => by rw [get_ne a2, get_ne a1]) (by rw [get_ne (by omega), get_eq, e5]) (by rw [get_eq, get_ne (by omega), e8, h70]; rfl)).ext ?_, (q2.set (Or.inl rfl)).set (Or.inr (by omega))⟩
      rw [hg1]
      unfold ansT
      simp only
      rw [if_pos (by omega), q3]
    have h70 : fav ow (sC σ i) w = true := by cases hf : fav ow (sC σ i) w; exact absurd ((bI_0 _).mpr hf) h70; rfl
    refine V_iconst (pc := 73) (v := 1) dX4_answer_73 (by decide) ?_
    refine V_iload_n (pc := 74) dX4_answer_74 rfl rfl ?_
    refine V_ishl (pc := 75) dX4_answer_75 ?_
    refine V_goto (pc := 76) (tgt := 84) dX4_answer_76 (by decide) ?_
    refine V_iand (pc := 84) dX4_answer_84 ?_
    refine V_iast (pc := 85) (j := (sC σ i - 1)) dX4_answer_85 (by first | decide | omega) (by first | rfl | assumption | decide) (by rw [get_ne (by omega), y5, hc1, ← cI_s, Nat.sub_add_cancel (by omega)]) (by omega) ?_
    refine V_vret (pc := 86) dX4_answer_86 rfl ?_
    have e5 : μ1.1 s 5 + 1 = nI (sA σ + 1) := by rw [t6, ha1]; exact nI_1 _
    have e8 : μ1.1 (s + 8) (sC σ i - 1) = sG σ (sC σ i - 1) := by rw [t9 _ (by omega), hg1]
    refine ⟨rfl, (SeaR.ans (n := sC σ i - 1) (a := sA σ + 1) (x := sG σ (sC σ i - 1) &&& msk (fav ow (sC σ i) w) w) q1 (by omega) (by omega) (fun k j a1 a2 => by rw [get_ne a2, get_ne a1]) (by rw [get_ne (by omega), get_eq, e5]) (by rw [get_eq, get_ne (by omega), e8, h70]; rfl)).ext ?_, (q2.set (Or.inl rfl)).set (Or.inr (by omega))⟩
    rw [hg1]
    unfold ansT
    simp only
    rw [if_pos (by omega), q3]
  refine V_iload (pc := 11) dX4_answer_11 rfl ?_
  refine V_ifeq (pc := 13) (tgt := 29) dX4_answer_13 (by decide) (fun h13 => ?_) (fun h13 => ?_)
  · have h13 := (bI_0 _).mp h13
    refine V_aload_n (pc := 29) dX4_answer_29 rfl rfl ?_
    refine V_dup (pc := 30) dX4_answer_30 rfl ?_
    refine V_getI (pc := 31) (ci := 5) (j := 4) dX4_answer_31 fl_X4_100 (fun _ _ _ _ => rfl) (by first | decide | omega) (by first | rfl | assumption | decide) ?_
    rw [z8]
    refine V_iconst (pc := 34) (v := 1) dX4_answer_34 (by decide) ?_
    refine V_iadd (pc := 35) dX4_answer_35 ?_
    refine V_putI (pc := 36) (ci := 5) (j := 4) dX4_answer_36 fl_X4_100 (fun _ _ _ _ _ => rfl) rfl rfl (by first | decide | omega) (by first | rfl | assumption | decide) ?_
    exact J _ _ (hS0.st (x := sT σ i + 1) hi) (FrM.rf.set (Or.inr (by omega))) (by rw [h13]; rfl)
  have h13 : fav ow (sC σ i) w = true := by cases hf : fav ow (sC σ i) w; exact absurd ((bI_0 _).mpr hf) h13; rfl
  refine V_aload_n (pc := 16) dX4_answer_16 rfl rfl ?_
  refine V_dup (pc := 17) dX4_answer_17 rfl ?_
  refine V_getI (pc := 18) (ci := 5) (j := 3) dX4_answer_18 fl_X4_97 (fun _ _ _ _ => rfl) (by first | decide | omega) (by first | rfl | assumption | decide) ?_
  rw [z7]
  refine V_iconst (pc := 21) (v := 1) dX4_answer_21 (by decide) ?_
  refine V_iadd (pc := 22) dX4_answer_22 ?_
  refine V_putI (pc := 23) (ci := 5) (j := 3) dX4_answer_23 fl_X4_97 (fun _ _ _ _ _ => rfl) rfl rfl (by first | decide | omega) (by first | rfl | assumption | decide) ?_
  refine V_goto (pc := 26) (tgt := 39) dX4_answer_26 (by decide) ?_
  exact J _ _ (hS0.sv (x := sV σ i + 1) hi) (FrM.rf.set (Or.inr (by omega))) (by rw [h13]; rfl)
theorem dX4_passDay_0 : decode cX4_passDay 0 = .ok (.iconst 0, 1) := by decide +kernel
theorem dX4_passDay_1 : decode cX4_passDay 1 = .ok (.istore_n 3, 1) := by decide +kernel
theorem dX4_passDay_2 : decode cX4_passDay 2 = .ok (.iload_n 3, 1) := by decide +kernel
theorem dX4_passDay_3 : decode cX4_passDay 3 = .ok (.aload_n 0, 1) := by decide +kernel
theorem dX4_passDay_4 : decode cX4_passDay 4 = .ok (.getfield 31, 3) := by decide +kernel
theorem dX4_passDay_7 : decode cX4_passDay 7 = .ok (.if_icmp .ge 70, 3) := by decide +kernel
theorem dX4_passDay_10 : decode cX4_passDay 10 = .ok (.aload_n 0, 1) := by decide +kernel
theorem dX4_passDay_11 : decode cX4_passDay 11 = .ok (.getfield 11, 3) := by decide +kernel
theorem dX4_passDay_14 : decode cX4_passDay 14 = .ok (.iload_n 3, 1) := by decide +kernel
theorem dX4_passDay_15 : decode cX4_passDay 15 = .ok (.aaload, 1) := by decide +kernel
theorem dX4_passDay_16 : decode cX4_passDay 16 = .ok (.astore 4, 2) := by decide +kernel
theorem dX4_passDay_18 : decode cX4_passDay 18 = .ok (.aload 4, 2) := by decide +kernel
theorem dX4_passDay_20 : decode cX4_passDay 20 = .ok (.getfield 67, 3) := by decide +kernel
theorem dX4_passDay_23 : decode cX4_passDay 23 = .ok (.iconst (-1), 1) := by decide +kernel
theorem dX4_passDay_24 : decode cX4_passDay 24 = .ok (.if_icmp .eq 16, 3) := by decide +kernel
theorem dX4_passDay_27 : decode cX4_passDay 27 = .ok (.iload_n 2, 1) := by decide +kernel
theorem dX4_passDay_28 : decode cX4_passDay 28 = .ok (.iconst 4, 1) := by decide +kernel
theorem dX4_passDay_29 : decode cX4_passDay 29 = .ok (.if_icmp .eq 11, 3) := by decide +kernel
theorem dX4_passDay_32 : decode cX4_passDay 32 = .ok (.aload_n 0, 1) := by decide +kernel
theorem dX4_passDay_33 : decode cX4_passDay 33 = .ok (.aload_n 1, 1) := by decide +kernel
theorem dX4_passDay_34 : decode cX4_passDay 34 = .ok (.aload 4, 2) := by decide +kernel
theorem dX4_passDay_36 : decode cX4_passDay 36 = .ok (.iload_n 2, 1) := by decide +kernel
theorem dX4_passDay_37 : decode cX4_passDay 37 = .ok (.invokevirtual 80, 3) := by decide +kernel
theorem dX4_passDay_40 : decode cX4_passDay 40 = .ok (.aload 4, 2) := by decide +kernel
theorem dX4_passDay_42 : decode cX4_passDay 42 = .ok (.aload_n 1, 1) := by decide +kernel
theorem dX4_passDay_43 : decode cX4_passDay 43 = .ok (.aload 4, 2) := by decide +kernel
theorem dX4_passDay_45 : decode cX4_passDay 45 = .ok (.getfield 84, 3) := by decide +kernel
theorem dX4_passDay_48 : decode cX4_passDay 48 = .ok (.aload 4, 2) := by decide +kernel
theorem dX4_passDay_50 : decode cX4_passDay 50 = .ok (.getfield 64, 3) := by decide +kernel
theorem dX4_passDay_53 : decode cX4_passDay 53 = .ok (.aload 4, 2) := by decide +kernel
theorem dX4_passDay_55 : decode cX4_passDay 55 = .ok (.getfield 67, 3) := by decide +kernel
theorem dX4_passDay_58 : decode cX4_passDay 58 = .ok (.iload_n 2, 1) := by decide +kernel
theorem dX4_passDay_59 : decode cX4_passDay 59 = .ok (.invokestatic 87, 3) := by decide +kernel
theorem dX4_passDay_62 : decode cX4_passDay 62 = .ok (.putfield 64, 3) := by decide +kernel
theorem dX4_passDay_65 : decode cX4_passDay 65 = .ok (.aload 4, 2) := by decide +kernel
theorem dX4_passDay_67 : decode cX4_passDay 67 = .ok (.iconst (-1), 1) := by decide +kernel
theorem dX4_passDay_68 : decode cX4_passDay 68 = .ok (.putfield 67, 3) := by decide +kernel
theorem dX4_passDay_71 : decode cX4_passDay 71 = .ok (.iinc 3 1, 3) := by decide +kernel
theorem dX4_passDay_74 : decode cX4_passDay 74 = .ok (.goto (-72), 3) := by decide +kernel
theorem dX4_passDay_77 : decode cX4_passDay 77 = .ok (.aload_n 0, 1) := by decide +kernel
theorem dX4_passDay_78 : decode cX4_passDay 78 = .ok (.dup, 1) := by decide +kernel
theorem dX4_passDay_79 : decode cX4_passDay 79 = .ok (.getfield 38, 3) := by decide +kernel
theorem dX4_passDay_82 : decode cX4_passDay 82 = .ok (.iconst 1, 1) := by decide +kernel
theorem dX4_passDay_83 : decode cX4_passDay 83 = .ok (.iadd, 1) := by decide +kernel
theorem dX4_passDay_84 : decode cX4_passDay 84 = .ok (.putfield 38, 3) := by decide +kernel
theorem dX4_passDay_87 : decode cX4_passDay 87 = .ok (.return_, 1) := by decide +kernel
set_option maxHeartbeats 4000000 in
set_option maxRecDepth 100000 in
theorem c_X4_passDay {l : Launch} {g : GW} {s b w : Nat} {tn : Nat → Nat → Nat} {ow : Nat → Nat} {σ : SeaT} (μ : Mm) (hs : s = 4 ∨ s = 13 ∨ s = 22) (hS : SeaR μ s σ) (hb : b = 49 ∨ b = 57) (hB : BkR μ b tn ow) (hw : w ≤ 4) : Con l g yX4_passDay cX4_passDay 5 none 3 [.ref s, .ref b, .int (nI w)] μ (fun r μ' => r = none ∧ SeaR μ' s (dayT ow w σ) ∧ FrM (seaS s) μ μ') := by
  have hS0 := hS
  obtain ⟨hs1, hs2, hs3, hs4, hs5, hs6, hrow⟩ := seaF hs
  obtain ⟨r1, r2, r3, r4, r5, r6, r7, r8, r9⟩ := hS
  obtain ⟨hb1, hb2, hb3, hb4, hb5, hb6, hrowb⟩ := bkF hb
  have hap : ∀ k, b + 2 ≤ k → k ≤ b + 7 → ¬ seaS s k := fun k h1 h2 q => by rcases q with q | q <;> omega
  refine Con.of [.ref s, .ref b, .int (nI w), .null, .null] 2 (by decide +kernel) (Nat.le_of_ble_eq_true rfl) rfl ?_
  refine V_iconst (pc := 0) (v := 0) dX4_passDay_0 (by decide) ?_
  refine V_istore3 (pc := 1) dX4_passDay_1 (by decide) rfl ?_
  have loopA : ∀ (nA i : Nat) (μ1 : Mm) (y4 : Value), i ≤ sN σ → sN σ < i + nA → (SeaR μ1 s (pdT ow w σ i)) → (FrM (seaS s) μ μ1) → (okp [Value.null, Value.null, Value.null, Value.null, y4] 5 = true) → V l g RX4 cX4_passDay 5 none 3 2 [.ref s, .ref b, .int (nI w), .int (nI i), y4] [] μ1 (fun r μ' => r = none ∧ SeaR μ' s (dayT ow w σ) ∧ FrM (seaS s) μ μ') := by
    intro nA
    induction nA with
    | zero => intro i μ1 y4 h1 h2; exact absurd h2 (by omega)
    | succ nA ihA =>
      intro i μ1 y4 hleA hfuA q1 q2 oky
      refine V_iload_n (pc := 2) dX4_passDay_2 rfl rfl ?_
      refine V_aload_n (pc := 3) dX4_passDay_3 rfl rfl ?_
      refine V_getI (pc := 4) (ci := 4) (j := 2) dX4_passDay_4 fl_X4_31 (fun _ _ _ _ => rfl) (by first | decide | omega) (by first | rfl | assumption | exact (hrow _ (by omega)).2 | decide) ?_
      refine V_icmpge (pc := 7) (tgt := 77) dX4_passDay_7 (by decide) (fun h7 => ?_) (fun h7 => ?_)
      · have e1 := q1.1; rw [pdT_N] at e1; rw [e1, nI_leI (by omega) (by omega)] at h7; obtain rfl : i = sN σ := by omega
        refine V_aload_n (pc := 77) dX4_passDay_77 rfl rfl ?_
        refine V_dup (pc := 78) dX4_passDay_78 rfl ?_
        refine V_getI (pc := 79) (ci := 4) (j := 4) dX4_passDay_79 fl_X4_38 (fun _ _ _ _ => rfl) (by first | decide | omega) (by first | rfl | assumption | exact (hrow _ (by omega)).2 | decide) ?_
        refine V_iconst (pc := 82) (v := 1) dX4_passDay_82 (by decide) ?_
        refine V_iadd (pc := 83) dX4_passDay_83 ?_
        refine V_putI (pc := 84) (ci := 4) (j := 4) dX4_passDay_84 fl_X4_38 (fun _ _ _ _ _ => rfl) rfl rfl (by first | decide | omega) (by first | rfl | assumption | exact (hrow _ (by omega)).2 | decide) ?_
        refine V_vret (pc := 87) dX4_passDay_87 rfl ?_
        exact ⟨rfl, q1.setD.ext (by rw [q1.2.2.2.2.1]; rfl), q2.set (Or.inl rfl)⟩
      have e1 := q1.1; rw [pdT_N] at e1; rw [e1, nI_leI (by omega) (by omega)] at h7; have hlt : i < sN σ := (by omega); obtain ⟨z1, z2, z3, z4, z5, z6, z7, z8⟩ := q1.2.2.2.2.2.2.2.1 i (by omega)
      refine V_aload_n (pc := 10) dX4_passDay_10 rfl rfl ?_
      refine V_getR (pc := 11) (ci := 4) (j := 0) (k2 := (s + 1)) dX4_passDay_11 fl_X4_11 (fun _ _ _ _ => rfl) (by first | decide | omega) (by first | rfl | assumption | exact (hrow _ (by omega)).2 | decide) (rf_4_0 (by first | rfl | assumption | exact (hrow _ (by omega)).2 | decide)) ?_
      refine V_iload_n (pc := 14) dX4_passDay_14 rfl rfl ?_
      refine V_aald14 (pc := 15) (j := i) dX4_passDay_15 (by first | decide | omega) (by first | rfl | assumption | exact (hrow _ (by omega)).2 | decide) rfl (by omega) ?_
      refine V_astore4 (pc := 16) dX4_passDay_16 (by decide) rfl ?_
      have J : ∀ (μ2 : Mm) (σ2 : SeaT), SeaR μ2 s σ2 → FrM (seaS s) μ μ2 → σ2 = (if sC (pdT ow w σ i) i ≠ 0 ∧ w ≠ 4 then ansT ow w i (pdT ow w σ i) else pdT ow w σ i) → V l g RX4 cX4_passDay 5 none 3 40 [.ref s, .ref b, .int (nI w), .int (nI i), .ref (s + 1 + 1 + i)] [] μ2 (fun r μ' => r = none ∧ SeaR μ' s (dayT ow w σ) ∧ FrM (seaS s) μ μ') := by
        intro μ2 σ2 k1 k2 k3
        obtain ⟨y1, y2, y3, y4, y5, y6, y7, y8⟩ := k1.2.2.2.2.2.2.2.1 i (by omega)
        refine V_aload (pc := 40) dX4_passDay_40 rfl ?_
        refine V_aload_n (pc := 42) dX4_passDay_42 rfl rfl ?_
        refine V_aload (pc := 43) dX4_passDay_43 rfl ?_
        refine V_getI (pc := 45) (ci := 5) (j := 0) dX4_passDay_45 fl_X4_84 (fun _ _ _ _ => rfl) (by first | decide | omega) (by first | rfl | assumption | exact (hrow _ (by omega)).2 | decide) ?_
        rw [y1]
        refine V_aload (pc := 48) dX4_passDay_48 rfl ?_
        refine V_getI (pc := 50) (ci := 5) (j := 1) dX4_passDay_50 fl_X4_64 (fun _ _ _ _ => rfl) (by first | decide | omega) (by first | rfl | assumption | exact (hrow _ (by omega)).2 | decide) ?_
        rw [y3]
        refine V_aload (pc := 53) dX4_passDay_53 rfl ?_
        refine V_getI (pc := 55) (ci := 5) (j := 2) dX4_passDay_55 fl_X4_67 (fun _ _ _ _ => rfl) (by first | decide | omega) (by first | rfl | assumption | exact (hrow _ (by omega)).2 | decide) ?_
        rw [y5]
        refine V_iload_n (pc := 58) dX4_passDay_58 rfl rfl ?_
        refine V_ins5 (pc := 59) dX4_passDay_59 ml_X4_87 (by first | decide | omega) (Nat.le_of_ble_eq_true rfl) (c_X7_placeAfter μ2 hb (hB.kept k2 hap) y2 y4 y6 hw) ?_
        rintro _ μ3 ⟨rfl, hμ⟩
        obtain rfl := hμ.symm
        refine V_putI (pc := 62) (ci := 5) (j := 1) dX4_passDay_62 fl_X4_64 (fun _ _ _ _ _ => rfl) rfl rfl (by first | decide | omega) (by first | rfl | assumption | exact (hrow _ (by omega)).2 | decide) ?_
        refine V_aload (pc := 65) dX4_passDay_65 rfl ?_
        refine V_iconst (pc := 67) (v := (-1)) dX4_passDay_67 (by decide) ?_
        refine V_putI (pc := 68) (ci := 5) (j := 2) dX4_passDay_68 fl_X4_67 (fun _ _ _ _ _ => rfl) rfl rfl (by first | decide | omega) (by first | rfl | assumption | exact (hrow _ (by omega)).2 | decide) ?_
        refine V_iinc3 (pc := 71) (v := nI (i + 1)) dX4_passDay_71 (nI_1 i) (by decide) rfl ?_
        refine V_goto (pc := 74) (tgt := 2) dX4_passDay_74 (by decide) ?_
        have m1 := (k1.sp (i := i) (by omega) (aft_le (ow := ow) (κ := sK σ2 i) (k := sC σ2 i) (w := w) y4) rfl).setC (i := i) (c := 0) (x := -1) (by omega) (by omega) cI_0.symm
        refine ihA (i + 1) _ _ (by omega) (by omega) (m1.ext ?_) ((k2.set (Or.inr (by omega))).set (Or.inr (by omega))) rfl
        rw [k3]
        simp only [pdT]
        show mkSea _ _ _ _ _ _ _ _ _ _ = mkSea _ _ _ _ _ _ _ _ _ _
        simp only [sN, sK, sP, sC, sV, sT, sS, sD, sA, sG, wShip, mkSea, up1_up1, up1_id]
      refine V_aload (pc := 18) dX4_passDay_18 rfl ?_
      refine V_getI (pc := 20) (ci := 5) (j := 2) dX4_passDay_20 fl_X4_67 (fun _ _ _ _ => rfl) (by first | decide | omega) (by first | rfl | assumption | exact (hrow _ (by omega)).2 | decide) ?_
      refine V_iconst (pc := 23) (v := (-1)) dX4_passDay_23 (by decide) ?_
      refine V_icmpeq (pc := 24) (tgt := 40) dX4_passDay_24 (by decide) (fun h24 => ?_) (fun h24 => ?_)
      · rw [z5] at h24; have h24 := (cI_m1 (by omega)).mp h24; exact J μ1 _ q1 q2 (if_neg (fun q => q.1 h24)).symm
      rw [z5] at h24; have h24 := mt (cI_m1 (a := sC (pdT ow w σ i) i) (by omega)).mpr h24
      refine V_iload_n (pc := 27) dX4_passDay_27 rfl rfl ?_
      refine V_iconst (pc := 28) (v := 4) dX4_passDay_28 (by decide) ?_
      refine V_icmpeq (pc := 29) (tgt := 40) dX4_passDay_29 (by decide) (fun h29 => ?_) (fun h29 => ?_)
      · have h29 := (nI_eq (a := w) (b := 4) (by omega) (by decide)).mp h29; exact J μ1 _ q1 q2 (if_neg (fun q => q.2 h29)).symm
      have h29 := mt (nI_eq (a := w) (b := 4) (by omega) (by decide)).mpr h29
      refine V_aload_n (pc := 32) dX4_passDay_32 rfl rfl ?_
      refine V_aload_n (pc := 33) dX4_passDay_33 rfl rfl ?_
      refine V_aload (pc := 34) dX4_passDay_34 rfl ?_
      refine V_iload_n (pc := 36) dX4_passDay_36 rfl rfl ?_
      refine V_inv3 (pc := 37) (ci := 4) dX4_passDay_37 ml_X4_80 (by first | decide | omega) (by first | rfl | assumption | exact (hrow _ (by omega)).2 | decide) ⟨by decide, rfl⟩ (by decide) (Nat.le_of_ble_eq_true rfl) (c_X4_answer μ1 hs q1 hb (hB.kept q2 hap) (show i < 6 by omega) (by omega) h24) ?_
      rintro _ μ2 ⟨rfl, k1, k2⟩
      exact J μ2 _ k1 (q2.tr k2 (fun _ q => q)) (if_pos ⟨h24, h29⟩).symm
  exact loopA (sN σ + 1) 0 _ _ (by omega) (by omega) hS0 FrM.rf rfl
