theorem dX3_takes_0 : decode cX3_takes 0 = .ok (.aload_n 0, 1) := by decide +kernel
theorem dX3_takes_1 : decode cX3_takes 1 = .ok (.getfield 16, 3) := by decide +kernel
theorem dX3_takes_4 : decode cX3_takes 4 = .ok (.tableswitch 113 0 6 #[44, 71, 98, 113, 113, 113, 107], 44) := by decide +kernel
theorem dX3_takes_48 : decode cX3_takes 48 = .ok (.aload_n 0, 1) := by decide +kernel
theorem dX3_takes_49 : decode cX3_takes 49 = .ok (.iload_n 1, 1) := by decide +kernel
theorem dX3_takes_50 : decode cX3_takes 50 = .ok (.bipush 45, 2) := by decide +kernel
theorem dX3_takes_52 : decode cX3_takes 52 = .ok (.iconst 2, 1) := by decide +kernel
theorem dX3_takes_53 : decode cX3_takes 53 = .ok (.invokevirtual 36, 3) := by decide +kernel
theorem dX3_takes_56 : decode cX3_takes 56 = .ok (.ifCond .ne 13, 3) := by decide +kernel
theorem dX3_takes_59 : decode cX3_takes 59 = .ok (.aload_n 0, 1) := by decide +kernel
theorem dX3_takes_60 : decode cX3_takes 60 = .ok (.iload_n 1, 1) := by decide +kernel
theorem dX3_takes_61 : decode cX3_takes 61 = .ok (.aload_n 2, 1) := by decide +kernel
theorem dX3_takes_62 : decode cX3_takes 62 = .ok (.iconst 1, 1) := by decide +kernel
theorem dX3_takes_63 : decode cX3_takes 63 = .ok (.invokevirtual 40, 3) := by decide +kernel
theorem dX3_takes_66 : decode cX3_takes 66 = .ok (.ifCond .eq 7, 3) := by decide +kernel
theorem dX3_takes_69 : decode cX3_takes 69 = .ok (.iconst 1, 1) := by decide +kernel
theorem dX3_takes_70 : decode cX3_takes 70 = .ok (.goto 4, 3) := by decide +kernel
theorem dX3_takes_73 : decode cX3_takes 73 = .ok (.iconst 0, 1) := by decide +kernel
theorem dX3_takes_74 : decode cX3_takes 74 = .ok (.ireturn, 1) := by decide +kernel
theorem dX3_takes_75 : decode cX3_takes 75 = .ok (.aload_n 0, 1) := by decide +kernel
theorem dX3_takes_76 : decode cX3_takes 76 = .ok (.iload_n 1, 1) := by decide +kernel
theorem dX3_takes_77 : decode cX3_takes 77 = .ok (.bipush 58, 2) := by decide +kernel
theorem dX3_takes_79 : decode cX3_takes 79 = .ok (.iconst 3, 1) := by decide +kernel
theorem dX3_takes_80 : decode cX3_takes 80 = .ok (.invokevirtual 36, 3) := by decide +kernel
theorem dX3_takes_83 : decode cX3_takes 83 = .ok (.ifCond .ne 13, 3) := by decide +kernel
theorem dX3_takes_86 : decode cX3_takes 86 = .ok (.aload_n 0, 1) := by decide +kernel
theorem dX3_takes_87 : decode cX3_takes 87 = .ok (.iload_n 1, 1) := by decide +kernel
theorem dX3_takes_88 : decode cX3_takes 88 = .ok (.aload_n 2, 1) := by decide +kernel
theorem dX3_takes_89 : decode cX3_takes 89 = .ok (.iconst 2, 1) := by decide +kernel
theorem dX3_takes_90 : decode cX3_takes 90 = .ok (.invokevirtual 40, 3) := by decide +kernel
theorem dX3_takes_93 : decode cX3_takes 93 = .ok (.ifCond .eq 7, 3) := by decide +kernel
theorem dX3_takes_96 : decode cX3_takes 96 = .ok (.iconst 1, 1) := by decide +kernel
theorem dX3_takes_97 : decode cX3_takes 97 = .ok (.goto 4, 3) := by decide +kernel
theorem dX3_takes_100 : decode cX3_takes 100 = .ok (.iconst 0, 1) := by decide +kernel
theorem dX3_takes_101 : decode cX3_takes 101 = .ok (.ireturn, 1) := by decide +kernel
theorem dX3_takes_102 : decode cX3_takes 102 = .ok (.aload_n 0, 1) := by decide +kernel
theorem dX3_takes_103 : decode cX3_takes 103 = .ok (.iload_n 1, 1) := by decide +kernel
theorem dX3_takes_104 : decode cX3_takes 104 = .ok (.bipush 58, 2) := by decide +kernel
theorem dX3_takes_106 : decode cX3_takes 106 = .ok (.iconst 3, 1) := by decide +kernel
theorem dX3_takes_107 : decode cX3_takes 107 = .ok (.invokevirtual 36, 3) := by decide +kernel
theorem dX3_takes_110 : decode cX3_takes 110 = .ok (.ireturn, 1) := by decide +kernel
theorem dX3_takes_111 : decode cX3_takes 111 = .ok (.aload_n 0, 1) := by decide +kernel
theorem dX3_takes_112 : decode cX3_takes 112 = .ok (.iload_n 1, 1) := by decide +kernel
theorem dX3_takes_113 : decode cX3_takes 113 = .ok (.invokevirtual 44, 3) := by decide +kernel
theorem dX3_takes_116 : decode cX3_takes 116 = .ok (.ireturn, 1) := by decide +kernel
theorem dX3_takes_117 : decode cX3_takes 117 = .ok (.aload_n 0, 1) := by decide +kernel
theorem dX3_takes_118 : decode cX3_takes 118 = .ok (.iload_n 1, 1) := by decide +kernel
theorem dX3_takes_119 : decode cX3_takes 119 = .ok (.aload_n 2, 1) := by decide +kernel
theorem dX3_takes_120 : decode cX3_takes 120 = .ok (.invokevirtual 48, 3) := by decide +kernel
theorem dX3_takes_123 : decode cX3_takes 123 = .ok (.ireturn, 1) := by decide +kernel
set_option maxHeartbeats 4000000 in
set_option maxRecDepth 100000 in
theorem c_X3_takes {l : Launch} {g : GW} {c b x w : Nat} {tn : Nat → Nat → Nat} {ow : Nat → Nat} (μ : Mm) (hc : c < 127) (hb : b = 49 ∨ b = 57) (hB : BkR μ b tn ow) (hR : RdR μ x w) (hok : PsOK (x, w, tn, ow)) : Con l g yX3_takes cX3_takes 3 (some .boolean) 2 [.ref 3, .int (nI c), .ref b] μ (tkQ b c (x, w, tn, ow) μ) := by
  obtain ⟨hb1, hb2, hb3, hb4, hb5, hb6, hrow⟩ := bkF hb
  obtain ⟨d1, d2, d3, d4⟩ := id hR
  refine Con.of [.ref 3, .int (nI c), .ref b] 0 (by decide +kernel) (Nat.le_of_ble_eq_true rfl) rfl ?_
  refine V_aload_n (pc := 0) dX3_takes_0 rfl rfl ?_
  refine V_getI (pc := 1) (ci := 3) (j := 0) dX3_takes_1 fl_X3_16 (fun _ _ _ _ => rfl) (by decide) rfl ?_
  rw [d1]
  have hsel : x = 0 ∨ x = 1 ∨ x = 2 ∨ x = 3 ∨ x = 4 ∨ x = 5 ∨ x = 6 := by omega
  rcases hsel with hs4 | hs4 | hs4 | hs4 | hs4 | hs4 | hs4
  · subst hs4
    refine V_tsIn (pc := 4) (off := 44) (tgt := 48) dX3_takes_4 (by decide) (by decide) (by decide) (by decide) ?_
    refine V_aload_n (pc := 48) dX3_takes_48 rfl rfl ?_
    refine V_iload_n (pc := 49) dX3_takes_49 rfl rfl ?_
    refine V_bipush (pc := 50) (v := 45) dX3_takes_50 (by decide) ?_
    refine V_iconst (pc := 52) (v := 2) dX3_takes_52 (by decide) ?_
    refine V_inv3 (pc := 53) (ci := 3) dX3_takes_53 ml_X3_36 (by decide) rfl ⟨by decide, rfl⟩ (by decide) (Nat.le_of_ble_eq_true rfl) (c_X3_takesMark (m := 45) (t := 2) μ hc (by decide)) ?_
    intro r μ1 hq
    by_cases hm : c = 45
    · rw [if_pos hm] at hq
      obtain ⟨rfl, rfl⟩ := hq
      refine V_ifne (pc := 56) (tgt := 69) dX3_takes_56 (by decide) (fun _ => ?_) (fun h => absurd h (by decide))
      refine V_iconst (pc := 69) (v := 1) dX3_takes_69 (by decide) ?_
      refine V_goto (pc := 70) (tgt := 74) dX3_takes_70 (by decide) ?_
      refine V_zret (pc := 74) dX3_takes_74 rfl (Or.inr rfl) ?_
      exact tkQ_yes (x := 2) (w := w) (tn := tn) (ow := ow) (FrM.rf.set (Or.inl rfl)) (by simp [pst, hm]) (hR.setX (by decide) rfl) (hB.kept (FrM.rf.set (S := fun k => k = 3) rfl) (fun k h1 h2 q => by have : k = 3 := q; omega))
    rw [if_neg hm] at hq
    obtain ⟨rfl, hμ⟩ := hq
    obtain rfl := hμ.symm
    refine V_ifne (pc := 56) (tgt := 69) dX3_takes_56 (by decide) (fun h56 => ?_) (fun h56 => ?_)
    · exact absurd rfl h56
    refine V_aload_n (pc := 59) dX3_takes_59 rfl rfl ?_
    refine V_iload_n (pc := 60) dX3_takes_60 rfl rfl ?_
    refine V_aload_n (pc := 61) dX3_takes_61 rfl rfl ?_
    refine V_iconst (pc := 62) (v := 1) dX3_takes_62 (by decide) ?_
    refine V_inv3 (pc := 63) (ci := 3) dX3_takes_63 ml_X3_40 (by decide) rfl ⟨by decide, rfl⟩ (by decide) (Nat.le_of_ble_eq_true rfl) (c_X3_takesName (t := 1) μ hc (by decide) hb hB hR) ?_
    intro r μ1 hq
    by_cases hn : 48 ≤ c ∧ c < 54 ∧ ow (c - 48) = 0
    · rw [if_pos hn] at hq
      obtain ⟨rfl, k1, k2, k3⟩ := hq
      refine V_ifeq (pc := 66) (tgt := 73) dX3_takes_66 (by decide) (fun h => absurd h (by decide)) (fun _ => ?_)
      refine V_iconst (pc := 69) (v := 1) dX3_takes_69 (by decide) ?_
      refine V_goto (pc := 70) (tgt := 74) dX3_takes_70 (by decide) ?_
      refine V_zret (pc := 74) dX3_takes_74 rfl (Or.inr rfl) ?_
      exact tkQ_yes k3 (by simp [pst, hm, nmP, hn]) k1 k2
    rw [if_neg hn] at hq
    obtain ⟨rfl, hμ⟩ := hq
    obtain rfl := hμ.symm
    refine V_ifeq (pc := 66) (tgt := 73) dX3_takes_66 (by decide) (fun h66 => ?_) (fun h66 => ?_)
    · refine V_iconst (pc := 73) (v := 0) dX3_takes_73 (by decide) ?_
      refine V_zret (pc := 74) dX3_takes_74 rfl (by first | exact Or.inl rfl | exact Or.inr rfl | assumption) ?_
      exact tkQ_no FrM.rf (by simp [pst, hm, nmP]; intro a1 a2 a3; exact hn ⟨a1, a2, a3⟩)
    exact absurd rfl h66
  · subst hs4
    refine V_tsIn (pc := 4) (off := 71) (tgt := 75) dX3_takes_4 (by decide) (by decide) (by decide) (by decide) ?_
    refine V_aload_n (pc := 75) dX3_takes_75 rfl rfl ?_
    refine V_iload_n (pc := 76) dX3_takes_76 rfl rfl ?_
    refine V_bipush (pc := 77) (v := 58) dX3_takes_77 (by decide) ?_
    refine V_iconst (pc := 79) (v := 3) dX3_takes_79 (by decide) ?_
    refine V_inv3 (pc := 80) (ci := 3) dX3_takes_80 ml_X3_36 (by decide) rfl ⟨by decide, rfl⟩ (by decide) (Nat.le_of_ble_eq_true rfl) (c_X3_takesMark (m := 58) (t := 3) μ hc (by decide)) ?_
    intro r μ1 hq
    by_cases hm : c = 58
    · rw [if_pos hm] at hq
      obtain ⟨rfl, rfl⟩ := hq
      refine V_ifne (pc := 83) (tgt := 96) dX3_takes_83 (by decide) (fun _ => ?_) (fun h => absurd h (by decide))
      refine V_iconst (pc := 96) (v := 1) dX3_takes_96 (by decide) ?_
      refine V_goto (pc := 97) (tgt := 101) dX3_takes_97 (by decide) ?_
      refine V_zret (pc := 101) dX3_takes_101 rfl (Or.inr rfl) ?_
      exact tkQ_yes (x := 3) (w := w) (tn := tn) (ow := ow) (FrM.rf.set (Or.inl rfl)) (by simp [pst, hm]) (hR.setX (by decide) rfl) (hB.kept (FrM.rf.set (S := fun k => k = 3) rfl) (fun k h1 h2 q => by have : k = 3 := q; omega))
    rw [if_neg hm] at hq
    obtain ⟨rfl, hμ⟩ := hq
    obtain rfl := hμ.symm
    refine V_ifne (pc := 83) (tgt := 96) dX3_takes_83 (by decide) (fun h83 => ?_) (fun h83 => ?_)
    · exact absurd rfl h83
    refine V_aload_n (pc := 86) dX3_takes_86 rfl rfl ?_
    refine V_iload_n (pc := 87) dX3_takes_87 rfl rfl ?_
    refine V_aload_n (pc := 88) dX3_takes_88 rfl rfl ?_
    refine V_iconst (pc := 89) (v := 2) dX3_takes_89 (by decide) ?_
    refine V_inv3 (pc := 90) (ci := 3) dX3_takes_90 ml_X3_40 (by decide) rfl ⟨by decide, rfl⟩ (by decide) (Nat.le_of_ble_eq_true rfl) (c_X3_takesName (t := 2) μ hc (by decide) hb hB hR) ?_
    intro r μ1 hq
    by_cases hn : 48 ≤ c ∧ c < 54 ∧ ow (c - 48) = 0
    · rw [if_pos hn] at hq
      obtain ⟨rfl, k1, k2, k3⟩ := hq
      refine V_ifeq (pc := 93) (tgt := 100) dX3_takes_93 (by decide) (fun h => absurd h (by decide)) (fun _ => ?_)
      refine V_iconst (pc := 96) (v := 1) dX3_takes_96 (by decide) ?_
      refine V_goto (pc := 97) (tgt := 101) dX3_takes_97 (by decide) ?_
      refine V_zret (pc := 101) dX3_takes_101 rfl (Or.inr rfl) ?_
      exact tkQ_yes k3 (by simp [pst, hm, nmP, hn]) k1 k2
    rw [if_neg hn] at hq
    obtain ⟨rfl, hμ⟩ := hq
    obtain rfl := hμ.symm
    refine V_ifeq (pc := 93) (tgt := 100) dX3_takes_93 (by decide) (fun h93 => ?_) (fun h93 => ?_)
    · refine V_iconst (pc := 100) (v := 0) dX3_takes_100 (by decide) ?_
      refine V_zret (pc := 101) dX3_takes_101 rfl (by first | exact Or.inl rfl | exact Or.inr rfl | assumption) ?_
      exact tkQ_no FrM.rf (by simp [pst, hm, nmP]; intro a1 a2 a3; exact hn ⟨a1, a2, a3⟩)
    exact absurd rfl h93
  · subst hs4
    refine V_tsIn (pc := 4) (off := 98) (tgt := 102) dX3_takes_4 (by decide) (by decide) (by decide) (by decide) ?_
    refine V_aload_n (pc := 102) dX3_takes_102 rfl rfl ?_
    refine V_iload_n (pc := 103) dX3_takes_103 rfl rfl ?_
    refine V_bipush (pc := 104) (v := 58) dX3_takes_104 (by decide) ?_
    refine V_iconst (pc := 106) (v := 3) dX3_takes_106 (by decide) ?_
    refine V_inv3 (pc := 107) (ci := 3) dX3_takes_107 ml_X3_36 (by decide) rfl ⟨by decide, rfl⟩ (by decide) (Nat.le_of_ble_eq_true rfl) (c_X3_takesMark (m := 58) (t := 3) μ hc (by decide)) ?_
    intro r μ1 hq
    by_cases hm : c = 58
    · rw [if_pos hm] at hq
      obtain ⟨rfl, rfl⟩ := hq
      refine V_zret (pc := 110) dX3_takes_110 rfl (Or.inr rfl) ?_
      exact tkQ_yes (x := 3) (w := w) (tn := tn) (ow := ow) (FrM.rf.set (Or.inl rfl)) (by simp [pst, hm]) (hR.setX (by decide) rfl) (hB.kept (FrM.rf.set (S := fun k => k = 3) rfl) (fun k h1 h2 q => by have : k = 3 := q; omega))
    rw [if_neg hm] at hq
    obtain ⟨rfl, hμ⟩ := hq
    obtain rfl := hμ.symm
    refine V_zret (pc := 110) dX3_takes_110 rfl (by first | exact Or.inl rfl | exact Or.inr rfl | assumption) ?_
    exact tkQ_no FrM.rf (by simp [pst, hm])
  · subst hs4
    refine V_tsIn (pc := 4) (off := 113) (tgt := 117) dX3_takes_4 (by decide) (by decide) (by decide) (by decide) ?_
    refine V_aload_n (pc := 117) dX3_takes_117 rfl rfl ?_
    refine V_iload_n (pc := 118) dX3_takes_118 rfl rfl ?_
    refine V_aload_n (pc := 119) dX3_takes_119 rfl rfl ?_
    refine V_inv2 (pc := 120) (ci := 3) dX3_takes_120 ml_X3_48 (by decide) rfl ⟨by decide, rfl⟩ (by decide) (Nat.le_of_ble_eq_true rfl) (c_X3_takesTenths μ hc (by omega) (by omega) hb hB hR (hok.2.2 w _ (by omega) (Or.inr ⟨rfl, by show _ ≤ _ - 3 + 3; omega⟩))) ?_
    intro r μ1 hq
    split at hq
    · rename_i hn
      obtain ⟨rfl, k1, k2, k3⟩ := hq
      refine V_zret (pc := 123) dX3_takes_123 rfl (Or.inr rfl) ?_
      exact tkQ_yes k3 (by rw [pst_t (by decide) (by decide) (by decide) (by decide)]; exact if_pos hn) k1 k2
    rename_i hn
    obtain ⟨rfl, hμ⟩ := hq
    obtain rfl := hμ.symm
    refine V_zret (pc := 123) dX3_takes_123 rfl (by first | exact Or.inl rfl | exact Or.inr rfl | assumption) ?_
    exact tkQ_no FrM.rf (by rw [pst_t (by decide) (by decide) (by decide) (by decide)]; exact if_neg hn)
  · subst hs4
    refine V_tsIn (pc := 4) (off := 113) (tgt := 117) dX3_takes_4 (by decide) (by decide) (by decide) (by decide) ?_
    refine V_aload_n (pc := 117) dX3_takes_117 rfl rfl ?_
    refine V_iload_n (pc := 118) dX3_takes_118 rfl rfl ?_
    refine V_aload_n (pc := 119) dX3_takes_119 rfl rfl ?_
    refine V_inv2 (pc := 120) (ci := 3) dX3_takes_120 ml_X3_48 (by decide) rfl ⟨by decide, rfl⟩ (by decide) (Nat.le_of_ble_eq_true rfl) (c_X3_takesTenths μ hc (by omega) (by omega) hb hB hR (hok.2.2 w _ (by omega) (Or.inr ⟨rfl, by show _ ≤ _ - 3 + 3; omega⟩))) ?_
    intro r μ1 hq
    split at hq
    · rename_i hn
      obtain ⟨rfl, k1, k2, k3⟩ := hq
      refine V_zret (pc := 123) dX3_takes_123 rfl (Or.inr rfl) ?_
      exact tkQ_yes k3 (by rw [pst_t (by decide) (by decide) (by decide) (by decide)]; exact if_pos hn) k1 k2
    rename_i hn
    obtain ⟨rfl, hμ⟩ := hq
    obtain rfl := hμ.symm
    refine V_zret (pc := 123) dX3_takes_123 rfl (by first | exact Or.inl rfl | exact Or.inr rfl | assumption) ?_
    exact tkQ_no FrM.rf (by rw [pst_t (by decide) (by decide) (by decide) (by decide)]; exact if_neg hn)
  · subst hs4
    refine V_tsIn (pc := 4) (off := 113) (tgt := 117) dX3_takes_4 (by decide) (by decide) (by decide) (by decide) ?_
    refine V_aload_n (pc := 117) dX3_takes_117 rfl rfl ?_
    refine V_iload_n (pc := 118) dX3_takes_118 rfl rfl ?_
    refine V_aload_n (pc := 119) dX3_takes_119 rfl rfl ?_
    refine V_inv2 (pc := 120) (ci := 3) dX3_takes_120 ml_X3_48 (by decide) rfl ⟨by decide, rfl⟩ (by decide) (Nat.le_of_ble_eq_true rfl) (c_X3_takesTenths μ hc (by omega) (by omega) hb hB hR (hok.2.2 w _ (by omega) (Or.inr ⟨rfl, by show _ ≤ _ - 3 + 3; omega⟩))) ?_
    intro r μ1 hq
    split at hq
    · rename_i hn
      obtain ⟨rfl, k1, k2, k3⟩ := hq
      refine V_zret (pc := 123) dX3_takes_123 rfl (Or.inr rfl) ?_
      exact tkQ_yes k3 (by rw [pst_t (by decide) (by decide) (by decide) (by decide)]; exact if_pos hn) k1 k2
    rename_i hn
    obtain ⟨rfl, hμ⟩ := hq
    obtain rfl := hμ.symm
    refine V_zret (pc := 123) dX3_takes_123 rfl (by first | exact Or.inl rfl | exact Or.inr rfl | assumption) ?_
    exact tkQ_no FrM.rf (by rw [pst_t (by decide) (by decide) (by decide) (by decide)]; exact if_neg hn)
  · subst hs4
    refine V_tsIn (pc := 4) (off := 107) (tgt := 111) dX3_takes_4 (by decide) (by decide) (by decide) (by decide) ?_
    refine V_aload_n (pc := 111) dX3_takes_111 rfl rfl ?_
    refine V_iload_n (pc := 112) dX3_takes_112 rfl rfl ?_
    refine V_inv1 (pc := 113) (ci := 3) dX3_takes_113 ml_X3_44 (by decide) rfl ⟨by decide, rfl⟩ (by decide) (Nat.le_of_ble_eq_true rfl) (c_X3_takesNextWind μ hc hR) ?_
    intro r μ1 hq
    by_cases hn : w < 3 ∧ c = 47
    · rw [if_pos hn] at hq
      obtain ⟨rfl, k1, k2⟩ := hq
      refine V_zret (pc := 116) dX3_takes_116 rfl (Or.inr rfl) ?_
      exact tkQ_yes (x := 0) (w := w + 1) (tn := tn) (ow := ow) (k2.wk (fun k hk => Or.inl hk)) (by simp [pst, hn]) k1 (hB.kept k2 (fun k h1 h2 q => by have : k = 3 := q; omega))
    rw [if_neg hn] at hq
    obtain ⟨rfl, hμ⟩ := hq
    obtain rfl := hμ.symm
    refine V_zret (pc := 116) dX3_takes_116 rfl (by first | exact Or.inl rfl | exact Or.inr rfl | assumption) ?_
    exact tkQ_no FrM.rf (by simp [pst]; intro a1 a2; exact hn ⟨a1, a2⟩)
theorem dX3_read_0 : decode cX3_read 0 = .ok (.aload_n 2, 1) := by decide +kernel
theorem dX3_read_1 : decode cX3_read 1 = .ok (.invokevirtual 11, 3) := by decide +kernel
theorem dX3_read_4 : decode cX3_read 4 = .ok (.aload_n 0, 1) := by decide +kernel
theorem dX3_read_5 : decode cX3_read 5 = .ok (.iconst 0, 1) := by decide +kernel
theorem dX3_read_6 : decode cX3_read 6 = .ok (.putfield 16, 3) := by decide +kernel
theorem dX3_read_9 : decode cX3_read 9 = .ok (.aload_n 0, 1) := by decide +kernel
theorem dX3_read_10 : decode cX3_read 10 = .ok (.iconst 0, 1) := by decide +kernel
theorem dX3_read_11 : decode cX3_read 11 = .ok (.putfield 20, 3) := by decide +kernel
theorem dX3_read_14 : decode cX3_read 14 = .ok (.iconst 0, 1) := by decide +kernel
theorem dX3_read_15 : decode cX3_read 15 = .ok (.istore_n 3, 1) := by decide +kernel
theorem dX3_read_16 : decode cX3_read 16 = .ok (.iload_n 3, 1) := by decide +kernel
theorem dX3_read_17 : decode cX3_read 17 = .ok (.aload_n 1, 1) := by decide +kernel
theorem dX3_read_18 : decode cX3_read 18 = .ok (.getfield 23, 3) := by decide +kernel
theorem dX3_read_21 : decode cX3_read 21 = .ok (.if_icmp .ge 25, 3) := by decide +kernel
theorem dX3_read_24 : decode cX3_read 24 = .ok (.aload_n 0, 1) := by decide +kernel
theorem dX3_read_25 : decode cX3_read 25 = .ok (.aload_n 1, 1) := by decide +kernel
theorem dX3_read_26 : decode cX3_read 26 = .ok (.getfield 28, 3) := by decide +kernel
theorem dX3_read_29 : decode cX3_read 29 = .ok (.iload_n 3, 1) := by decide +kernel
theorem dX3_read_30 : decode cX3_read 30 = .ok (.iaload, 1) := by decide +kernel
theorem dX3_read_31 : decode cX3_read 31 = .ok (.aload_n 2, 1) := by decide +kernel
theorem dX3_read_32 : decode cX3_read 32 = .ok (.invokevirtual 32, 3) := by decide +kernel
theorem dX3_read_35 : decode cX3_read 35 = .ok (.ifCond .ne 5, 3) := by decide +kernel
theorem dX3_read_38 : decode cX3_read 38 = .ok (.iload_n 3, 1) := by decide +kernel
theorem dX3_read_39 : decode cX3_read 39 = .ok (.ireturn, 1) := by decide +kernel
theorem dX3_read_40 : decode cX3_read 40 = .ok (.iinc 3 1, 3) := by decide +kernel
theorem dX3_read_43 : decode cX3_read 43 = .ok (.goto (-27), 3) := by decide +kernel
theorem dX3_read_46 : decode cX3_read 46 = .ok (.aload_n 1, 1) := by decide +kernel
theorem dX3_read_47 : decode cX3_read 47 = .ok (.getfield 23, 3) := by decide +kernel
theorem dX3_read_50 : decode cX3_read 50 = .ok (.ireturn, 1) := by decide +kernel
set_option maxHeartbeats 4000000 in
set_option maxRecDepth 100000 in
theorem c_X3_read {l : Launch} {g : GW} {b n : Nat} {cd : Nat → Nat} (μ : Mm) (hb : b = 49 ∨ b = 57) (hP : PgR μ n cd) : Con l g yX3_read cX3_read 4 (some .int) 3 [.ref 3, .ref 1, .ref b] μ (fun r μ' => r = some (.int (nI (faT cd n))) ∧ FrM (rdS b) μ μ' ∧ ∀ q, prT cd n = some q → RdR μ' q.1 q.2.1 ∧ BkR μ' b q.2.2.1 q.2.2.2) := by
  obtain ⟨hb1, hb2, hb3, hb4, hb5, hb6, hrow⟩ := bkF hb
  obtain ⟨p1, p2, p3⟩ := id hP
  have hb3 : b ≠ 3 := by omega
  refine Con.of [.ref 3, .ref 1, .ref b, .null] 1 (by decide +kernel) (Nat.le_of_ble_eq_true rfl) rfl ?_
  refine V_aload_n (pc := 0) dX3_read_0 rfl rfl ?_
  refine V_inv0 (pc := 1) (ci := 0) dX3_read_1 ml_X3_11 (by first | decide | omega) (by first | rfl | assumption | decide) ⟨by decide, rfl⟩ (by decide) (Nat.le_of_ble_eq_true rfl) (c_X0_clear μ hb) ?_
  rintro _ μ1 ⟨rfl, k1, k2⟩
  refine V_aload_n (pc := 4) dX3_read_4 rfl rfl ?_
  refine V_iconst (pc := 5) (v := 0) dX3_read_5 (by decide) ?_
  refine V_putI (pc := 6) (ci := 3) (j := 0) dX3_read_6 fl_X3_16 (fun _ _ _ _ _ => rfl) rfl rfl (by decide) rfl ?_
  refine V_aload_n (pc := 9) dX3_read_9 rfl rfl ?_
  refine V_iconst (pc := 10) (v := 0) dX3_read_10 (by decide) ?_
  refine V_putI (pc := 11) (ci := 3) (j := 1) dX3_read_11 fl_X3_20 (fun _ _ _ _ _ => rfl) rfl rfl (by decide) rfl ?_
  refine V_iconst (pc := 14) (v := 0) dX3_read_14 (by decide) ?_
  refine V_istore3 (pc := 15) dX3_read_15 (by decide) rfl ?_
  have loopA : ∀ (nA i : Nat) (μ2 : Mm) (x w : Nat) (tn : Nat → Nat → Nat) (ow : Nat → Nat), i ≤ n → n < i + nA → (prT cd i = some (x, w, tn, ow)) → (RdR μ2 x w) → (BkR μ2 b tn ow) → (FrM (rdS b) μ μ2) → V l g RX3 cX3_read 4 (some .int) 3 16 [.ref 3, .ref 1, .ref b, .int (nI i)] [] μ2 (fun r μ' => r = some (.int (nI (faT cd n))) ∧ FrM (rdS b) μ μ' ∧ ∀ q, prT cd n = some q → RdR μ' q.1 q.2.1 ∧ BkR μ' b q.2.2.1 q.2.2.2) := by
    intro nA
    induction nA with
    | zero => intro i μ2 x w tn ow h1 h2; exact absurd h2 (by omega)
    | succ nA ihA =>
      intro i μ2 x w tn ow hleA hfuA q1 q2 q3 q4
      refine V_iload_n (pc := 16) dX3_read_16 rfl rfl ?_
      refine V_aload_n (pc := 17) dX3_read_17 rfl rfl ?_
      refine V_getI (pc := 18) (ci := 2) (j := 1) dX3_read_18 fl_X3_23 (fun _ _ _ _ => rfl) (by decide) rfl ?_
      refine V_icmpge (pc := 21) (tgt := 46) dX3_read_21 (by decide) (fun h21 => ?_) (fun h21 => ?_)
      · rw [q4.1 1 (fun q => by rcases q with q | q <;> omega), p1, nI_leI (by omega) (by omega)] at h21; obtain rfl : i = n := by omega
        refine V_aload_n (pc := 46) dX3_read_46 rfl rfl ?_
        refine V_getI (pc := 47) (ci := 2) (j := 1) dX3_read_47 fl_X3_23 (fun _ _ _ _ => rfl) (by decide) rfl ?_
        refine V_iret (pc := 50) dX3_read_50 rfl ?_
        exact ⟨by rw [q4.1 1 (fun q => by rcases q with q | q <;> omega), p1, faT_all q1], q4, fun q hq => by rw [q1] at hq; cases hq; exact ⟨q2, q3⟩⟩
      rw [q4.1 1 (fun q => by rcases q with q | q <;> omega), p1, nI_leI (by omega) (by omega)] at h21; have hlt : i < n := (by omega)
      refine V_aload_n (pc := 24) dX3_read_24 rfl rfl ?_
      refine V_aload_n (pc := 25) dX3_read_25 rfl rfl ?_
      refine V_getR (pc := 26) (ci := 2) (j := 0) (k2 := 2) dX3_read_26 fl_X3_28 (fun _ _ _ _ => rfl) (by decide) rfl (rf_2_0 rfl) ?_
      refine V_iload_n (pc := 29) dX3_read_29 rfl rfl ?_
      refine V_iald (pc := 30) (j := i) dX3_read_30 (by decide) rfl rfl (by show i < 30; omega) ?_
      rw [q4.1 2 (fun q => by rcases q with q | q <;> omega), (p3 i (by omega)).1]
      refine V_aload_n (pc := 31) dX3_read_31 rfl rfl ?_
      refine V_inv2 (pc := 32) (ci := 3) dX3_read_32 ml_X3_32 (by decide) rfl ⟨by decide, rfl⟩ (by decide) (Nat.le_of_ble_eq_true rfl) (c_X3_takes μ2 (show cd i < 127 by have := (p3 i (by omega)).2; omega) hb q3 q2 (prT_ok q1)) ?_
      intro r μ3 hq
      obtain ⟨k3, k4⟩ := hq
      cases hp : pst (cd i) (x, w, tn, ow) with
      | none =>
        rw [hp] at k4
        have k4 : r = some (.int 0) := k4
        subst k4
        refine V_ifne (pc := 35) (tgt := 40) dX3_read_35 (by decide) (fun h => absurd rfl h) (fun _ => ?_)
        refine V_iload_n (pc := 38) dX3_read_38 rfl rfl ?_
        refine V_iret (pc := 39) dX3_read_39 rfl ?_
        have hno : prT cd (i + 1) = none := by simp only [prT]; rw [q1]; exact hp
        exact ⟨by rw [faT_at q1 hno n (by omega)], q4.tr k3 (fun _ q => q), fun q hq => by rw [prT_none (i + 1) n hno (by omega)] at hq; cases hq⟩
      | some q' =>
        obtain ⟨x', w', tn', ow'⟩ := q'
        rw [hp] at k4
        obtain ⟨k5, k6, k7⟩ := k4
        subst k5
        refine V_ifne (pc := 35) (tgt := 40) dX3_read_35 (by decide) (fun _ => ?_) (fun h => absurd h (by decide))
        refine V_iinc3 (pc := 40) (v := nI (i + 1)) dX3_read_40 (nI_1 i) (by decide) rfl ?_
        refine V_goto (pc := 43) (tgt := 16) dX3_read_43 (by decide) ?_
        exact ihA (i + 1) μ3 x' w' tn' ow' (by omega) (by omega) (by simp only [prT]; rw [q1]; exact hp) k6 k7 (q4.tr k3 (fun _ q => q))
  exact loopA (n + 1) 0 _ 0 0 _ _ (by omega) (by omega) rfl ⟨by rw [get_ne (by omega), get_eq]; rfl, by decide, by rw [get_eq]; rfl, by decide⟩ (k1.kept (FrM.set (S := fun k => k = 3) (FrM.rf.set rfl) rfl) (fun k h1 h2 q => by have : k = 3 := q; omega)) ((((FrM.rf (S := rdS b)).tr k2 (fun k hk => Or.inr hk)).set (Or.inl rfl)).set (Or.inl rfl))
