theorem dX7_letters_0 : decode cX7_letters 0 = .ok (.aload_n 0, 1) := by decide +kernel
theorem dX7_letters_1 : decode cX7_letters 1 = .ok (.getfield 12, 3) := by decide +kernel
theorem dX7_letters_4 : decode cX7_letters 4 = .ok (.lload_n 1, 1) := by decide +kernel
theorem dX7_letters_5 : decode cX7_letters 5 = .ok (.invokevirtual 60, 3) := by decide +kernel
theorem dX7_letters_8 : decode cX7_letters 8 = .ok (.ireturn, 1) := by decide +kernel
set_option maxHeartbeats 4000000 in
set_option maxRecDepth 100000 in
theorem c_X7_letters {l : Launch} {g : GW} {a : AT} {w : Int64} (μ : Mm) (hA : RC μ a)  : Con l g yX7_letters cX7_letters 3 (some .int) 3 [.ref 0, .long w] μ (fun r μ' => r = some (.int (fLetters a w).1) ∧ RC μ' (fLetters a w).2 ∧ FrC μ μ') := by
  obtain ⟨a1, a2, a3, a4, ⟨b, hb, hcur, hdrf, hB⟩, hS, hK, hD, hW⟩ := id hA
  obtain ⟨r1, r2, r3, r4, r5, r6, r7, r8, r9⟩ := id hS
  obtain ⟨w1, w2, w3, w4, w5, w6⟩ := id hW
  obtain ⟨p1, p2, p3⟩ := id a1
  obtain ⟨hb1, hb2, hb3, hb4, hb5, hb6, hrow⟩ := bkF hb
  have hship : ∀ i, i < 6 → 4 + 1 + 1 + i < 88 ∧ kt (4 + 1 + 1 + i) = 5 := (seaF (Or.inl rfl)).2.2.2.2.2.2
  have h4 : (4 : Nat) = 4 ∨ (4 : Nat) = 13 ∨ (4 : Nat) = 22 := Or.inl rfl
  refine Con.of [.ref 0, .long w, .null] 0 (by decide +kernel) (Nat.le_of_ble_eq_true rfl) rfl ?_
  refine V_aload_n (pc := 0) dX7_letters_0 rfl rfl ?_
  refine V_getR (pc := 1) (ci := 7) (j := 0) (k2 := 1) dX7_letters_1 fl_X7_12 (fun _ _ _ _ => rfl) (by decide) rfl (rf_7_0 rfl) ?_
  refine V_lload_n (pc := 4) dX7_letters_4 rfl rfl ?_
  refine V_inv1 (pc := 5) (ci := 2) dX7_letters_5 ml_X7_60 (by decide) rfl ⟨by decide, rfl⟩ (by first | decide | omega) (Nat.le_of_ble_eq_true rfl) (c_X2_add μ a1) ?_
  intro r μ1 hq
  by_cases e1 : leK w = 0
  · rw [if_pos e1] at hq
    obtain ⟨rfl, hμ⟩ := hq
    obtain rfl := hμ.symm
    refine V_iret (pc := 8) dX7_letters_8 rfl ?_
    rw [show fLetters a w = (-102, a) from if_pos e1]
    exact ⟨rfl, hA, FrC.rf⟩
  rw [if_neg e1] at hq
  by_cases e2 : 30 < aPn a + (leK w - 1)
  · rw [if_pos e2] at hq
    obtain ⟨rfl, hμ⟩ := hq
    obtain rfl := hμ.symm
    refine V_iret (pc := 8) dX7_letters_8 rfl ?_
    rw [show fLetters a w = (-104, a) from (if_neg e1).trans (if_pos e2)]
    exact ⟨rfl, hA, FrC.rf⟩
  rw [if_neg e2] at hq
  obtain ⟨rfl, k1, k2⟩ := hq
  refine V_iret (pc := 8) dX7_letters_8 rfl ?_
  rw [show fLetters a w = _ from (if_neg e1).trans (if_neg e2)]
  exact ⟨rfl, hA.page k2 k1, k2.C (fun k hk => by omega)⟩
theorem dX7_blank_0 : decode cX7_blank 0 = .ok (.aload_n 0, 1) := by decide +kernel
theorem dX7_blank_1 : decode cX7_blank 1 = .ok (.getfield 12, 3) := by decide +kernel
theorem dX7_blank_4 : decode cX7_blank 4 = .ok (.invokevirtual 64, 3) := by decide +kernel
theorem dX7_blank_7 : decode cX7_blank 7 = .ok (.ireturn, 1) := by decide +kernel
set_option maxHeartbeats 4000000 in
set_option maxRecDepth 100000 in
theorem c_X7_blank {l : Launch} {g : GW} {a : AT}  (μ : Mm) (hA : RC μ a)  : Con l g yX7_blank cX7_blank 1 (some .int) 1 [.ref 0] μ (fun r μ' => r = some (.int (nI (aPn a))) ∧ RC μ' (setP a 0 (aPc a)) ∧ FrC μ μ') := by
  obtain ⟨a1, a2, a3, a4, ⟨b, hb, hcur, hdrf, hB⟩, hS, hK, hD, hW⟩ := id hA
  obtain ⟨r1, r2, r3, r4, r5, r6, r7, r8, r9⟩ := id hS
  obtain ⟨w1, w2, w3, w4, w5, w6⟩ := id hW
  obtain ⟨p1, p2, p3⟩ := id a1
  obtain ⟨hb1, hb2, hb3, hb4, hb5, hb6, hrow⟩ := bkF hb
  have hship : ∀ i, i < 6 → 4 + 1 + 1 + i < 88 ∧ kt (4 + 1 + 1 + i) = 5 := (seaF (Or.inl rfl)).2.2.2.2.2.2
  have h4 : (4 : Nat) = 4 ∨ (4 : Nat) = 13 ∨ (4 : Nat) = 22 := Or.inl rfl
  refine Con.of [.ref 0] 0 (by decide +kernel) (Nat.le_of_ble_eq_true rfl) rfl ?_
  refine V_aload_n (pc := 0) dX7_blank_0 rfl rfl ?_
  refine V_getR (pc := 1) (ci := 7) (j := 0) (k2 := 1) dX7_blank_1 fl_X7_12 (fun _ _ _ _ => rfl) (by decide) rfl (rf_7_0 rfl) ?_
  refine V_inv0 (pc := 4) (ci := 2) dX7_blank_4 ml_X7_64 (by decide) rfl ⟨by decide, rfl⟩ (by first | decide | omega) (Nat.le_of_ble_eq_true rfl) (c_X2_empty μ a1) ?_
  rintro _ μ1 ⟨rfl, k1, k2⟩
  refine V_iret (pc := 7) dX7_blank_7 rfl ?_
  exact ⟨rfl, hA.page (k2.wk (fun k hk => Or.inl hk)) k1, k2.C (fun k hk => by have : k = 1 := hk; omega)⟩
theorem dX7_ship_0 : decode cX7_ship 0 = .ok (.iload_n 2, 1) := by decide +kernel
theorem dX7_ship_1 : decode cX7_ship 1 = .ok (.invokestatic 117, 3) := by decide +kernel
theorem dX7_ship_4 : decode cX7_ship 4 = .ok (.ifCond .ne 6, 3) := by decide +kernel
theorem dX7_ship_7 : decode cX7_ship 7 = .ok (.bipush (-101), 2) := by decide +kernel
theorem dX7_ship_9 : decode cX7_ship 9 = .ok (.ireturn, 1) := by decide +kernel
theorem dX7_ship_10 : decode cX7_ship 10 = .ok (.iload_n 1, 1) := by decide +kernel
theorem dX7_ship_11 : decode cX7_ship 11 = .ok (.invokestatic 120, 3) := by decide +kernel
theorem dX7_ship_14 : decode cX7_ship 14 = .ok (.ifCond .ne 6, 3) := by decide +kernel
theorem dX7_ship_17 : decode cX7_ship 17 = .ok (.bipush (-102), 2) := by decide +kernel
theorem dX7_ship_19 : decode cX7_ship 19 = .ok (.ireturn, 1) := by decide +kernel
theorem dX7_ship_20 : decode cX7_ship 20 = .ok (.aload_n 0, 1) := by decide +kernel
theorem dX7_ship_21 : decode cX7_ship 21 = .ok (.invokevirtual 103, 3) := by decide +kernel
theorem dX7_ship_24 : decode cX7_ship 24 = .ok (.ifCond .ne 6, 3) := by decide +kernel
theorem dX7_ship_27 : decode cX7_ship 27 = .ok (.bipush (-103), 2) := by decide +kernel
theorem dX7_ship_29 : decode cX7_ship 29 = .ok (.ireturn, 1) := by decide +kernel
theorem dX7_ship_30 : decode cX7_ship 30 = .ok (.aload_n 0, 1) := by decide +kernel
theorem dX7_ship_31 : decode cX7_ship 31 = .ok (.getfield 26, 3) := by decide +kernel
theorem dX7_ship_34 : decode cX7_ship 34 = .ok (.iload_n 1, 1) := by decide +kernel
theorem dX7_ship_35 : decode cX7_ship 35 = .ok (.iload_n 2, 1) := by decide +kernel
theorem dX7_ship_36 : decode cX7_ship 36 = .ok (.invokevirtual 123, 3) := by decide +kernel
theorem dX7_ship_39 : decode cX7_ship 39 = .ok (.ireturn, 1) := by decide +kernel
set_option maxHeartbeats 4000000 in
set_option maxRecDepth 100000 in
theorem c_X7_ship {l : Launch} {g : GW} {a : AT} {x y : Int32} (μ : Mm) (hA : RC μ a)  : Con l g yX7_ship cX7_ship 3 (some .int) 2 [.ref 0, .int x, .int y] μ (fun r μ' => r = some (.int (fShip a x y).1) ∧ RC μ' (fShip a x y).2 ∧ FrC μ μ') := by
  obtain ⟨a1, a2, a3, a4, ⟨b, hb, hcur, hdrf, hB⟩, hS, hK, hD, hW⟩ := id hA
  obtain ⟨r1, r2, r3, r4, r5, r6, r7, r8, r9⟩ := id hS
  obtain ⟨w1, w2, w3, w4, w5, w6⟩ := id hW
  obtain ⟨p1, p2, p3⟩ := id a1
  obtain ⟨hb1, hb2, hb3, hb4, hb5, hb6, hrow⟩ := bkF hb
  have hship : ∀ i, i < 6 → 4 + 1 + 1 + i < 88 ∧ kt (4 + 1 + 1 + i) = 5 := (seaF (Or.inl rfl)).2.2.2.2.2.2
  have hs4 : (4 : Nat) = 4 ∨ (4 : Nat) = 13 ∨ (4 : Nat) = 22 := Or.inl rfl
  refine Con.of [.ref 0, .int x, .int y] 0 (by decide +kernel) (Nat.le_of_ble_eq_true rfl) rfl ?_
  refine V_iload_n (pc := 0) dX7_ship_0 rfl rfl ?_
  refine V_ins1 (pc := 1) dX7_ship_1 ml_X7_117 (by first | decide | omega) (Nat.le_of_ble_eq_true rfl) (c_X7_isPlace μ) ?_
  rintro _ μ2 ⟨rfl, hμ⟩
  obtain rfl := hμ.symm
  refine V_ifne (pc := 4) (tgt := 10) dX7_ship_4 (by decide) (fun h4 => ?_) (fun h4 => ?_)
  · have h4 := bI_ne h4
    refine V_iload_n (pc := 10) dX7_ship_10 rfl rfl ?_
    refine V_ins1 (pc := 11) dX7_ship_11 ml_X7_120 (by first | decide | omega) (Nat.le_of_ble_eq_true rfl) (c_X7_isKind μ) ?_
    rintro _ μ2 ⟨rfl, hμ⟩
    obtain rfl := hμ.symm
    refine V_ifne (pc := 14) (tgt := 20) dX7_ship_14 (by decide) (fun h14 => ?_) (fun h14 => ?_)
    · have h14 := bI_ne h14; rw [inR_N (n := 5) (by decide)] at h14
      refine V_aload_n (pc := 20) dX7_ship_20 rfl rfl ?_
      refine V_inv0 (pc := 21) (ci := 7) dX7_ship_21 ml_X7_103 (by decide) rfl ⟨by decide, rfl⟩ (by first | decide | omega) (Nat.le_of_ble_eq_true rfl) (c_X7_hasBook μ hA) ?_
      rintro _ μ2 ⟨rfl, hμ⟩
      obtain rfl := hμ.symm
      refine V_ifne (pc := 24) (tgt := 30) dX7_ship_24 (by decide) (fun h24 => ?_) (fun h24 => ?_)
      · have h24 := of_decide_eq_true (bI_ne h24)
        obtain ⟨p, hp, rfl⟩ := inN_of (by decide) h4
        obtain ⟨κ, hκ, rfl⟩ := inN_of (by decide) h14
        have e0 : fShip a (nI κ) (nI p) = (if sN (aS a) = 6 then (-104, a) else (nI (sN (aS a)), setA a (wN (wShip (aS a) (sN (aS a)) κ p 0 0 0) (sN (aS a) + 1)))) := by simp only [fShip, h4, h14, if_true, nn_nI (j := κ) (by omega), nn_nI (j := p) (by omega)]; rw [if_pos h24]
        rw [e0]
        refine V_aload_n (pc := 30) dX7_ship_30 rfl rfl ?_
        refine V_getR (pc := 31) (ci := 7) (j := 2) (k2 := 4) dX7_ship_31 fl_X7_26 (fun _ _ _ _ => rfl) (by decide) rfl (rf_7_2 rfl) ?_
        refine V_iload_n (pc := 34) dX7_ship_34 rfl rfl ?_
        refine V_iload_n (pc := 35) dX7_ship_35 rfl rfl ?_
        refine V_inv2 (pc := 36) (ci := 4) dX7_ship_36 ml_X7_123 (by decide) rfl ⟨by decide, rfl⟩ (by first | decide | omega) (Nat.le_of_ble_eq_true rfl) (c_X4_add μ hs4 hS (show κ ≤ 4 by omega) (show p ≤ 9 by omega)) ?_
        intro r μ1 hq
        by_cases e1 : sN (aS a) = 6
        · rw [if_pos e1] at hq
          obtain ⟨rfl, hμ⟩ := hq
          obtain rfl := hμ.symm
          refine V_iret (pc := 39) dX7_ship_39 rfl ?_
          rw [if_pos e1]
          exact ⟨rfl, hA, FrC.rf⟩
        rw [if_neg e1] at hq
        obtain ⟨rfl, k1, k2⟩ := hq
        refine V_iret (pc := 39) dX7_ship_39 rfl ?_
        rw [if_neg e1]
        exact ⟨rfl, hA.sea k2 k1, k2.C (seaC (Or.inl rfl))⟩
      have h24 := of_decide_eq_false (bI_e h24)
      refine V_bipush (pc := 27) (v := (-103)) dX7_ship_27 (by decide) ?_
      refine V_iret (pc := 29) dX7_ship_29 rfl ?_
      have e0 : fShip a x y = (-103, a) := by simp [fShip, h4, h14, h24]
      rw [e0]
      exact ⟨rfl, hA, FrC.rf⟩
    have h14 := bI_e h14; rw [inR_N (n := 5) (by decide)] at h14
    refine V_bipush (pc := 17) (v := (-102)) dX7_ship_17 (by decide) ?_
    refine V_iret (pc := 19) dX7_ship_19 rfl ?_
    have e0 : fShip a x y = (-102, a) := by simp [fShip, h4, h14]
    rw [e0]
    exact ⟨rfl, hA, FrC.rf⟩
  have h4 := bI_e h4
  refine V_bipush (pc := 7) (v := (-101)) dX7_ship_7 (by decide) ?_
  refine V_iret (pc := 9) dX7_ship_9 rfl ?_
  have e0 : fShip a x y = (-101, a) := by simp [fShip, h4]
  rw [e0]
  exact ⟨rfl, hA, FrC.rf⟩
theorem dX7_call_0 : decode cX7_call 0 = .ok (.aload_n 0, 1) := by decide +kernel
theorem dX7_call_1 : decode cX7_call 1 = .ok (.iload_n 1, 1) := by decide +kernel
theorem dX7_call_2 : decode cX7_call 2 = .ok (.invokevirtual 126, 3) := by decide +kernel
theorem dX7_call_5 : decode cX7_call 5 = .ok (.ifCond .eq 15, 3) := by decide +kernel
theorem dX7_call_8 : decode cX7_call 8 = .ok (.iload_n 2, 1) := by decide +kernel
theorem dX7_call_9 : decode cX7_call 9 = .ok (.iconst (-1), 1) := by decide +kernel
theorem dX7_call_10 : decode cX7_call 10 = .ok (.if_icmp .eq 13, 3) := by decide +kernel
theorem dX7_call_13 : decode cX7_call 13 = .ok (.iload_n 2, 1) := by decide +kernel
theorem dX7_call_14 : decode cX7_call 14 = .ok (.invokestatic 110, 3) := by decide +kernel
theorem dX7_call_17 : decode cX7_call 17 = .ok (.ifCond .ne 6, 3) := by decide +kernel
theorem dX7_call_20 : decode cX7_call 20 = .ok (.bipush (-101), 2) := by decide +kernel
theorem dX7_call_22 : decode cX7_call 22 = .ok (.ireturn, 1) := by decide +kernel
theorem dX7_call_23 : decode cX7_call 23 = .ok (.aload_n 0, 1) := by decide +kernel
theorem dX7_call_24 : decode cX7_call 24 = .ok (.getfield 26, 3) := by decide +kernel
theorem dX7_call_27 : decode cX7_call 27 = .ok (.getfield 129, 3) := by decide +kernel
theorem dX7_call_30 : decode cX7_call 30 = .ok (.iload_n 1, 1) := by decide +kernel
theorem dX7_call_31 : decode cX7_call 31 = .ok (.aaload, 1) := by decide +kernel
theorem dX7_call_32 : decode cX7_call 32 = .ok (.getfield 142, 3) := by decide +kernel
theorem dX7_call_35 : decode cX7_call 35 = .ok (.bipush 9, 2) := by decide +kernel
theorem dX7_call_37 : decode cX7_call 37 = .ok (.if_icmp .eq 19, 3) := by decide +kernel
theorem dX7_call_40 : decode cX7_call 40 = .ok (.iload_n 2, 1) := by decide +kernel
theorem dX7_call_41 : decode cX7_call 41 = .ok (.iconst (-1), 1) := by decide +kernel
theorem dX7_call_42 : decode cX7_call 42 = .ok (.if_icmp .eq 17, 3) := by decide +kernel
theorem dX7_call_45 : decode cX7_call 45 = .ok (.aload_n 0, 1) := by decide +kernel
theorem dX7_call_46 : decode cX7_call 46 = .ok (.getfield 26, 3) := by decide +kernel
theorem dX7_call_49 : decode cX7_call 49 = .ok (.iload_n 2, 1) := by decide +kernel
theorem dX7_call_50 : decode cX7_call 50 = .ok (.invokevirtual 145, 3) := by decide +kernel
theorem dX7_call_53 : decode cX7_call 53 = .ok (.ifCond .eq 6, 3) := by decide +kernel
theorem dX7_call_56 : decode cX7_call 56 = .ok (.bipush (-103), 2) := by decide +kernel
theorem dX7_call_58 : decode cX7_call 58 = .ok (.ireturn, 1) := by decide +kernel
theorem dX7_call_59 : decode cX7_call 59 = .ok (.aload_n 0, 1) := by decide +kernel
theorem dX7_call_60 : decode cX7_call 60 = .ok (.getfield 26, 3) := by decide +kernel
theorem dX7_call_63 : decode cX7_call 63 = .ok (.iload_n 1, 1) := by decide +kernel
theorem dX7_call_64 : decode cX7_call 64 = .ok (.iload_n 2, 1) := by decide +kernel
theorem dX7_call_65 : decode cX7_call 65 = .ok (.invokevirtual 148, 3) := by decide +kernel
theorem dX7_call_68 : decode cX7_call 68 = .ok (.ireturn, 1) := by decide +kernel
set_option maxHeartbeats 4000000 in
set_option maxRecDepth 100000 in
theorem c_X7_call {l : Launch} {g : GW} {a : AT} {x y : Int32} (μ : Mm) (hA : RC μ a)  : Con l g yX7_call cX7_call 3 (some .int) 3 [.ref 0, .int x, .int y] μ (fun r μ' => r = some (.int (fCall a x y).1) ∧ RC μ' (fCall a x y).2 ∧ FrC μ μ') := by
  obtain ⟨a1, a2, a3, a4, ⟨b, hb, hcur, hdrf, hB⟩, hS, hK, hD, hW⟩ := id hA
  obtain ⟨r1, r2, r3, r4, r5, r6, r7, r8, r9⟩ := id hS
  obtain ⟨w1, w2, w3, w4, w5, w6⟩ := id hW
  obtain ⟨p1, p2, p3⟩ := id a1
  obtain ⟨hb1, hb2, hb3, hb4, hb5, hb6, hrow⟩ := bkF hb
  have hship : ∀ i, i < 6 → 4 + 1 + 1 + i < 88 ∧ kt (4 + 1 + 1 + i) = 5 := (seaF (Or.inl rfl)).2.2.2.2.2.2
  have h4 : (4 : Nat) = 4 ∨ (4 : Nat) = 13 ∨ (4 : Nat) = 22 := Or.inl rfl
  refine Con.of [.ref 0, .int x, .int y] 0 (by decide +kernel) (Nat.le_of_ble_eq_true rfl) rfl ?_
  refine V_aload_n (pc := 0) dX7_call_0 rfl rfl ?_
  refine V_iload_n (pc := 1) dX7_call_1 rfl rfl ?_
  refine V_inv1 (pc := 2) (ci := 7) dX7_call_2 ml_X7_126 (by decide) rfl ⟨by decide, rfl⟩ (by first | decide | omega) (Nat.le_of_ble_eq_true rfl) (c_X7_isShip μ hA) ?_
  rintro _ μ2 ⟨rfl, hμ⟩
  obtain rfl := hμ.symm
  refine V_ifeq (pc := 5) (tgt := 20) dX7_call_5 (by decide) (fun h5 => ?_) (fun h5 => ?_)
  · have h5 := bI_e h5
    refine V_bipush (pc := 20) (v := (-101)) dX7_call_20 (by decide) ?_
    refine V_iret (pc := 22) dX7_call_22 rfl ?_
    first
    | (have e0 : fCall a x y = (-101, a) := by simp [fCall, h5]
       rw [e0]; exact ⟨rfl, hA, FrC.rf⟩)
    | (have e0 : fCall a x y = (-101, a) := by simp only [fCall, h5, hy]; rfl
       rw [e0]; exact ⟨rfl, hA, FrC.rf⟩)
  have h5 := bI_ne h5
  refine V_iload_n (pc := 8) dX7_call_8 rfl rfl ?_
  refine V_iconst (pc := 9) (v := (-1)) dX7_call_9 (by decide) ?_
  refine V_icmpeq (pc := 10) (tgt := 23) dX7_call_10 (by decide) (fun h10 => ?_) (fun h10 => ?_)
  · have hy : (decide (y = -1) || inN y 6) = true := by rw [decide_eq_true h10]; rfl
    obtain ⟨i, hi, rfl⟩ := inN_of (by omega) h5
    obtain ⟨z1, z2, z3, z4, z5, z6, z7, z8⟩ := id (r8 i (by omega))
    have e0 : fCall a (nI i) y = (if sP (aS a) i = 9 ∨ (y ≠ -1 ∧ (sS (aS a)).testBit (nn y) = true) then (-103, a) else (cI (sC (aS a) i), setA a (repC (aS a) i (cCode y)))) := by simp only [fCall, h5, hy, Bool.and_self, if_true, nn_nI (j := i) (by omega)]
    rw [e0]
    clear e0
    refine V_aload_n (pc := 23) dX7_call_23 rfl rfl ?_
    refine V_getR (pc := 24) (ci := 7) (j := 2) (k2 := 4) dX7_call_24 fl_X7_26 (fun _ _ _ _ => rfl) (by decide) rfl (rf_7_2 rfl) ?_
    refine V_getR (pc := 27) (ci := 4) (j := 0) (k2 := 5) dX7_call_27 fl_X7_129 (fun _ _ _ _ => rfl) (by decide) rfl (rf_4_0 rfl) ?_
    refine V_iload_n (pc := 30) dX7_call_30 rfl rfl ?_
    refine V_aald14 (pc := 31) (j := i) dX7_call_31 (by decide) rfl rfl (by show i < 6; omega) ?_
    refine V_getI (pc := 32) (ci := 5) (j := 1) dX7_call_32 fl_X7_142 (fun _ _ _ _ => rfl) (by first | decide | omega) (by first | rfl | assumption | exact (hship _ (by omega)).2 | exact (hrow _ (by omega)).2.1 | decide) ?_
    rw [z3]
    refine V_bipush (pc := 35) (v := 9) dX7_call_35 (by decide) ?_
    refine V_icmpeq (pc := 37) (tgt := 56) dX7_call_37 (by decide) (fun h37 => ?_) (fun h37 => ?_)
    · have h37 := (nI_eq (a := sP (aS a) i) (b := 9) (by omega) (by omega)).mp h37
      refine V_bipush (pc := 56) (v := (-103)) dX7_call_56 (by decide) ?_
      refine V_iret (pc := 58) dX7_call_58 rfl ?_
      first
      | (rw [if_pos (Or.inl h37)]; exact ⟨rfl, hA, FrC.rf⟩)
      | (rw [if_pos (Or.inr ⟨h42, by rw [nn_nI (by omega)]; exact h53⟩)]; exact ⟨rfl, hA, FrC.rf⟩)
    have h37 := mt (nI_eq (a := sP (aS a) i) (b := 9) (by omega) (by omega)).mpr h37
    have J : ∀ (y : Int32) (c : Nat), y = cI c → c ≤ 6 → c = cCode y → ¬ (sP (aS a) i = 9 ∨ (y ≠ -1 ∧ (sS (aS a)).testBit (nn y) = true)) → V l g RX7 cX7_call 3 (some .int) 3 59 [.ref 0, .int (nI i), .int y] [] μ (fun r μ' => r = some (.int (if sP (aS a) i = 9 ∨ (y ≠ -1 ∧ (sS (aS a)).testBit (nn y) = true) then (-103, a) else (cI (sC (aS a) i), setA a (repC (aS a) i (cCode y)))).1) ∧ RC μ' (if sP (aS a) i = 9 ∨ (y ≠ -1 ∧ (sS (aS a)).testBit (nn y) = true) then (-103, a) else (cI (sC (aS a) i), setA a (repC (aS a) i (cCode y)))).2 ∧ FrC μ μ') := by
      intro y c hyc hc6 hcc hno
      rw [if_neg hno, ← hcc]
      subst hyc
      refine V_aload_n (pc := 59) dX7_call_59 rfl rfl ?_
      refine V_getR (pc := 60) (ci := 7) (j := 2) (k2 := 4) dX7_call_60 fl_X7_26 (fun _ _ _ _ => rfl) (by decide) rfl (rf_7_2 rfl) ?_
      refine V_iload_n (pc := 63) dX7_call_63 rfl rfl ?_
      refine V_iload_n (pc := 64) dX7_call_64 rfl rfl ?_
      refine V_inv2 (pc := 65) (ci := 4) dX7_call_65 ml_X7_148 (by decide) rfl ⟨by decide, rfl⟩ (by first | decide | omega) (Nat.le_of_ble_eq_true rfl) (c_X4_replaceCall μ h4 hS (show i < 6 by omega) hc6) ?_
      rintro _ μ1 ⟨rfl, k1, k2⟩
      refine V_iret (pc := 68) dX7_call_68 rfl ?_
      exact ⟨rfl, hA.sea k2 k1, k2.C (seaC (Or.inl rfl))⟩
    refine V_iload_n (pc := 40) dX7_call_40 rfl rfl ?_
    refine V_iconst (pc := 41) (v := (-1)) dX7_call_41 (by decide) ?_
    refine V_icmpeq (pc := 42) (tgt := 59) dX7_call_42 (by decide) (fun h42 => ?_) (fun h42 => ?_)
    · first
      | exact J y 0 (by rw [h42]; exact cI_0.symm) (by omega) (by unfold cCode; rw [if_pos h42]) (fun q => q.elim h37 (fun q => q.1 h42))
      | exact J (nI n) (n + 1) (cI_s n).symm (by omega) (by unfold cCode; rw [if_neg h42, nn_nI (by omega)]) (fun q => q.elim h37 (fun q => by rw [nn_nI (by omega), h53] at q; exact absurd q.2 (by decide)))
    obtain ⟨n, hn, rfl⟩ := inN_of (n := 6) (by decide) (show inN y 6 = true from by rw [decide_eq_false h42] at hy; exact hy)
    refine V_aload_n (pc := 45) dX7_call_45 rfl rfl ?_
    refine V_getR (pc := 46) (ci := 7) (j := 2) (k2 := 4) dX7_call_46 fl_X7_26 (fun _ _ _ _ => rfl) (by decide) rfl (rf_7_2 rfl) ?_
    refine V_iload_n (pc := 49) dX7_call_49 rfl rfl ?_
    refine V_inv1 (pc := 50) (ci := 4) dX7_call_50 ml_X7_145 (by decide) rfl ⟨by decide, rfl⟩ (by first | decide | omega) (Nat.le_of_ble_eq_true rfl) (c_X4_isSpent μ h4 hS hn) ?_
    rintro _ μ2 ⟨rfl, hμ⟩
    obtain rfl := hμ.symm
    refine V_ifeq (pc := 53) (tgt := 59) dX7_call_53 (by decide) (fun h53 => ?_) (fun h53 => ?_)
    · have h53 := bI_e h53
      first
      | exact J y 0 (by rw [h42]; exact cI_0.symm) (by omega) (by unfold cCode; rw [if_pos h42]) (fun q => q.elim h37 (fun q => q.1 h42))
      | exact J (nI n) (n + 1) (cI_s n).symm (by omega) (by unfold cCode; rw [if_neg h42, nn_nI (by omega)]) (fun q => q.elim h37 (fun q => by rw [nn_nI (by omega), h53] at q; exact absurd q.2 (by decide)))
    have h53 := bI_ne h53
    refine V_bipush (pc := 56) (v := (-103)) dX7_call_56 (by decide) ?_
    refine V_iret (pc := 58) dX7_call_58 rfl ?_
    first
    | (rw [if_pos (Or.inl h37)]; exact ⟨rfl, hA, FrC.rf⟩)
    | (rw [if_pos (Or.inr ⟨h42, by rw [nn_nI (by omega)]; exact h53⟩)]; exact ⟨rfl, hA, FrC.rf⟩)
  refine V_iload_n (pc := 13) dX7_call_13 rfl rfl ?_
  refine V_ins1 (pc := 14) dX7_call_14 ml_X7_110 (by first | decide | omega) (Nat.le_of_ble_eq_true rfl) (c_X7_isName μ) ?_
  rintro _ μ2 ⟨rfl, hμ⟩
  obtain rfl := hμ.symm
  refine V_ifne (pc := 17) (tgt := 23) dX7_call_17 (by decide) (fun h17 => ?_) (fun h17 => ?_)
  · have h17 := bI_ne h17; rw [inR_N (n := 6) (by decide)] at h17; have hy : (decide (y = -1) || inN y 6) = true := by rw [h17, Bool.or_true]
    obtain ⟨i, hi, rfl⟩ := inN_of (by omega) h5
    obtain ⟨z1, z2, z3, z4, z5, z6, z7, z8⟩ := id (r8 i (by omega))
    have e0 : fCall a (nI i) y = (if sP (aS a) i = 9 ∨ (y ≠ -1 ∧ (sS (aS a)).testBit (nn y) = true) then (-103, a) else (cI (sC (aS a) i), setA a (repC (aS a) i (cCode y)))) := by simp only [fCall, h5, hy, Bool.and_self, if_true, nn_nI (j := i) (by omega)]
    rw [e0]
    clear e0
    refine V_aload_n (pc := 23) dX7_call_23 rfl rfl ?_
    refine V_getR (pc := 24) (ci := 7) (j := 2) (k2 := 4) dX7_call_24 fl_X7_26 (fun _ _ _ _ => rfl) (by decide) rfl (rf_7_2 rfl) ?_
    refine V_getR (pc := 27) (ci := 4) (j := 0) (k2 := 5) dX7_call_27 fl_X7_129 (fun _ _ _ _ => rfl) (by decide) rfl (rf_4_0 rfl) ?_
    refine V_iload_n (pc := 30) dX7_call_30 rfl rfl ?_
    refine V_aald14 (pc := 31) (j := i) dX7_call_31 (by decide) rfl rfl (by show i < 6; omega) ?_
    refine V_getI (pc := 32) (ci := 5) (j := 1) dX7_call_32 fl_X7_142 (fun _ _ _ _ => rfl) (by first | decide | omega) (by first | rfl | assumption | exact (hship _ (by omega)).2 | exact (hrow _ (by omega)).2.1 | decide) ?_
    rw [z3]
    refine V_bipush (pc := 35) (v := 9) dX7_call_35 (by decide) ?_
    refine V_icmpeq (pc := 37) (tgt := 56) dX7_call_37 (by decide) (fun h37 => ?_) (fun h37 => ?_)
    · have h37 := (nI_eq (a := sP (aS a) i) (b := 9) (by omega) (by omega)).mp h37
      refine V_bipush (pc := 56) (v := (-103)) dX7_call_56 (by decide) ?_
      refine V_iret (pc := 58) dX7_call_58 rfl ?_
      first
      | (rw [if_pos (Or.inl h37)]; exact ⟨rfl, hA, FrC.rf⟩)
      | (rw [if_pos (Or.inr ⟨h42, by rw [nn_nI (by omega)]; exact h53⟩)]; exact ⟨rfl, hA, FrC.rf⟩)
    have h37 := mt (nI_eq (a := sP (aS a) i) (b := 9) (by omega) (by omega)).mpr h37
    have J : ∀ (y : Int32) (c : Nat), y = cI c → c ≤ 6 → c = cCode y → ¬ (sP (aS a) i = 9 ∨ (y ≠ -1 ∧ (sS (aS a)).testBit (nn y) = true)) → V l g RX7 cX7_call 3 (some .int) 3 59 [.ref 0, .int (nI i), .int y] [] μ (fun r μ' => r = some (.int (if sP (aS a) i = 9 ∨ (y ≠ -1 ∧ (sS (aS a)).testBit (nn y) = true) then (-103, a) else (cI (sC (aS a) i), setA a (repC (aS a) i (cCode y)))).1) ∧ RC μ' (if sP (aS a) i = 9 ∨ (y ≠ -1 ∧ (sS (aS a)).testBit (nn y) = true) then (-103, a) else (cI (sC (aS a) i), setA a (repC (aS a) i (cCode y)))).2 ∧ FrC μ μ') := by
      intro y c hyc hc6 hcc hno
      rw [if_neg hno, ← hcc]
      subst hyc
      refine V_aload_n (pc := 59) dX7_call_59 rfl rfl ?_
      refine V_getR (pc := 60) (ci := 7) (j := 2) (k2 := 4) dX7_call_60 fl_X7_26 (fun _ _ _ _ => rfl) (by decide) rfl (rf_7_2 rfl) ?_
      refine V_iload_n (pc := 63) dX7_call_63 rfl rfl ?_
      refine V_iload_n (pc := 64) dX7_call_64 rfl rfl ?_
      refine V_inv2 (pc := 65) (ci := 4) dX7_call_65 ml_X7_148 (by decide) rfl ⟨by decide, rfl⟩ (by first | decide | omega) (Nat.le_of_ble_eq_true rfl) (c_X4_replaceCall μ h4 hS (show i < 6 by omega) hc6) ?_
      rintro _ μ1 ⟨rfl, k1, k2⟩
      refine V_iret (pc := 68) dX7_call_68 rfl ?_
      exact ⟨rfl, hA.sea k2 k1, k2.C (seaC (Or.inl rfl))⟩
    refine V_iload_n (pc := 40) dX7_call_40 rfl rfl ?_
    refine V_iconst (pc := 41) (v := (-1)) dX7_call_41 (by decide) ?_
    refine V_icmpeq (pc := 42) (tgt := 59) dX7_call_42 (by decide) (fun h42 => ?_) (fun h42 => ?_)
    · first
      | exact J y 0 (by rw [h42]; exact cI_0.symm) (by omega) (by unfold cCode; rw [if_pos h42]) (fun q => q.elim h37 (fun q => q.1 h42))
      | exact J (nI n) (n + 1) (cI_s n).symm (by omega) (by unfold cCode; rw [if_neg h42, nn_nI (by omega)]) (fun q => q.elim h37 (fun q => by rw [nn_nI (by omega), h53] at q; exact absurd q.2 (by decide)))
    obtain ⟨n, hn, rfl⟩ := inN_of (n := 6) (by decide) (show inN y 6 = true from by rw [decide_eq_false h42] at hy; exact hy)
    refine V_aload_n (pc := 45) dX7_call_45 rfl rfl ?_
    refine V_getR (pc := 46) (ci := 7) (j := 2) (k2 := 4) dX7_call_46 fl_X7_26 (fun _ _ _ _ => rfl) (by decide) rfl (rf_7_2 rfl) ?_
    refine V_iload_n (pc := 49) dX7_call_49 rfl rfl ?_
    refine V_inv1 (pc := 50) (ci := 4) dX7_call_50 ml_X7_145 (by decide) rfl ⟨by decide, rfl⟩ (by first | decide | omega) (Nat.le_of_ble_eq_true rfl) (c_X4_isSpent μ h4 hS hn) ?_
    rintro _ μ2 ⟨rfl, hμ⟩
    obtain rfl := hμ.symm
    refine V_ifeq (pc := 53) (tgt := 59) dX7_call_53 (by decide) (fun h53 => ?_) (fun h53 => ?_)
    · have h53 := bI_e h53
      first
      | exact J y 0 (by rw [h42]; exact cI_0.symm) (by omega) (by unfold cCode; rw [if_pos h42]) (fun q => q.elim h37 (fun q => q.1 h42))
      | exact J (nI n) (n + 1) (cI_s n).symm (by omega) (by unfold cCode; rw [if_neg h42, nn_nI (by omega)]) (fun q => q.elim h37 (fun q => by rw [nn_nI (by omega), h53] at q; exact absurd q.2 (by decide)))
    have h53 := bI_ne h53
    refine V_bipush (pc := 56) (v := (-103)) dX7_call_56 (by decide) ?_
    refine V_iret (pc := 58) dX7_call_58 rfl ?_
    first
    | (rw [if_pos (Or.inl h37)]; exact ⟨rfl, hA, FrC.rf⟩)
    | (rw [if_pos (Or.inr ⟨h42, by rw [nn_nI (by omega)]; exact h53⟩)]; exact ⟨rfl, hA, FrC.rf⟩)
  have h17 := bI_e h17; rw [inR_N (n := 6) (by decide)] at h17; have hy : (decide (y = -1) || inN y 6) = false := by rw [h17, decide_eq_false h10]; rfl
  refine V_bipush (pc := 20) (v := (-101)) dX7_call_20 (by decide) ?_
  refine V_iret (pc := 22) dX7_call_22 rfl ?_
  first
  | (have e0 : fCall a x y = (-101, a) := by simp [fCall, h5]
     rw [e0]; exact ⟨rfl, hA, FrC.rf⟩)
  | (have e0 : fCall a x y = (-101, a) := by simp only [fCall, h5, hy]; rfl
     rw [e0]; exact ⟨rfl, hA, FrC.rf⟩)
theorem dX7_blow_0 : decode cX7_blow 0 = .ok (.iload_n 1, 1) := by decide +kernel
theorem dX7_blow_1 : decode cX7_blow 1 = .ok (.invokestatic 96, 3) := by decide +kernel
theorem dX7_blow_4 : decode cX7_blow 4 = .ok (.ifCond .ne 6, 3) := by decide +kernel
theorem dX7_blow_7 : decode cX7_blow 7 = .ok (.bipush (-101), 2) := by decide +kernel
theorem dX7_blow_9 : decode cX7_blow 9 = .ok (.ireturn, 1) := by decide +kernel
theorem dX7_blow_10 : decode cX7_blow 10 = .ok (.aload_n 0, 1) := by decide +kernel
theorem dX7_blow_11 : decode cX7_blow 11 = .ok (.invokevirtual 103, 3) := by decide +kernel
theorem dX7_blow_14 : decode cX7_blow 14 = .ok (.ifCond .ne 6, 3) := by decide +kernel
theorem dX7_blow_17 : decode cX7_blow 17 = .ok (.bipush (-103), 2) := by decide +kernel
theorem dX7_blow_19 : decode cX7_blow 19 = .ok (.ireturn, 1) := by decide +kernel
theorem dX7_blow_20 : decode cX7_blow 20 = .ok (.aload_n 0, 1) := by decide +kernel
theorem dX7_blow_21 : decode cX7_blow 21 = .ok (.getfield 26, 3) := by decide +kernel
theorem dX7_blow_24 : decode cX7_blow 24 = .ok (.aload_n 0, 1) := by decide +kernel
theorem dX7_blow_25 : decode cX7_blow 25 = .ok (.getfield 53, 3) := by decide +kernel
theorem dX7_blow_28 : decode cX7_blow 28 = .ok (.iload_n 1, 1) := by decide +kernel
theorem dX7_blow_29 : decode cX7_blow 29 = .ok (.invokevirtual 151, 3) := by decide +kernel
theorem dX7_blow_32 : decode cX7_blow 32 = .ok (.aload_n 0, 1) := by decide +kernel
theorem dX7_blow_33 : decode cX7_blow 33 = .ok (.getfield 26, 3) := by decide +kernel
theorem dX7_blow_36 : decode cX7_blow 36 = .ok (.invokevirtual 155, 3) := by decide +kernel
theorem dX7_blow_39 : decode cX7_blow 39 = .ok (.ireturn, 1) := by decide +kernel
set_option maxHeartbeats 4000000 in
set_option maxRecDepth 100000 in
theorem c_X7_blow {l : Launch} {g : GW} {a : AT} {x : Int32} (μ : Mm) (hA : RC μ a)  : Con l g yX7_blow cX7_blow 2 (some .int) 4 [.ref 0, .int x] μ (fun r μ' => r = some (.int (fBlow a x).1) ∧ RC μ' (fBlow a x).2 ∧ FrC μ μ') := by
  obtain ⟨a1, a2, a3, a4, ⟨b, hb, hcur, hdrf, hB⟩, hS, hK, hD, hW⟩ := id hA
  obtain ⟨r1, r2, r3, r4, r5, r6, r7, r8, r9⟩ := id hS
  obtain ⟨w1, w2, w3, w4, w5, w6⟩ := id hW
  obtain ⟨p1, p2, p3⟩ := id a1
  obtain ⟨hb1, hb2, hb3, hb4, hb5, hb6, hrow⟩ := bkF hb
  have hship : ∀ i, i < 6 → 4 + 1 + 1 + i < 88 ∧ kt (4 + 1 + 1 + i) = 5 := (seaF (Or.inl rfl)).2.2.2.2.2.2
  have hs4 : (4 : Nat) = 4 ∨ (4 : Nat) = 13 ∨ (4 : Nat) = 22 := Or.inl rfl
  refine Con.of [.ref 0, .int x] 0 (by decide +kernel) (Nat.le_of_ble_eq_true rfl) rfl ?_
  refine V_iload_n (pc := 0) dX7_blow_0 rfl rfl ?_
  refine V_ins1 (pc := 1) dX7_blow_1 ml_X7_96 (by first | decide | omega) (Nat.le_of_ble_eq_true rfl) (c_X7_isWindOrCalm μ) ?_
  rintro _ μ2 ⟨rfl, hμ⟩
  obtain rfl := hμ.symm
  refine V_ifne (pc := 4) (tgt := 10) dX7_blow_4 (by decide) (fun h4 => ?_) (fun h4 => ?_)
  · have h4 := bI_ne h4
    refine V_aload_n (pc := 10) dX7_blow_10 rfl rfl ?_
    refine V_inv0 (pc := 11) (ci := 7) dX7_blow_11 ml_X7_103 (by decide) rfl ⟨by decide, rfl⟩ (by first | decide | omega) (Nat.le_of_ble_eq_true rfl) (c_X7_hasBook μ hA) ?_
    rintro _ μ2 ⟨rfl, hμ⟩
    obtain rfl := hμ.symm
    refine V_ifne (pc := 14) (tgt := 20) dX7_blow_14 (by decide) (fun h14 => ?_) (fun h14 => ?_)
    · have h14 := of_decide_eq_true (bI_ne h14)
      obtain ⟨w, hw, rfl⟩ := inN_of (by decide) h4
      have e0 : fBlow a (nI w) = (nI (homeT (sP (dayT (aOw a) w (aS a))) (sN (dayT (aOw a) w (aS a)))), setA a (dayT (aOw a) w (aS a))) := by simp only [fBlow, h4, if_true, nn_nI (j := w) (by omega)]; rw [if_pos h14]
      rw [e0]
      refine V_aload_n (pc := 20) dX7_blow_20 rfl rfl ?_
      refine V_getR (pc := 21) (ci := 7) (j := 2) (k2 := 4) dX7_blow_21 fl_X7_26 (fun _ _ _ _ => rfl) (by decide) rfl (rf_7_2 rfl) ?_
      refine V_aload_n (pc := 24) dX7_blow_24 rfl rfl ?_
      refine V_getR (pc := 25) (ci := 7) (j := 7) (k2 := b) dX7_blow_25 fl_X7_53 (fun _ _ _ _ => rfl) (by decide) rfl ((rf_7_7 rfl).trans hcur) ?_
      refine V_iload_n (pc := 28) dX7_blow_28 rfl rfl ?_
      refine V_inv2 (pc := 29) (ci := 4) dX7_blow_29 ml_X7_151 (by decide) rfl ⟨by decide, rfl⟩ (by first | decide | omega) (Nat.le_of_ble_eq_true rfl) (c_X4_passDay μ hs4 hS hb hB (show w ≤ 4 by omega)) ?_
      rintro _ μ1 ⟨rfl, k1, k2⟩
      refine V_aload_n (pc := 32) dX7_blow_32 rfl rfl ?_
      refine V_getR (pc := 33) (ci := 7) (j := 2) (k2 := 4) dX7_blow_33 fl_X7_26 (fun _ _ _ _ => rfl) (by decide) rfl (rf_7_2 rfl) ?_
      refine V_inv0 (pc := 36) (ci := 4) dX7_blow_36 ml_X7_155 (by decide) rfl ⟨by decide, rfl⟩ (by first | decide | omega) (Nat.le_of_ble_eq_true rfl) (c_X4_homeCount μ1 hs4 k1) ?_
      rintro _ μ2 ⟨rfl, hμ⟩
      obtain rfl := hμ.symm
      refine V_iret (pc := 39) dX7_blow_39 rfl ?_
      exact ⟨rfl, hA.sea k2 k1, k2.C (seaC (Or.inl rfl))⟩
    have h14 := of_decide_eq_false (bI_e h14)
    refine V_bipush (pc := 17) (v := (-103)) dX7_blow_17 (by decide) ?_
    refine V_iret (pc := 19) dX7_blow_19 rfl ?_
    have e0 : fBlow a x = (-103, a) := by simp [fBlow, h4, h14]
    rw [e0]
    exact ⟨rfl, hA, FrC.rf⟩
  have h4 := bI_e h4
  refine V_bipush (pc := 7) (v := (-101)) dX7_blow_7 (by decide) ?_
  refine V_iret (pc := 9) dX7_blow_9 rfl ?_
  have e0 : fBlow a x = (-101, a) := by simp [fBlow, h4]
  rw [e0]
  exact ⟨rfl, hA, FrC.rf⟩
theorem dX7_moon_0 : decode cX7_moon 0 = .ok (.aload_n 0, 1) := by decide +kernel
theorem dX7_moon_1 : decode cX7_moon 1 = .ok (.getfield 26, 3) := by decide +kernel
theorem dX7_moon_4 : decode cX7_moon 4 = .ok (.invokevirtual 158, 3) := by decide +kernel
theorem dX7_moon_7 : decode cX7_moon 7 = .ok (.istore_n 1, 1) := by decide +kernel
theorem dX7_moon_8 : decode cX7_moon 8 = .ok (.aload_n 0, 1) := by decide +kernel
theorem dX7_moon_9 : decode cX7_moon 9 = .ok (.getfield 26, 3) := by decide +kernel
theorem dX7_moon_12 : decode cX7_moon 12 = .ok (.iconst 0, 1) := by decide +kernel
theorem dX7_moon_13 : decode cX7_moon 13 = .ok (.putfield 161, 3) := by decide +kernel
theorem dX7_moon_16 : decode cX7_moon 16 = .ok (.iload_n 1, 1) := by decide +kernel
theorem dX7_moon_17 : decode cX7_moon 17 = .ok (.ireturn, 1) := by decide +kernel
set_option maxHeartbeats 4000000 in
set_option maxRecDepth 100000 in
theorem c_X7_moon {l : Launch} {g : GW} {a : AT}  (μ : Mm) (hA : RC μ a)  : Con l g yX7_moon cX7_moon 2 (some .int) 2 [.ref 0] μ (fun r μ' => r = some (.int (fMoon a).1) ∧ RC μ' (fMoon a).2 ∧ FrC μ μ') := by
  obtain ⟨a1, a2, a3, a4, ⟨b, hb, hcur, hdrf, hB⟩, hS, hK, hD, hW⟩ := id hA
  obtain ⟨r1, r2, r3, r4, r5, r6, r7, r8, r9⟩ := id hS
  obtain ⟨w1, w2, w3, w4, w5, w6⟩ := id hW
  obtain ⟨p1, p2, p3⟩ := id a1
  obtain ⟨hb1, hb2, hb3, hb4, hb5, hb6, hrow⟩ := bkF hb
  have hship : ∀ i, i < 6 → 4 + 1 + 1 + i < 88 ∧ kt (4 + 1 + 1 + i) = 5 := (seaF (Or.inl rfl)).2.2.2.2.2.2
  have h4 : (4 : Nat) = 4 ∨ (4 : Nat) = 13 ∨ (4 : Nat) = 22 := Or.inl rfl
  refine Con.of [.ref 0, .null] 1 (by decide +kernel) (Nat.le_of_ble_eq_true rfl) rfl ?_
  refine V_aload_n (pc := 0) dX7_moon_0 rfl rfl ?_
  refine V_getR (pc := 1) (ci := 7) (j := 2) (k2 := 4) dX7_moon_1 fl_X7_26 (fun _ _ _ _ => rfl) (by decide) rfl (rf_7_2 rfl) ?_
  refine V_inv0 (pc := 4) (ci := 4) dX7_moon_4 ml_X7_158 (by decide) rfl ⟨by decide, rfl⟩ (by first | decide | omega) (Nat.le_of_ble_eq_true rfl) (c_X4_spentCount μ h4 hS) ?_
  rintro _ μ2 ⟨rfl, hμ⟩
  obtain rfl := hμ.symm
  refine V_istore1 (pc := 7) dX7_moon_7 (by decide) rfl ?_
  refine V_aload_n (pc := 8) dX7_moon_8 rfl rfl ?_
  refine V_getR (pc := 9) (ci := 7) (j := 2) (k2 := 4) dX7_moon_9 fl_X7_26 (fun _ _ _ _ => rfl) (by decide) rfl (rf_7_2 rfl) ?_
  refine V_iconst (pc := 12) (v := 0) dX7_moon_12 (by decide) ?_
  refine V_putI (pc := 13) (ci := 4) (j := 3) dX7_moon_13 fl_X7_161 (fun _ _ _ _ _ => rfl) rfl rfl (by decide) rfl ?_
  refine V_iload_n (pc := 16) dX7_moon_16 rfl rfl ?_
  refine V_iret (pc := 17) dX7_moon_17 rfl ?_
  have k1 := hS.setS (S := 0) (x := 0) (by omega) rfl
  have k2 : FrM (seaS 4) μ (setI μ 4 3 0) := FrM.rf.set (Or.inl rfl)
  exact ⟨rfl, hA.sea k2 k1, k2.C (seaC (Or.inl rfl))⟩
theorem dX7_wake_0 : decode cX7_wake 0 = .ok (.aload_n 0, 1) := by decide +kernel
theorem dX7_wake_1 : decode cX7_wake 1 = .ok (.iload_n 1, 1) := by decide +kernel
theorem dX7_wake_2 : decode cX7_wake 2 = .ok (.invokevirtual 126, 3) := by decide +kernel
theorem dX7_wake_5 : decode cX7_wake 5 = .ok (.ifCond .eq 10, 3) := by decide +kernel
theorem dX7_wake_8 : decode cX7_wake 8 = .ok (.iload_n 2, 1) := by decide +kernel
theorem dX7_wake_9 : decode cX7_wake 9 = .ok (.invokestatic 117, 3) := by decide +kernel
theorem dX7_wake_12 : decode cX7_wake 12 = .ok (.ifCond .ne 6, 3) := by decide +kernel
theorem dX7_wake_15 : decode cX7_wake 15 = .ok (.bipush (-101), 2) := by decide +kernel
theorem dX7_wake_17 : decode cX7_wake 17 = .ok (.ireturn, 1) := by decide +kernel
theorem dX7_wake_18 : decode cX7_wake 18 = .ok (.aload_n 0, 1) := by decide +kernel
theorem dX7_wake_19 : decode cX7_wake 19 = .ok (.getfield 39, 3) := by decide +kernel
theorem dX7_wake_22 : decode cX7_wake 22 = .ok (.getfield 206, 3) := by decide +kernel
theorem dX7_wake_25 : decode cX7_wake 25 = .ok (.istore_n 3, 1) := by decide +kernel
theorem dX7_wake_26 : decode cX7_wake 26 = .ok (.aload_n 0, 1) := by decide +kernel
theorem dX7_wake_27 : decode cX7_wake 27 = .ok (.getfield 39, 3) := by decide +kernel
theorem dX7_wake_30 : decode cX7_wake 30 = .ok (.aload_n 0, 1) := by decide +kernel
theorem dX7_wake_31 : decode cX7_wake 31 = .ok (.getfield 26, 3) := by decide +kernel
theorem dX7_wake_34 : decode cX7_wake 34 = .ok (.getfield 129, 3) := by decide +kernel
theorem dX7_wake_37 : decode cX7_wake 37 = .ok (.iload_n 1, 1) := by decide +kernel
theorem dX7_wake_38 : decode cX7_wake 38 = .ok (.aaload, 1) := by decide +kernel
theorem dX7_wake_39 : decode cX7_wake 39 = .ok (.getfield 171, 3) := by decide +kernel
theorem dX7_wake_42 : decode cX7_wake 42 = .ok (.iload_n 2, 1) := by decide +kernel
theorem dX7_wake_43 : decode cX7_wake 43 = .ok (.invokevirtual 209, 3) := by decide +kernel
theorem dX7_wake_46 : decode cX7_wake 46 = .ok (.iload_n 3, 1) := by decide +kernel
theorem dX7_wake_47 : decode cX7_wake 47 = .ok (.ireturn, 1) := by decide +kernel
set_option maxHeartbeats 4000000 in
set_option maxRecDepth 100000 in
theorem c_X7_wake {l : Launch} {g : GW} {a : AT} {x y : Int32} (μ : Mm) (hA : RC μ a)  : Con l g yX7_wake cX7_wake 4 (some .int) 1 [.ref 0, .int x, .int y] μ (fun r μ' => r = some (.int (fWake a x y).1) ∧ RC μ' (fWake a x y).2 ∧ FrC μ μ') := by
  obtain ⟨a1, a2, a3, a4, ⟨b, hb, hcur, hdrf, hB⟩, hS, hK, hD, hW⟩ := id hA
  obtain ⟨r1, r2, r3, r4, r5, r6, r7, r8, r9⟩ := id hS
  obtain ⟨w1, w2, w3, w4, w5, w6⟩ := id hW
  obtain ⟨p1, p2, p3⟩ := id a1
  obtain ⟨hb1, hb2, hb3, hb4, hb5, hb6, hrow⟩ := bkF hb
  have hship : ∀ i, i < 6 → 4 + 1 + 1 + i < 88 ∧ kt (4 + 1 + 1 + i) = 5 := (seaF (Or.inl rfl)).2.2.2.2.2.2
  have h4 : (4 : Nat) = 4 ∨ (4 : Nat) = 13 ∨ (4 : Nat) = 22 := Or.inl rfl
  refine Con.of [.ref 0, .int x, .int y, .null] 1 (by decide +kernel) (Nat.le_of_ble_eq_true rfl) rfl ?_
  refine V_aload_n (pc := 0) dX7_wake_0 rfl rfl ?_
  refine V_iload_n (pc := 1) dX7_wake_1 rfl rfl ?_
  refine V_inv1 (pc := 2) (ci := 7) dX7_wake_2 ml_X7_126 (by decide) rfl ⟨by decide, rfl⟩ (by first | decide | omega) (Nat.le_of_ble_eq_true rfl) (c_X7_isShip μ hA) ?_
  rintro _ μ2 ⟨rfl, hμ⟩
  obtain rfl := hμ.symm
  refine V_ifeq (pc := 5) (tgt := 15) dX7_wake_5 (by decide) (fun h5 => ?_) (fun h5 => ?_)
  · have h5 := bI_e h5
    refine V_bipush (pc := 15) (v := (-101)) dX7_wake_15 (by decide) ?_
    refine V_iret (pc := 17) dX7_wake_17 rfl ?_
    first
    | (have e0 : fWake a x y = (-101, a) := by simp [fWake, h5]
       rw [e0]; exact ⟨rfl, hA, FrC.rf⟩)
    | (have e0 : fWake a x y = (-101, a) := by simp [fWake, h12]
       rw [e0]; exact ⟨rfl, hA, FrC.rf⟩)
  have h5 := bI_ne h5
  refine V_iload_n (pc := 8) dX7_wake_8 rfl rfl ?_
  refine V_ins1 (pc := 9) dX7_wake_9 ml_X7_117 (by first | decide | omega) (Nat.le_of_ble_eq_true rfl) (c_X7_isPlace μ) ?_
  rintro _ μ2 ⟨rfl, hμ⟩
  obtain rfl := hμ.symm
  refine V_ifne (pc := 12) (tgt := 18) dX7_wake_12 (by decide) (fun h12 => ?_) (fun h12 => ?_)
  · have h12 := bI_ne h12
    obtain ⟨i, hi, rfl⟩ := inN_of (by omega) h5
    obtain ⟨z1, z2, z3, z4, z5, z6, z7, z8⟩ := id (r8 i (by omega))
    obtain ⟨p, hp, rfl⟩ := inN_of (by decide) h12
    have e0 : fWake a (nI i) (nI p) = (nI (aWn a), setW a true (sK (aS a) i) 0 (up1 (aWp a) 0 p)) := by simp only [fWake, h5, h12, Bool.and_self, if_true, nn_nI (j := i) (by omega), nn_nI (j := p) (by omega)]
    rw [e0]
    refine V_aload_n (pc := 18) dX7_wake_18 rfl rfl ?_
    refine V_getR (pc := 19) (ci := 7) (j := 5) (k2 := 31) dX7_wake_19 fl_X7_39 (fun _ _ _ _ => rfl) (by decide) rfl (rf_7_5 rfl) ?_
    refine V_getI (pc := 22) (ci := 6) (j := 3) dX7_wake_22 fl_X7_206 (fun _ _ _ _ => rfl) (by decide) rfl ?_
    refine V_istore3 (pc := 25) dX7_wake_25 (by decide) rfl ?_
    refine V_aload_n (pc := 26) dX7_wake_26 rfl rfl ?_
    refine V_getR (pc := 27) (ci := 7) (j := 5) (k2 := 31) dX7_wake_27 fl_X7_39 (fun _ _ _ _ => rfl) (by decide) rfl (rf_7_5 rfl) ?_
    refine V_aload_n (pc := 30) dX7_wake_30 rfl rfl ?_
    refine V_getR (pc := 31) (ci := 7) (j := 2) (k2 := 4) dX7_wake_31 fl_X7_26 (fun _ _ _ _ => rfl) (by decide) rfl (rf_7_2 rfl) ?_
    refine V_getR (pc := 34) (ci := 4) (j := 0) (k2 := 5) dX7_wake_34 fl_X7_129 (fun _ _ _ _ => rfl) (by decide) rfl (rf_4_0 rfl) ?_
    refine V_iload_n (pc := 37) dX7_wake_37 rfl rfl ?_
    refine V_aald14 (pc := 38) (j := i) dX7_wake_38 (by decide) rfl rfl (by show i < 6; omega) ?_
    refine V_getI (pc := 39) (ci := 5) (j := 0) dX7_wake_39 fl_X7_171 (fun _ _ _ _ => rfl) (by first | decide | omega) (by first | rfl | assumption | exact (hship _ (by omega)).2 | exact (hrow _ (by omega)).2.1 | decide) ?_
    rw [z1]
    refine V_iload_n (pc := 42) dX7_wake_42 rfl rfl ?_
    refine V_inv2 (pc := 43) (ci := 6) dX7_wake_43 ml_X7_209 (by decide) rfl ⟨by decide, rfl⟩ (by first | decide | omega) (Nat.le_of_ble_eq_true rfl) (c_X6_begin μ hW z2 (show p ≤ 9 by omega)) ?_
    rintro _ μ1 ⟨rfl, k1, k2⟩
    refine V_iload_n (pc := 46) dX7_wake_46 rfl rfl ?_
    refine V_iret (pc := 47) dX7_wake_47 rfl ?_
    exact ⟨by rw [w4], hA.wk k2 k1, k2.C (fun k hk => by omega)⟩
  have h12 := bI_e h12
  refine V_bipush (pc := 15) (v := (-101)) dX7_wake_15 (by decide) ?_
  refine V_iret (pc := 17) dX7_wake_17 rfl ?_
  first
  | (have e0 : fWake a x y = (-101, a) := by simp [fWake, h5]
     rw [e0]; exact ⟨rfl, hA, FrC.rf⟩)
  | (have e0 : fWake a x y = (-101, a) := by simp [fWake, h12]
     rw [e0]; exact ⟨rfl, hA, FrC.rf⟩)
theorem dX7_then_0 : decode cX7_then 0 = .ok (.aload_n 0, 1) := by decide +kernel
theorem dX7_then_1 : decode cX7_then 1 = .ok (.getfield 39, 3) := by decide +kernel
theorem dX7_then_4 : decode cX7_then 4 = .ok (.getfield 212, 3) := by decide +kernel
theorem dX7_then_7 : decode cX7_then 7 = .ok (.ifCond .ne 6, 3) := by decide +kernel
theorem dX7_then_10 : decode cX7_then 10 = .ok (.bipush (-103), 2) := by decide +kernel
theorem dX7_then_12 : decode cX7_then 12 = .ok (.ireturn, 1) := by decide +kernel
theorem dX7_then_13 : decode cX7_then 13 = .ok (.iload_n 1, 1) := by decide +kernel
theorem dX7_then_14 : decode cX7_then 14 = .ok (.invokestatic 117, 3) := by decide +kernel
theorem dX7_then_17 : decode cX7_then 17 = .ok (.ifCond .eq 14, 3) := by decide +kernel
theorem dX7_then_20 : decode cX7_then 20 = .ok (.aload_n 0, 1) := by decide +kernel
theorem dX7_then_21 : decode cX7_then 21 = .ok (.getfield 39, 3) := by decide +kernel
theorem dX7_then_24 : decode cX7_then 24 = .ok (.iload_n 1, 1) := by decide +kernel
theorem dX7_then_25 : decode cX7_then 25 = .ok (.invokevirtual 215, 3) := by decide +kernel
theorem dX7_then_28 : decode cX7_then 28 = .ok (.goto 5, 3) := by decide +kernel
theorem dX7_then_31 : decode cX7_then 31 = .ok (.bipush (-101), 2) := by decide +kernel
theorem dX7_then_33 : decode cX7_then 33 = .ok (.ireturn, 1) := by decide +kernel
set_option maxHeartbeats 4000000 in
set_option maxRecDepth 100000 in
theorem c_X7_then {l : Launch} {g : GW} {a : AT} {x : Int32} (μ : Mm) (hA : RC μ a)  : Con l g yX7_then cX7_then 2 (some .int) 1 [.ref 0, .int x] μ (fun r μ' => r = some (.int (fThen a x).1) ∧ RC μ' (fThen a x).2 ∧ FrC μ μ') := by
  obtain ⟨a1, a2, a3, a4, ⟨b, hb, hcur, hdrf, hB⟩, hS, hK, hD, hW⟩ := id hA
  obtain ⟨r1, r2, r3, r4, r5, r6, r7, r8, r9⟩ := id hS
  obtain ⟨w1, w2, w3, w4, w5, w6⟩ := id hW
  obtain ⟨p1, p2, p3⟩ := id a1
  obtain ⟨hb1, hb2, hb3, hb4, hb5, hb6, hrow⟩ := bkF hb
  have hship : ∀ i, i < 6 → 4 + 1 + 1 + i < 88 ∧ kt (4 + 1 + 1 + i) = 5 := (seaF (Or.inl rfl)).2.2.2.2.2.2
  have h4 : (4 : Nat) = 4 ∨ (4 : Nat) = 13 ∨ (4 : Nat) = 22 := Or.inl rfl
  refine Con.of [.ref 0, .int x] 0 (by decide +kernel) (Nat.le_of_ble_eq_true rfl) rfl ?_
  refine V_aload_n (pc := 0) dX7_then_0 rfl rfl ?_
  refine V_getR (pc := 1) (ci := 7) (j := 5) (k2 := 31) dX7_then_1 fl_X7_39 (fun _ _ _ _ => rfl) (by decide) rfl (rf_7_5 rfl) ?_
  refine V_getI (pc := 4) (ci := 6) (j := 1) dX7_then_4 fl_X7_212 (fun _ _ _ _ => rfl) (by decide) rfl ?_
  rw [w1]
  refine V_ifne (pc := 7) (tgt := 13) dX7_then_7 (by decide) (fun h7 => ?_) (fun h7 => ?_)
  · have h7 := bI_ne h7
    refine V_iload_n (pc := 13) dX7_then_13 rfl rfl ?_
    refine V_ins1 (pc := 14) dX7_then_14 ml_X7_117 (by first | decide | omega) (Nat.le_of_ble_eq_true rfl) (c_X7_isPlace μ) ?_
    rintro _ μ2 ⟨rfl, hμ⟩
    obtain rfl := hμ.symm
    refine V_ifeq (pc := 17) (tgt := 31) dX7_then_17 (by decide) (fun h17 => ?_) (fun h17 => ?_)
    · have h17 := bI_e h17
      refine V_bipush (pc := 31) (v := (-101)) dX7_then_31 (by decide) ?_
      refine V_iret (pc := 33) dX7_then_33 rfl ?_
      first
      | (rw [if_neg e1]; exact ⟨rfl, hA.wk k2 k1, k2.C (fun k hk => by omega)⟩)
      | (have e0 : fThen a x = (-101, a) := by simp [fThen, h7, h17]
         rw [e0]; exact ⟨rfl, hA, FrC.rf⟩)
    have h17 := bI_ne h17
    obtain ⟨p, hp, rfl⟩ := inN_of (by decide) h17
    have e0 : fThen a (nI p) = (if aWn a = 6 then (-104, a) else (nI (aWn a + 1), setW a true (aWk a) (aWn a + 1) (up1 (aWp a) (aWn a + 1) p))) := by simp only [fThen, h7, h17, if_true, nn_nI (j := p) (by omega)]
    rw [e0]
    clear e0
    refine V_aload_n (pc := 20) dX7_then_20 rfl rfl ?_
    refine V_getR (pc := 21) (ci := 7) (j := 5) (k2 := 31) dX7_then_21 fl_X7_39 (fun _ _ _ _ => rfl) (by decide) rfl (rf_7_5 rfl) ?_
    refine V_iload_n (pc := 24) dX7_then_24 rfl rfl ?_
    refine V_inv1 (pc := 25) (ci := 6) dX7_then_25 ml_X7_215 (by decide) rfl ⟨by decide, rfl⟩ (by first | decide | omega) (Nat.le_of_ble_eq_true rfl) (c_X6_add μ hW (show p ≤ 9 by omega)) ?_
    intro r μ1 hq
    by_cases e1 : aWn a = 6
    · rw [if_pos e1] at hq
      obtain ⟨rfl, hμ⟩ := hq
      obtain rfl := hμ.symm
      refine V_goto (pc := 28) (tgt := 33) dX7_then_28 (by decide) ?_
      refine V_iret (pc := 33) dX7_then_33 rfl ?_
      rw [if_pos e1]
      exact ⟨rfl, hA, FrC.rf⟩
    rw [if_neg e1] at hq
    obtain ⟨rfl, k1, k2⟩ := hq
    rw [h7] at k1
    refine V_goto (pc := 28) (tgt := 33) dX7_then_28 (by decide) ?_
    refine V_iret (pc := 33) dX7_then_33 rfl ?_
    first
    | (rw [if_neg e1]; exact ⟨rfl, hA.wk k2 k1, k2.C (fun k hk => by omega)⟩)
    | (have e0 : fThen a x = (-101, a) := by simp [fThen, h7, h17]
       rw [e0]; exact ⟨rfl, hA, FrC.rf⟩)
  have h7 := bI_e h7
  refine V_bipush (pc := 10) (v := (-103)) dX7_then_10 (by decide) ?_
  refine V_iret (pc := 12) dX7_then_12 rfl ?_
  have e0 : fThen a x = (-103, a) := by simp [fThen, h7]
  rw [e0]
  exact ⟨rfl, hA, FrC.rf⟩
