theorem dX7_isWindOrCalm_0 : decode cX7_isWindOrCalm 0 = .ok (.iload_n 0, 1) := by decide +kernel
theorem dX7_isWindOrCalm_1 : decode cX7_isWindOrCalm 1 = .ok (.ifCond .lt 12, 3) := by decide +kernel
theorem dX7_isWindOrCalm_4 : decode cX7_isWindOrCalm 4 = .ok (.iload_n 0, 1) := by decide +kernel
theorem dX7_isWindOrCalm_5 : decode cX7_isWindOrCalm 5 = .ok (.iconst 4, 1) := by decide +kernel
theorem dX7_isWindOrCalm_6 : decode cX7_isWindOrCalm 6 = .ok (.if_icmp .gt 7, 3) := by decide +kernel
theorem dX7_isWindOrCalm_9 : decode cX7_isWindOrCalm 9 = .ok (.iconst 1, 1) := by decide +kernel
theorem dX7_isWindOrCalm_10 : decode cX7_isWindOrCalm 10 = .ok (.goto 4, 3) := by decide +kernel
theorem dX7_isWindOrCalm_13 : decode cX7_isWindOrCalm 13 = .ok (.iconst 0, 1) := by decide +kernel
theorem dX7_isWindOrCalm_14 : decode cX7_isWindOrCalm 14 = .ok (.ireturn, 1) := by decide +kernel
set_option maxHeartbeats 4000000 in
set_option maxRecDepth 100000 in
theorem c_X7_isWindOrCalm {l : Launch} {g : GW} {x : Int32} (μ : Mm)  : Con l g yX7_isWindOrCalm cX7_isWindOrCalm 1 (some .boolean) 0 [.int x] μ (fun r μ' => r = some (.int (bI (inN x 5))) ∧ μ' = μ) := by
  refine Con.of [.int x] 0 (by decide +kernel) (Nat.le_of_ble_eq_true rfl) rfl ?_
  refine V_iload_n (pc := 0) dX7_isWindOrCalm_0 rfl rfl ?_
  refine V_iflt (pc := 1) (tgt := 13) dX7_isWindOrCalm_1 (by decide) (fun h1 => ?_) (fun h1 => ?_)
  · have e9 := inN_f1 (n := 5) h1
    refine V_iconst (pc := 13) (v := 0) dX7_isWindOrCalm_13 (by decide) ?_
    refine V_zret (pc := 14) dX7_isWindOrCalm_14 rfl (by first | exact Or.inl rfl | exact Or.inr rfl | assumption) ?_
    exact ⟨by rw [e9]; rfl, rfl⟩
  refine V_iload_n (pc := 4) dX7_isWindOrCalm_4 rfl rfl ?_
  refine V_iconst (pc := 5) (v := 4) dX7_isWindOrCalm_5 (by decide) ?_
  refine V_icmpgt (pc := 6) (tgt := 13) dX7_isWindOrCalm_6 (by decide) (fun h6 => ?_) (fun h6 => ?_)
  · have e9 := inN_f2' (n := 5) (M := 4) (by decide) h6
    refine V_iconst (pc := 13) (v := 0) dX7_isWindOrCalm_13 (by decide) ?_
    refine V_zret (pc := 14) dX7_isWindOrCalm_14 rfl (by first | exact Or.inl rfl | exact Or.inr rfl | assumption) ?_
    exact ⟨by rw [e9]; rfl, rfl⟩
  have e9 := inN_t' (n := 5) (M := 4) (by decide) h1 h6
  refine V_iconst (pc := 9) (v := 1) dX7_isWindOrCalm_9 (by decide) ?_
  refine V_goto (pc := 10) (tgt := 14) dX7_isWindOrCalm_10 (by decide) ?_
  refine V_zret (pc := 14) dX7_isWindOrCalm_14 rfl (by first | exact Or.inl rfl | exact Or.inr rfl | assumption) ?_
  exact ⟨by rw [e9]; rfl, rfl⟩
theorem dX7_isPlace_0 : decode cX7_isPlace 0 = .ok (.iload_n 0, 1) := by decide +kernel
theorem dX7_isPlace_1 : decode cX7_isPlace 1 = .ok (.ifCond .lt 13, 3) := by decide +kernel
theorem dX7_isPlace_4 : decode cX7_isPlace 4 = .ok (.iload_n 0, 1) := by decide +kernel
theorem dX7_isPlace_5 : decode cX7_isPlace 5 = .ok (.bipush 9, 2) := by decide +kernel
theorem dX7_isPlace_7 : decode cX7_isPlace 7 = .ok (.if_icmp .gt 7, 3) := by decide +kernel
theorem dX7_isPlace_10 : decode cX7_isPlace 10 = .ok (.iconst 1, 1) := by decide +kernel
theorem dX7_isPlace_11 : decode cX7_isPlace 11 = .ok (.goto 4, 3) := by decide +kernel
theorem dX7_isPlace_14 : decode cX7_isPlace 14 = .ok (.iconst 0, 1) := by decide +kernel
theorem dX7_isPlace_15 : decode cX7_isPlace 15 = .ok (.ireturn, 1) := by decide +kernel
set_option maxHeartbeats 4000000 in
set_option maxRecDepth 100000 in
theorem c_X7_isPlace {l : Launch} {g : GW} {x : Int32} (μ : Mm)  : Con l g yX7_isPlace cX7_isPlace 1 (some .boolean) 0 [.int x] μ (fun r μ' => r = some (.int (bI (inN x 10))) ∧ μ' = μ) := by
  refine Con.of [.int x] 0 (by decide +kernel) (Nat.le_of_ble_eq_true rfl) rfl ?_
  refine V_iload_n (pc := 0) dX7_isPlace_0 rfl rfl ?_
  refine V_iflt (pc := 1) (tgt := 14) dX7_isPlace_1 (by decide) (fun h1 => ?_) (fun h1 => ?_)
  · have e9 := inN_f1 (n := 10) h1
    refine V_iconst (pc := 14) (v := 0) dX7_isPlace_14 (by decide) ?_
    refine V_zret (pc := 15) dX7_isPlace_15 rfl (by first | exact Or.inl rfl | exact Or.inr rfl | assumption) ?_
    exact ⟨by rw [e9]; rfl, rfl⟩
  refine V_iload_n (pc := 4) dX7_isPlace_4 rfl rfl ?_
  refine V_bipush (pc := 5) (v := 9) dX7_isPlace_5 (by decide) ?_
  refine V_icmpgt (pc := 7) (tgt := 14) dX7_isPlace_7 (by decide) (fun h7 => ?_) (fun h7 => ?_)
  · have e9 := inN_f2' (n := 10) (M := 9) (by decide) h7
    refine V_iconst (pc := 14) (v := 0) dX7_isPlace_14 (by decide) ?_
    refine V_zret (pc := 15) dX7_isPlace_15 rfl (by first | exact Or.inl rfl | exact Or.inr rfl | assumption) ?_
    exact ⟨by rw [e9]; rfl, rfl⟩
  have e9 := inN_t' (n := 10) (M := 9) (by decide) h1 h7
  refine V_iconst (pc := 10) (v := 1) dX7_isPlace_10 (by decide) ?_
  refine V_goto (pc := 11) (tgt := 15) dX7_isPlace_11 (by decide) ?_
  refine V_zret (pc := 15) dX7_isPlace_15 rfl (by first | exact Or.inl rfl | exact Or.inr rfl | assumption) ?_
  exact ⟨by rw [e9]; rfl, rfl⟩
theorem dX7_isPart_0 : decode cX7_isPart 0 = .ok (.iload_n 0, 1) := by decide +kernel
theorem dX7_isPart_1 : decode cX7_isPart 1 = .ok (.ifCond .eq 8, 3) := by decide +kernel
theorem dX7_isPart_4 : decode cX7_isPart 4 = .ok (.iload_n 0, 1) := by decide +kernel
theorem dX7_isPart_5 : decode cX7_isPart 5 = .ok (.iconst 1, 1) := by decide +kernel
theorem dX7_isPart_6 : decode cX7_isPart 6 = .ok (.if_icmp .ne 7, 3) := by decide +kernel
theorem dX7_isPart_9 : decode cX7_isPart 9 = .ok (.iconst 1, 1) := by decide +kernel
theorem dX7_isPart_10 : decode cX7_isPart 10 = .ok (.goto 4, 3) := by decide +kernel
theorem dX7_isPart_13 : decode cX7_isPart 13 = .ok (.iconst 0, 1) := by decide +kernel
theorem dX7_isPart_14 : decode cX7_isPart 14 = .ok (.ireturn, 1) := by decide +kernel
set_option maxHeartbeats 4000000 in
set_option maxRecDepth 100000 in
theorem c_X7_isPart {l : Launch} {g : GW} {x : Int32} (μ : Mm)  : Con l g yX7_isPart cX7_isPart 1 (some .boolean) 0 [.int x] μ (fun r μ' => r = some (.int (bI (isPt x))) ∧ μ' = μ) := by
  refine Con.of [.int x] 0 (by decide +kernel) (Nat.le_of_ble_eq_true rfl) rfl ?_
  refine V_iload_n (pc := 0) dX7_isPart_0 rfl rfl ?_
  refine V_ifeq (pc := 1) (tgt := 9) dX7_isPart_1 (by decide) (fun h1 => ?_) (fun h1 => ?_)
  · refine V_iconst (pc := 9) (v := 1) dX7_isPart_9 (by decide) ?_
    refine V_goto (pc := 10) (tgt := 14) dX7_isPart_10 (by decide) ?_
    refine V_zret (pc := 14) dX7_isPart_14 rfl (by first | exact Or.inl rfl | exact Or.inr rfl | assumption) ?_
    exact ⟨congrArg (fun z => some (Value.int z)) (by simp [isPt, bI, *]), rfl⟩
  refine V_iload_n (pc := 4) dX7_isPart_4 rfl rfl ?_
  refine V_iconst (pc := 5) (v := 1) dX7_isPart_5 (by decide) ?_
  refine V_icmpne (pc := 6) (tgt := 13) dX7_isPart_6 (by decide) (fun h6 => ?_) (fun h6 => ?_)
  · refine V_iconst (pc := 13) (v := 0) dX7_isPart_13 (by decide) ?_
    refine V_zret (pc := 14) dX7_isPart_14 rfl (by first | exact Or.inl rfl | exact Or.inr rfl | assumption) ?_
    exact ⟨congrArg (fun z => some (Value.int z)) (by simp [isPt, bI, *]), rfl⟩
  refine V_iconst (pc := 9) (v := 1) dX7_isPart_9 (by decide) ?_
  refine V_goto (pc := 10) (tgt := 14) dX7_isPart_10 (by decide) ?_
  refine V_zret (pc := 14) dX7_isPart_14 rfl (by first | exact Or.inl rfl | exact Or.inr rfl | assumption) ?_
  exact ⟨congrArg (fun z => some (Value.int z)) (by simp [isPt, bI, *]), rfl⟩
theorem dX7_isShip_0 : decode cX7_isShip 0 = .ok (.iload_n 1, 1) := by decide +kernel
theorem dX7_isShip_1 : decode cX7_isShip 1 = .ok (.ifCond .lt 18, 3) := by decide +kernel
theorem dX7_isShip_4 : decode cX7_isShip 4 = .ok (.iload_n 1, 1) := by decide +kernel
theorem dX7_isShip_5 : decode cX7_isShip 5 = .ok (.aload_n 0, 1) := by decide +kernel
theorem dX7_isShip_6 : decode cX7_isShip 6 = .ok (.getfield 26, 3) := by decide +kernel
theorem dX7_isShip_9 : decode cX7_isShip 9 = .ok (.getfield 236, 3) := by decide +kernel
theorem dX7_isShip_12 : decode cX7_isShip 12 = .ok (.if_icmp .ge 7, 3) := by decide +kernel
theorem dX7_isShip_15 : decode cX7_isShip 15 = .ok (.iconst 1, 1) := by decide +kernel
theorem dX7_isShip_16 : decode cX7_isShip 16 = .ok (.goto 4, 3) := by decide +kernel
theorem dX7_isShip_19 : decode cX7_isShip 19 = .ok (.iconst 0, 1) := by decide +kernel
theorem dX7_isShip_20 : decode cX7_isShip 20 = .ok (.ireturn, 1) := by decide +kernel
set_option maxHeartbeats 4000000 in
set_option maxRecDepth 100000 in
theorem c_X7_isShip {l : Launch} {g : GW} {a : AT} {x : Int32} (μ : Mm) (hA : RC μ a)  : Con l g yX7_isShip cX7_isShip 2 (some .boolean) 0 [.ref 0, .int x] μ (fun r μ' => r = some (.int (bI (inN x (sN (aS a))))) ∧ μ' = μ) := by
  obtain ⟨a1, a2, a3, a4, ⟨b, hb, hcur, hdrf, hB⟩, hS, hK, hD, hW⟩ := id hA
  obtain ⟨r1, r2, r3, r4, r5, r6, r7, r8, r9⟩ := id hS
  obtain ⟨w1, w2, w3, w4, w5, w6⟩ := id hW
  obtain ⟨p1, p2, p3⟩ := id a1
  obtain ⟨hb1, hb2, hb3, hb4, hb5, hb6, hrow⟩ := bkF hb
  have hship : ∀ i, i < 6 → 4 + 1 + 1 + i < 88 ∧ kt (4 + 1 + 1 + i) = 5 := (seaF (Or.inl rfl)).2.2.2.2.2.2
  have h4 : (4 : Nat) = 4 ∨ (4 : Nat) = 13 ∨ (4 : Nat) = 22 := Or.inl rfl
  refine Con.of [.ref 0, .int x] 0 (by decide +kernel) (Nat.le_of_ble_eq_true rfl) rfl ?_
  refine V_iload_n (pc := 0) dX7_isShip_0 rfl rfl ?_
  refine V_iflt (pc := 1) (tgt := 19) dX7_isShip_1 (by decide) (fun h1 => ?_) (fun h1 => ?_)
  · have e9 := inN_f1 (n := sN (aS a)) h1
    refine V_iconst (pc := 19) (v := 0) dX7_isShip_19 (by decide) ?_
    refine V_zret (pc := 20) dX7_isShip_20 rfl (by first | exact Or.inl rfl | exact Or.inr rfl | assumption) ?_
    exact ⟨by rw [e9]; rfl, rfl⟩
  refine V_iload_n (pc := 4) dX7_isShip_4 rfl rfl ?_
  refine V_aload_n (pc := 5) dX7_isShip_5 rfl rfl ?_
  refine V_getR (pc := 6) (ci := 7) (j := 2) (k2 := 4) dX7_isShip_6 fl_X7_26 (fun _ _ _ _ => rfl) (by decide) rfl (rf_7_2 rfl) ?_
  refine V_getI (pc := 9) (ci := 4) (j := 2) dX7_isShip_9 fl_X7_236 (fun _ _ _ _ => rfl) (by decide) rfl ?_
  refine V_icmpge (pc := 12) (tgt := 19) dX7_isShip_12 (by decide) (fun h12 => ?_) (fun h12 => ?_)
  · rw [r1] at h12; have e9 := inN_f2 (n := sN (aS a)) (nI_toInt (by omega)) h12
    refine V_iconst (pc := 19) (v := 0) dX7_isShip_19 (by decide) ?_
    refine V_zret (pc := 20) dX7_isShip_20 rfl (by first | exact Or.inl rfl | exact Or.inr rfl | assumption) ?_
    exact ⟨by rw [e9]; rfl, rfl⟩
  rw [r1] at h12; have e9 := inN_t (n := sN (aS a)) (nI_toInt (by omega)) h1 h12
  refine V_iconst (pc := 15) (v := 1) dX7_isShip_15 (by decide) ?_
  refine V_goto (pc := 16) (tgt := 20) dX7_isShip_16 (by decide) ?_
  refine V_zret (pc := 20) dX7_isShip_20 rfl (by first | exact Or.inl rfl | exact Or.inr rfl | assumption) ?_
  exact ⟨by rw [e9]; rfl, rfl⟩
theorem dX7_hasBook_0 : decode cX7_hasBook 0 = .ok (.aload_n 0, 1) := by decide +kernel
theorem dX7_hasBook_1 : decode cX7_hasBook 1 = .ok (.getfield 80, 3) := by decide +kernel
theorem dX7_hasBook_4 : decode cX7_hasBook 4 = .ok (.ifCond .le 7, 3) := by decide +kernel
theorem dX7_hasBook_7 : decode cX7_hasBook 7 = .ok (.iconst 1, 1) := by decide +kernel
theorem dX7_hasBook_8 : decode cX7_hasBook 8 = .ok (.goto 4, 3) := by decide +kernel
theorem dX7_hasBook_11 : decode cX7_hasBook 11 = .ok (.iconst 0, 1) := by decide +kernel
theorem dX7_hasBook_12 : decode cX7_hasBook 12 = .ok (.ireturn, 1) := by decide +kernel
set_option maxHeartbeats 4000000 in
set_option maxRecDepth 100000 in
theorem c_X7_hasBook {l : Launch} {g : GW} {a : AT}  (μ : Mm) (hA : RC μ a)  : Con l g yX7_hasBook cX7_hasBook 1 (some .boolean) 0 [.ref 0] μ (fun r μ' => r = some (.int (bI (decide (0 < aNb a)))) ∧ μ' = μ) := by
  obtain ⟨a1, a2, a3, a4, ⟨b, hb, hcur, hdrf, hB⟩, hS, hK, hD, hW⟩ := id hA
  obtain ⟨r1, r2, r3, r4, r5, r6, r7, r8, r9⟩ := id hS
  obtain ⟨w1, w2, w3, w4, w5, w6⟩ := id hW
  obtain ⟨p1, p2, p3⟩ := id a1
  obtain ⟨hb1, hb2, hb3, hb4, hb5, hb6, hrow⟩ := bkF hb
  have hship : ∀ i, i < 6 → 4 + 1 + 1 + i < 88 ∧ kt (4 + 1 + 1 + i) = 5 := (seaF (Or.inl rfl)).2.2.2.2.2.2
  refine Con.of [.ref 0] 0 (by decide +kernel) (Nat.le_of_ble_eq_true rfl) rfl ?_
  refine V_aload_n (pc := 0) dX7_hasBook_0 rfl rfl ?_
  refine V_getI (pc := 1) (ci := 7) (j := 9) dX7_hasBook_1 fl_X7_80 (fun _ _ _ _ => rfl) (by decide) rfl ?_
  refine V_ifle (pc := 4) (tgt := 11) dX7_hasBook_4 (by decide) (fun h4 => ?_) (fun h4 => ?_)
  · rw [a2] at h4; have h4 := (nI_leI (a := aNb a) (b := 0) (by omega) (by decide)).mp h4; have e9 : decide (0 < aNb a) = false := decide_eq_false (by omega)
    refine V_iconst (pc := 11) (v := 0) dX7_hasBook_11 (by decide) ?_
    refine V_zret (pc := 12) dX7_hasBook_12 rfl (by first | exact Or.inl rfl | exact Or.inr rfl | assumption) ?_
    exact ⟨by rw [e9]; rfl, rfl⟩
  rw [a2] at h4; have h4 := mt (nI_leI (a := aNb a) (b := 0) (by omega) (by decide)).mpr h4; have e9 : decide (0 < aNb a) = true := decide_eq_true (by omega)
  refine V_iconst (pc := 7) (v := 1) dX7_hasBook_7 (by decide) ?_
  refine V_goto (pc := 8) (tgt := 12) dX7_hasBook_8 (by decide) ?_
  refine V_zret (pc := 12) dX7_hasBook_12 rfl (by first | exact Or.inl rfl | exact Or.inr rfl | assumption) ?_
  exact ⟨by rw [e9]; rfl, rfl⟩
theorem dX7_tenths_0 : decode cX7_tenths 0 = .ok (.iload_n 1, 1) := by decide +kernel
theorem dX7_tenths_1 : decode cX7_tenths 1 = .ok (.invokestatic 96, 3) := by decide +kernel
theorem dX7_tenths_4 : decode cX7_tenths 4 = .ok (.ifCond .eq 10, 3) := by decide +kernel
theorem dX7_tenths_7 : decode cX7_tenths 7 = .ok (.iload_n 2, 1) := by decide +kernel
theorem dX7_tenths_8 : decode cX7_tenths 8 = .ok (.invokestatic 100, 3) := by decide +kernel
theorem dX7_tenths_11 : decode cX7_tenths 11 = .ok (.ifCond .ne 6, 3) := by decide +kernel
theorem dX7_tenths_14 : decode cX7_tenths 14 = .ok (.bipush (-101), 2) := by decide +kernel
theorem dX7_tenths_16 : decode cX7_tenths 16 = .ok (.ireturn, 1) := by decide +kernel
theorem dX7_tenths_17 : decode cX7_tenths 17 = .ok (.aload_n 0, 1) := by decide +kernel
theorem dX7_tenths_18 : decode cX7_tenths 18 = .ok (.invokevirtual 103, 3) := by decide +kernel
theorem dX7_tenths_21 : decode cX7_tenths 21 = .ok (.ifCond .eq 17, 3) := by decide +kernel
theorem dX7_tenths_24 : decode cX7_tenths 24 = .ok (.aload_n 0, 1) := by decide +kernel
theorem dX7_tenths_25 : decode cX7_tenths 25 = .ok (.getfield 53, 3) := by decide +kernel
theorem dX7_tenths_28 : decode cX7_tenths 28 = .ok (.getfield 106, 3) := by decide +kernel
theorem dX7_tenths_31 : decode cX7_tenths 31 = .ok (.iload_n 1, 1) := by decide +kernel
theorem dX7_tenths_32 : decode cX7_tenths 32 = .ok (.aaload, 1) := by decide +kernel
theorem dX7_tenths_33 : decode cX7_tenths 33 = .ok (.iload_n 2, 1) := by decide +kernel
theorem dX7_tenths_34 : decode cX7_tenths 34 = .ok (.iaload, 1) := by decide +kernel
theorem dX7_tenths_35 : decode cX7_tenths 35 = .ok (.goto 5, 3) := by decide +kernel
theorem dX7_tenths_38 : decode cX7_tenths 38 = .ok (.bipush (-103), 2) := by decide +kernel
theorem dX7_tenths_40 : decode cX7_tenths 40 = .ok (.ireturn, 1) := by decide +kernel
set_option maxHeartbeats 4000000 in
set_option maxRecDepth 100000 in
theorem c_X7_tenths {l : Launch} {g : GW} {a : AT} {x y : Int32} (μ : Mm) (hA : RC μ a)  : Con l g yX7_tenths cX7_tenths 3 (some .int) 1 [.ref 0, .int x, .int y] μ (fun r μ' => r = some (.int (fTenths a x y)) ∧ μ' = μ) := by
  obtain ⟨a1, a2, a3, a4, ⟨b, hb, hcur, hdrf, hB⟩, hS, hK, hD, hW⟩ := id hA
  obtain ⟨r1, r2, r3, r4, r5, r6, r7, r8, r9⟩ := id hS
  obtain ⟨w1, w2, w3, w4, w5, w6⟩ := id hW
  obtain ⟨p1, p2, p3⟩ := id a1
  obtain ⟨hb1, hb2, hb3, hb4, hb5, hb6, hrow⟩ := bkF hb
  have hship : ∀ i, i < 6 → 4 + 1 + 1 + i < 88 ∧ kt (4 + 1 + 1 + i) = 5 := (seaF (Or.inl rfl)).2.2.2.2.2.2
  have hs4 : (4 : Nat) = 4 ∨ (4 : Nat) = 13 ∨ (4 : Nat) = 22 := Or.inl rfl
  refine Con.of [.ref 0, .int x, .int y] 0 (by decide +kernel) (Nat.le_of_ble_eq_true rfl) rfl ?_
  refine V_iload_n (pc := 0) dX7_tenths_0 rfl rfl ?_
  refine V_ins1 (pc := 1) dX7_tenths_1 ml_X7_96 (by first | decide | omega) (Nat.le_of_ble_eq_true rfl) (c_X7_isWindOrCalm μ) ?_
  rintro _ μ2 ⟨rfl, hμ⟩
  obtain rfl := hμ.symm
  refine V_ifeq (pc := 4) (tgt := 14) dX7_tenths_4 (by decide) (fun h4 => ?_) (fun h4 => ?_)
  · have h4 := bI_e h4
    refine V_bipush (pc := 14) (v := (-101)) dX7_tenths_14 (by decide) ?_
    refine V_iret (pc := 16) dX7_tenths_16 rfl ?_
    refine ⟨congrArg (fun z => some (Value.int z)) ?_, rfl⟩
    first
    | (simp [fTenths, h4]; done)
    | (simp [fTenths, h4, h11]; done)
  have h4 := bI_ne h4
  refine V_iload_n (pc := 7) dX7_tenths_7 rfl rfl ?_
  refine V_ins1 (pc := 8) dX7_tenths_8 ml_X7_100 (by first | decide | omega) (Nat.le_of_ble_eq_true rfl) (c_X7_isSign μ) ?_
  rintro _ μ2 ⟨rfl, hμ⟩
  obtain rfl := hμ.symm
  refine V_ifne (pc := 11) (tgt := 17) dX7_tenths_11 (by decide) (fun h11 => ?_) (fun h11 => ?_)
  · have h11 := bI_ne h11; rw [inR_N (n := 3) (by decide)] at h11
    obtain ⟨i, hi, rfl⟩ := inN_of (by decide) h4
    obtain ⟨j, hj, rfl⟩ := inN_of (by decide) h11
    refine V_aload_n (pc := 17) dX7_tenths_17 rfl rfl ?_
    refine V_inv0 (pc := 18) (ci := 7) dX7_tenths_18 ml_X7_103 (by decide) rfl ⟨by decide, rfl⟩ (by decide) (Nat.le_of_ble_eq_true rfl) (c_X7_hasBook μ hA) ?_
    rintro _ μ2 ⟨rfl, hμ⟩
    obtain rfl := hμ.symm
    refine V_ifeq (pc := 21) (tgt := 38) dX7_tenths_21 (by decide) (fun h21 => ?_) (fun h21 => ?_)
    · have h21 := of_decide_eq_false (bI_e h21)
      refine V_bipush (pc := 38) (v := (-103)) dX7_tenths_38 (by decide) ?_
      refine V_iret (pc := 40) dX7_tenths_40 rfl ?_
      refine ⟨congrArg (fun z => some (Value.int z)) ?_, rfl⟩
      first
      | (simp only [fTenths, h4, h11, nn_nI (j := i) (by omega), nn_nI (j := j) (by omega), Bool.and_self, if_true]; rw [if_pos h21]; exact hB.1 i j hi hj; done)
      | (simp only [fTenths, h4, h11, Bool.and_self, if_true]; rw [if_neg h21]; done)
    have h21 := of_decide_eq_true (bI_ne h21)
    refine V_aload_n (pc := 24) dX7_tenths_24 rfl rfl ?_
    refine V_getR (pc := 25) (ci := 7) (j := 7) (k2 := b) dX7_tenths_25 fl_X7_53 (fun _ _ _ _ => rfl) (by decide) rfl ((rf_7_7 rfl).trans hcur) ?_
    refine V_getR (pc := 28) (ci := 0) (j := 0) (k2 := (b + 1)) dX7_tenths_28 fl_X7_106 (fun _ _ _ _ => rfl) (by first | decide | omega) (by first | rfl | assumption | exact (hship _ (by omega)).2 | exact (hrow _ (by omega)).2.1 | decide) (rf_0_0 (by first | rfl | assumption | exact (hship _ (by omega)).2 | exact (hrow _ (by omega)).2.1 | decide)) ?_
    refine V_iload_n (pc := 31) dX7_tenths_31 rfl rfl ?_
    refine V_aald15 (pc := 32) (j := i) dX7_tenths_32 (by first | decide | omega) (by first | rfl | assumption | exact (hship _ (by omega)).2 | exact (hrow _ (by omega)).2.1 | decide) rfl (by omega) ?_
    refine V_iload_n (pc := 33) dX7_tenths_33 rfl rfl ?_
    refine V_iald (pc := 34) (j := j) dX7_tenths_34 (by first | decide | omega) (by first | rfl | assumption | exact (hship _ (by omega)).2 | exact (hrow _ (by omega)).2.1 | decide) rfl (by have := (hrow i (by omega)).2.2; omega) ?_
    refine V_goto (pc := 35) (tgt := 40) dX7_tenths_35 (by decide) ?_
    refine V_iret (pc := 40) dX7_tenths_40 rfl ?_
    refine ⟨congrArg (fun z => some (Value.int z)) ?_, rfl⟩
    first
    | (simp only [fTenths, h4, h11, nn_nI (j := i) (by omega), nn_nI (j := j) (by omega), Bool.and_self, if_true]; rw [if_pos h21]; exact hB.1 i j hi hj; done)
    | (simp only [fTenths, h4, h11, Bool.and_self, if_true]; rw [if_neg h21]; done)
  have h11 := bI_e h11; rw [inR_N (n := 3) (by decide)] at h11
  refine V_bipush (pc := 14) (v := (-101)) dX7_tenths_14 (by decide) ?_
  refine V_iret (pc := 16) dX7_tenths_16 rfl ?_
  refine ⟨congrArg (fun z => some (Value.int z)) ?_, rfl⟩
  first
  | (simp [fTenths, h4]; done)
  | (simp [fTenths, h4, h11]; done)
theorem dX7_windOf_0 : decode cX7_windOf 0 = .ok (.iload_n 1, 1) := by decide +kernel
theorem dX7_windOf_1 : decode cX7_windOf 1 = .ok (.invokestatic 110, 3) := by decide +kernel
theorem dX7_windOf_4 : decode cX7_windOf 4 = .ok (.ifCond .ne 6, 3) := by decide +kernel
theorem dX7_windOf_7 : decode cX7_windOf 7 = .ok (.bipush (-101), 2) := by decide +kernel
theorem dX7_windOf_9 : decode cX7_windOf 9 = .ok (.ireturn, 1) := by decide +kernel
theorem dX7_windOf_10 : decode cX7_windOf 10 = .ok (.aload_n 0, 1) := by decide +kernel
theorem dX7_windOf_11 : decode cX7_windOf 11 = .ok (.invokevirtual 103, 3) := by decide +kernel
theorem dX7_windOf_14 : decode cX7_windOf 14 = .ok (.ifCond .eq 15, 3) := by decide +kernel
theorem dX7_windOf_17 : decode cX7_windOf 17 = .ok (.aload_n 0, 1) := by decide +kernel
theorem dX7_windOf_18 : decode cX7_windOf 18 = .ok (.getfield 53, 3) := by decide +kernel
theorem dX7_windOf_21 : decode cX7_windOf 21 = .ok (.getfield 113, 3) := by decide +kernel
theorem dX7_windOf_24 : decode cX7_windOf 24 = .ok (.iload_n 1, 1) := by decide +kernel
theorem dX7_windOf_25 : decode cX7_windOf 25 = .ok (.iaload, 1) := by decide +kernel
theorem dX7_windOf_26 : decode cX7_windOf 26 = .ok (.goto 5, 3) := by decide +kernel
theorem dX7_windOf_29 : decode cX7_windOf 29 = .ok (.bipush (-103), 2) := by decide +kernel
theorem dX7_windOf_31 : decode cX7_windOf 31 = .ok (.ireturn, 1) := by decide +kernel
set_option maxHeartbeats 4000000 in
set_option maxRecDepth 100000 in
theorem c_X7_windOf {l : Launch} {g : GW} {a : AT} {x : Int32} (μ : Mm) (hA : RC μ a)  : Con l g yX7_windOf cX7_windOf 2 (some .int) 1 [.ref 0, .int x] μ (fun r μ' => r = some (.int (fWindOf a x)) ∧ μ' = μ) := by
  obtain ⟨a1, a2, a3, a4, ⟨b, hb, hcur, hdrf, hB⟩, hS, hK, hD, hW⟩ := id hA
  obtain ⟨r1, r2, r3, r4, r5, r6, r7, r8, r9⟩ := id hS
  obtain ⟨w1, w2, w3, w4, w5, w6⟩ := id hW
  obtain ⟨p1, p2, p3⟩ := id a1
  obtain ⟨hb1, hb2, hb3, hb4, hb5, hb6, hrow⟩ := bkF hb
  have hship : ∀ i, i < 6 → 4 + 1 + 1 + i < 88 ∧ kt (4 + 1 + 1 + i) = 5 := (seaF (Or.inl rfl)).2.2.2.2.2.2
  have hs4 : (4 : Nat) = 4 ∨ (4 : Nat) = 13 ∨ (4 : Nat) = 22 := Or.inl rfl
  refine Con.of [.ref 0, .int x] 0 (by decide +kernel) (Nat.le_of_ble_eq_true rfl) rfl ?_
  refine V_iload_n (pc := 0) dX7_windOf_0 rfl rfl ?_
  refine V_ins1 (pc := 1) dX7_windOf_1 ml_X7_110 (by first | decide | omega) (Nat.le_of_ble_eq_true rfl) (c_X7_isName μ) ?_
  rintro _ μ2 ⟨rfl, hμ⟩
  obtain rfl := hμ.symm
  refine V_ifne (pc := 4) (tgt := 10) dX7_windOf_4 (by decide) (fun h4 => ?_) (fun h4 => ?_)
  · have h4 := bI_ne h4; rw [inR_N (n := 6) (by decide)] at h4; obtain ⟨i, hi, rfl⟩ := inN_of (by decide) h4
    refine V_aload_n (pc := 10) dX7_windOf_10 rfl rfl ?_
    refine V_inv0 (pc := 11) (ci := 7) dX7_windOf_11 ml_X7_103 (by decide) rfl ⟨by decide, rfl⟩ (by decide) (Nat.le_of_ble_eq_true rfl) (c_X7_hasBook μ hA) ?_
    rintro _ μ2 ⟨rfl, hμ⟩
    obtain rfl := hμ.symm
    refine V_ifeq (pc := 14) (tgt := 29) dX7_windOf_14 (by decide) (fun h14 => ?_) (fun h14 => ?_)
    · have h14 := of_decide_eq_false (bI_e h14)
      refine V_bipush (pc := 29) (v := (-103)) dX7_windOf_29 (by decide) ?_
      refine V_iret (pc := 31) dX7_windOf_31 rfl ?_
      refine ⟨congrArg (fun z => some (Value.int z)) ?_, rfl⟩
      first
      | (simp only [fWindOf, h4, nn_nI (j := i) (by omega), if_true]; rw [if_pos h14]; exact hB.2.1 i hi; done)
      | (simp only [fWindOf, h4, if_true]; rw [if_neg h14]; done)
    have h14 := of_decide_eq_true (bI_ne h14)
    refine V_aload_n (pc := 17) dX7_windOf_17 rfl rfl ?_
    refine V_getR (pc := 18) (ci := 7) (j := 7) (k2 := b) dX7_windOf_18 fl_X7_53 (fun _ _ _ _ => rfl) (by decide) rfl ((rf_7_7 rfl).trans hcur) ?_
    refine V_getR (pc := 21) (ci := 0) (j := 1) (k2 := (b + 7)) dX7_windOf_21 fl_X7_113 (fun _ _ _ _ => rfl) (by first | decide | omega) (by first | rfl | assumption | exact (hship _ (by omega)).2 | exact (hrow _ (by omega)).2.1 | decide) (rf_0_1 (by first | rfl | assumption | exact (hship _ (by omega)).2 | exact (hrow _ (by omega)).2.1 | decide)) ?_
    refine V_iload_n (pc := 24) dX7_windOf_24 rfl rfl ?_
    refine V_iald (pc := 25) (j := i) dX7_windOf_25 (by first | decide | omega) (by first | rfl | assumption | exact (hship _ (by omega)).2 | exact (hrow _ (by omega)).2.1 | decide) rfl (by omega) ?_
    refine V_goto (pc := 26) (tgt := 31) dX7_windOf_26 (by decide) ?_
    refine V_iret (pc := 31) dX7_windOf_31 rfl ?_
    refine ⟨congrArg (fun z => some (Value.int z)) ?_, rfl⟩
    first
    | (simp only [fWindOf, h4, nn_nI (j := i) (by omega), if_true]; rw [if_pos h14]; exact hB.2.1 i hi; done)
    | (simp only [fWindOf, h4, if_true]; rw [if_neg h14]; done)
  have h4 := bI_e h4; rw [inR_N (n := 6) (by decide)] at h4
  refine V_bipush (pc := 7) (v := (-101)) dX7_windOf_7 (by decide) ?_
  refine V_iret (pc := 9) dX7_windOf_9 rfl ?_
  exact ⟨congrArg (fun z => some (Value.int z)) (by simp [fWindOf, h4]), rfl⟩
theorem dX7_about_0 : decode cX7_about 0 = .ok (.aload_n 0, 1) := by decide +kernel
theorem dX7_about_1 : decode cX7_about 1 = .ok (.iload_n 1, 1) := by decide +kernel
theorem dX7_about_2 : decode cX7_about 2 = .ok (.invokevirtual 126, 3) := by decide +kernel
theorem dX7_about_5 : decode cX7_about 5 = .ok (.ifCond .ne 6, 3) := by decide +kernel
theorem dX7_about_8 : decode cX7_about 8 = .ok (.bipush (-101), 2) := by decide +kernel
theorem dX7_about_10 : decode cX7_about 10 = .ok (.ireturn, 1) := by decide +kernel
theorem dX7_about_11 : decode cX7_about 11 = .ok (.iload_n 2, 1) := by decide +kernel
theorem dX7_about_12 : decode cX7_about 12 = .ok (.ifCond .lt 24, 3) := by decide +kernel
theorem dX7_about_15 : decode cX7_about 15 = .ok (.iload_n 2, 1) := by decide +kernel
theorem dX7_about_16 : decode cX7_about 16 = .ok (.iconst 5, 1) := by decide +kernel
theorem dX7_about_17 : decode cX7_about 17 = .ok (.if_icmp .ge 19, 3) := by decide +kernel
theorem dX7_about_20 : decode cX7_about 20 = .ok (.aload_n 0, 1) := by decide +kernel
theorem dX7_about_21 : decode cX7_about 21 = .ok (.getfield 26, 3) := by decide +kernel
theorem dX7_about_24 : decode cX7_about 24 = .ok (.getfield 129, 3) := by decide +kernel
theorem dX7_about_27 : decode cX7_about 27 = .ok (.iload_n 1, 1) := by decide +kernel
theorem dX7_about_28 : decode cX7_about 28 = .ok (.aaload, 1) := by decide +kernel
theorem dX7_about_29 : decode cX7_about 29 = .ok (.iload_n 2, 1) := by decide +kernel
theorem dX7_about_30 : decode cX7_about 30 = .ok (.invokevirtual 133, 3) := by decide +kernel
theorem dX7_about_33 : decode cX7_about 33 = .ok (.goto 5, 3) := by decide +kernel
theorem dX7_about_36 : decode cX7_about 36 = .ok (.bipush (-102), 2) := by decide +kernel
theorem dX7_about_38 : decode cX7_about 38 = .ok (.ireturn, 1) := by decide +kernel
set_option maxHeartbeats 4000000 in
set_option maxRecDepth 100000 in
theorem c_X7_about {l : Launch} {g : GW} {a : AT} {x y : Int32} (μ : Mm) (hA : RC μ a)  : Con l g yX7_about cX7_about 3 (some .int) 1 [.ref 0, .int x, .int y] μ (fun r μ' => r = some (.int (fAbout a x y)) ∧ μ' = μ) := by
  obtain ⟨a1, a2, a3, a4, ⟨b, hb, hcur, hdrf, hB⟩, hS, hK, hD, hW⟩ := id hA
  obtain ⟨r1, r2, r3, r4, r5, r6, r7, r8, r9⟩ := id hS
  obtain ⟨w1, w2, w3, w4, w5, w6⟩ := id hW
  obtain ⟨p1, p2, p3⟩ := id a1
  obtain ⟨hb1, hb2, hb3, hb4, hb5, hb6, hrow⟩ := bkF hb
  have hship : ∀ i, i < 6 → 4 + 1 + 1 + i < 88 ∧ kt (4 + 1 + 1 + i) = 5 := (seaF (Or.inl rfl)).2.2.2.2.2.2
  have h4 : (4 : Nat) = 4 ∨ (4 : Nat) = 13 ∨ (4 : Nat) = 22 := Or.inl rfl
  refine Con.of [.ref 0, .int x, .int y] 0 (by decide +kernel) (Nat.le_of_ble_eq_true rfl) rfl ?_
  refine V_aload_n (pc := 0) dX7_about_0 rfl rfl ?_
  refine V_iload_n (pc := 1) dX7_about_1 rfl rfl ?_
  refine V_inv1 (pc := 2) (ci := 7) dX7_about_2 ml_X7_126 (by decide) rfl ⟨by decide, rfl⟩ (by decide) (Nat.le_of_ble_eq_true rfl) (c_X7_isShip μ hA) ?_
  rintro _ μ2 ⟨rfl, hμ⟩
  obtain rfl := hμ.symm
  refine V_ifne (pc := 5) (tgt := 11) dX7_about_5 (by decide) (fun h5 => ?_) (fun h5 => ?_)
  · have h5 := bI_ne h5; obtain ⟨i, hi, rfl⟩ := inN_of (by omega) h5
    refine V_iload_n (pc := 11) dX7_about_11 rfl rfl ?_
    refine V_iflt (pc := 12) (tgt := 36) dX7_about_12 (by decide) (fun h12 => ?_) (fun h12 => ?_)
    · have e9 := inN_f1 (n := 5) h12
      refine V_bipush (pc := 36) (v := (-102)) dX7_about_36 (by decide) ?_
      refine V_iret (pc := 38) dX7_about_38 rfl ?_
      refine ⟨congrArg (fun z => some (Value.int z)) ?_, rfl⟩
      first
      | (simp only [fAbout, h5, e9, nn_nI (j := i) (by omega), nn_nI (j := j) (by omega), if_true]; exact tel_eq (r8 i (by omega)) (by omega); done)
      | (simp [fAbout, h5, e9]; done)
    refine V_iload_n (pc := 15) dX7_about_15 rfl rfl ?_
    refine V_iconst (pc := 16) (v := 5) dX7_about_16 (by decide) ?_
    refine V_icmpge (pc := 17) (tgt := 36) dX7_about_17 (by decide) (fun h17 => ?_) (fun h17 => ?_)
    · have e9 := inN_f2 (n := 5) (M := 5) (by decide) h17
      refine V_bipush (pc := 36) (v := (-102)) dX7_about_36 (by decide) ?_
      refine V_iret (pc := 38) dX7_about_38 rfl ?_
      refine ⟨congrArg (fun z => some (Value.int z)) ?_, rfl⟩
      first
      | (simp only [fAbout, h5, e9, nn_nI (j := i) (by omega), nn_nI (j := j) (by omega), if_true]; exact tel_eq (r8 i (by omega)) (by omega); done)
      | (simp [fAbout, h5, e9]; done)
    have e9 := inN_t (n := 5) (M := 5) (by decide) h12 h17; obtain ⟨j, hj, rfl⟩ := inN_of (by decide) e9
    refine V_aload_n (pc := 20) dX7_about_20 rfl rfl ?_
    refine V_getR (pc := 21) (ci := 7) (j := 2) (k2 := 4) dX7_about_21 fl_X7_26 (fun _ _ _ _ => rfl) (by decide) rfl (rf_7_2 rfl) ?_
    refine V_getR (pc := 24) (ci := 4) (j := 0) (k2 := 5) dX7_about_24 fl_X7_129 (fun _ _ _ _ => rfl) (by decide) rfl (rf_4_0 rfl) ?_
    refine V_iload_n (pc := 27) dX7_about_27 rfl rfl ?_
    refine V_aald14 (pc := 28) (j := i) dX7_about_28 (by decide) rfl rfl (by show i < 6; omega) ?_
    refine V_iload_n (pc := 29) dX7_about_29 rfl rfl ?_
    refine V_inv1 (pc := 30) (ci := 5) dX7_about_30 ml_X7_133 (by first | decide | omega) (by first | rfl | assumption | exact (hship _ (by omega)).2 | exact (hrow _ (by omega)).2.1 | decide) ⟨by decide, rfl⟩ (by decide) (Nat.le_of_ble_eq_true rfl) (c_X5_tell μ (hship i (by omega)).1 (hship i (by omega)).2 (show j ≤ 4 by omega)) ?_
    rintro _ μ2 ⟨rfl, hμ⟩
    obtain rfl := hμ.symm
    refine V_goto (pc := 33) (tgt := 38) dX7_about_33 (by decide) ?_
    refine V_iret (pc := 38) dX7_about_38 rfl ?_
    refine ⟨congrArg (fun z => some (Value.int z)) ?_, rfl⟩
    first
    | (simp only [fAbout, h5, e9, nn_nI (j := i) (by omega), nn_nI (j := j) (by omega), if_true]; exact tel_eq (r8 i (by omega)) (by omega); done)
    | (simp [fAbout, h5, e9]; done)
  have h5 := bI_e h5
  refine V_bipush (pc := 8) (v := (-101)) dX7_about_8 (by decide) ?_
  refine V_iret (pc := 10) dX7_about_10 rfl ?_
  exact ⟨congrArg (fun z => some (Value.int z)) (by simp [fAbout, h5]), rfl⟩
theorem dX7_as_0 : decode cX7_as 0 = .ok (.aload_n 0, 1) := by decide +kernel
theorem dX7_as_1 : decode cX7_as 1 = .ok (.iload_n 1, 1) := by decide +kernel
theorem dX7_as_2 : decode cX7_as 2 = .ok (.invokevirtual 126, 3) := by decide +kernel
theorem dX7_as_5 : decode cX7_as 5 = .ok (.ifCond .ne 6, 3) := by decide +kernel
theorem dX7_as_8 : decode cX7_as 8 = .ok (.bipush (-101), 2) := by decide +kernel
theorem dX7_as_10 : decode cX7_as 10 = .ok (.ireturn, 1) := by decide +kernel
theorem dX7_as_11 : decode cX7_as 11 = .ok (.iload_n 2, 1) := by decide +kernel
theorem dX7_as_12 : decode cX7_as 12 = .ok (.invokestatic 120, 3) := by decide +kernel
theorem dX7_as_15 : decode cX7_as 15 = .ok (.ifCond .ne 6, 3) := by decide +kernel
theorem dX7_as_18 : decode cX7_as 18 = .ok (.bipush (-102), 2) := by decide +kernel
theorem dX7_as_20 : decode cX7_as 20 = .ok (.ireturn, 1) := by decide +kernel
theorem dX7_as_21 : decode cX7_as 21 = .ok (.aload_n 0, 1) := by decide +kernel
theorem dX7_as_22 : decode cX7_as 22 = .ok (.getfield 26, 3) := by decide +kernel
theorem dX7_as_25 : decode cX7_as 25 = .ok (.getfield 129, 3) := by decide +kernel
theorem dX7_as_28 : decode cX7_as 28 = .ok (.iload_n 1, 1) := by decide +kernel
theorem dX7_as_29 : decode cX7_as 29 = .ok (.aaload, 1) := by decide +kernel
theorem dX7_as_30 : decode cX7_as 30 = .ok (.iload_n 2, 1) := by decide +kernel
theorem dX7_as_31 : decode cX7_as 31 = .ok (.invokevirtual 139, 3) := by decide +kernel
theorem dX7_as_34 : decode cX7_as 34 = .ok (.ifCond .eq 7, 3) := by decide +kernel
theorem dX7_as_37 : decode cX7_as 37 = .ok (.iload_n 1, 1) := by decide +kernel
theorem dX7_as_38 : decode cX7_as 38 = .ok (.goto 4, 3) := by decide +kernel
theorem dX7_as_41 : decode cX7_as 41 = .ok (.iconst (-1), 1) := by decide +kernel
theorem dX7_as_42 : decode cX7_as 42 = .ok (.ireturn, 1) := by decide +kernel
set_option maxHeartbeats 4000000 in
set_option maxRecDepth 100000 in
theorem c_X7_as {l : Launch} {g : GW} {a : AT} {x y : Int32} (μ : Mm) (hA : RC μ a)  : Con l g yX7_as cX7_as 3 (some .int) 1 [.ref 0, .int x, .int y] μ (fun r μ' => r = some (.int (fAs a x y)) ∧ μ' = μ) := by
  obtain ⟨a1, a2, a3, a4, ⟨b, hb, hcur, hdrf, hB⟩, hS, hK, hD, hW⟩ := id hA
  obtain ⟨r1, r2, r3, r4, r5, r6, r7, r8, r9⟩ := id hS
  obtain ⟨w1, w2, w3, w4, w5, w6⟩ := id hW
  obtain ⟨p1, p2, p3⟩ := id a1
  obtain ⟨hb1, hb2, hb3, hb4, hb5, hb6, hrow⟩ := bkF hb
  have hship : ∀ i, i < 6 → 4 + 1 + 1 + i < 88 ∧ kt (4 + 1 + 1 + i) = 5 := (seaF (Or.inl rfl)).2.2.2.2.2.2
  have h4 : (4 : Nat) = 4 ∨ (4 : Nat) = 13 ∨ (4 : Nat) = 22 := Or.inl rfl
  refine Con.of [.ref 0, .int x, .int y] 0 (by decide +kernel) (Nat.le_of_ble_eq_true rfl) rfl ?_
  refine V_aload_n (pc := 0) dX7_as_0 rfl rfl ?_
  refine V_iload_n (pc := 1) dX7_as_1 rfl rfl ?_
  refine V_inv1 (pc := 2) (ci := 7) dX7_as_2 ml_X7_126 (by decide) rfl ⟨by decide, rfl⟩ (by decide) (Nat.le_of_ble_eq_true rfl) (c_X7_isShip μ hA) ?_
  rintro _ μ2 ⟨rfl, hμ⟩
  obtain rfl := hμ.symm
  refine V_ifne (pc := 5) (tgt := 11) dX7_as_5 (by decide) (fun h5 => ?_) (fun h5 => ?_)
  · have h5 := bI_ne h5; obtain ⟨i, hi, rfl⟩ := inN_of (by omega) h5
    refine V_iload_n (pc := 11) dX7_as_11 rfl rfl ?_
    refine V_ins1 (pc := 12) dX7_as_12 ml_X7_120 (by first | decide | omega) (Nat.le_of_ble_eq_true rfl) (c_X7_isKind μ) ?_
    rintro _ μ2 ⟨rfl, hμ⟩
    obtain rfl := hμ.symm
    refine V_ifne (pc := 15) (tgt := 21) dX7_as_15 (by decide) (fun h15 => ?_) (fun h15 => ?_)
    · have h15 := bI_ne h15; rw [inR_N (n := 5) (by decide)] at h15; obtain ⟨j, hj, rfl⟩ := inN_of (by decide) h15
      refine V_aload_n (pc := 21) dX7_as_21 rfl rfl ?_
      refine V_getR (pc := 22) (ci := 7) (j := 2) (k2 := 4) dX7_as_22 fl_X7_26 (fun _ _ _ _ => rfl) (by decide) rfl (rf_7_2 rfl) ?_
      refine V_getR (pc := 25) (ci := 4) (j := 0) (k2 := 5) dX7_as_25 fl_X7_129 (fun _ _ _ _ => rfl) (by decide) rfl (rf_4_0 rfl) ?_
      refine V_iload_n (pc := 28) dX7_as_28 rfl rfl ?_
      refine V_aald14 (pc := 29) (j := i) dX7_as_29 (by decide) rfl rfl (by show i < 6; omega) ?_
      refine V_iload_n (pc := 30) dX7_as_30 rfl rfl ?_
      refine V_inv1 (pc := 31) (ci := 5) dX7_as_31 ml_X7_139 (by first | decide | omega) (by first | rfl | assumption | exact (hship _ (by omega)).2 | exact (hrow _ (by omega)).2.1 | decide) ⟨by decide, rfl⟩ (by decide) (Nat.le_of_ble_eq_true rfl) (c_X5_isA μ (hship i (by omega)).1 (hship i (by omega)).2 (r8 i (by omega)) (show j ≤ 4 by omega)) ?_
      rintro _ μ2 ⟨rfl, hμ⟩
      obtain rfl := hμ.symm
      refine V_ifeq (pc := 34) (tgt := 41) dX7_as_34 (by decide) (fun h34 => ?_) (fun h34 => ?_)
      · have h34 := bI_e h34
        refine V_iconst (pc := 41) (v := (-1)) dX7_as_41 (by decide) ?_
        refine V_iret (pc := 42) dX7_as_42 rfl ?_
        exact ⟨congrArg (fun z => some (Value.int z)) (by simp [fAs, h5, h15, nn_nI (j := i) (by omega), nn_nI (j := j) (by omega), isA, h34]), rfl⟩
      have h34 := bI_ne h34
      refine V_iload_n (pc := 37) dX7_as_37 rfl rfl ?_
      refine V_goto (pc := 38) (tgt := 42) dX7_as_38 (by decide) ?_
      refine V_iret (pc := 42) dX7_as_42 rfl ?_
      exact ⟨congrArg (fun z => some (Value.int z)) (by simp [fAs, h5, h15, nn_nI (j := i) (by omega), nn_nI (j := j) (by omega), isA, h34]), rfl⟩
    have h15 := bI_e h15; rw [inR_N (n := 5) (by decide)] at h15
    refine V_bipush (pc := 18) (v := (-102)) dX7_as_18 (by decide) ?_
    refine V_iret (pc := 20) dX7_as_20 rfl ?_
    exact ⟨congrArg (fun z => some (Value.int z)) (by simp [fAs, h5, h15]), rfl⟩
  have h5 := bI_e h5
  refine V_bipush (pc := 8) (v := (-101)) dX7_as_8 (by decide) ?_
  refine V_iret (pc := 10) dX7_as_10 rfl ?_
  exact ⟨congrArg (fun z => some (Value.int z)) (by simp [fAs, h5]), rfl⟩
theorem dX7_spent_0 : decode cX7_spent 0 = .ok (.iload_n 1, 1) := by decide +kernel
theorem dX7_spent_1 : decode cX7_spent 1 = .ok (.invokestatic 110, 3) := by decide +kernel
theorem dX7_spent_4 : decode cX7_spent 4 = .ok (.ifCond .ne 6, 3) := by decide +kernel
theorem dX7_spent_7 : decode cX7_spent 7 = .ok (.bipush (-101), 2) := by decide +kernel
theorem dX7_spent_9 : decode cX7_spent 9 = .ok (.ireturn, 1) := by decide +kernel
theorem dX7_spent_10 : decode cX7_spent 10 = .ok (.aload_n 0, 1) := by decide +kernel
theorem dX7_spent_11 : decode cX7_spent 11 = .ok (.getfield 26, 3) := by decide +kernel
theorem dX7_spent_14 : decode cX7_spent 14 = .ok (.iload_n 1, 1) := by decide +kernel
theorem dX7_spent_15 : decode cX7_spent 15 = .ok (.invokevirtual 145, 3) := by decide +kernel
theorem dX7_spent_18 : decode cX7_spent 18 = .ok (.ifCond .eq 7, 3) := by decide +kernel
theorem dX7_spent_21 : decode cX7_spent 21 = .ok (.iconst 1, 1) := by decide +kernel
theorem dX7_spent_22 : decode cX7_spent 22 = .ok (.goto 4, 3) := by decide +kernel
theorem dX7_spent_25 : decode cX7_spent 25 = .ok (.iconst 0, 1) := by decide +kernel
theorem dX7_spent_26 : decode cX7_spent 26 = .ok (.ireturn, 1) := by decide +kernel
set_option maxHeartbeats 4000000 in
set_option maxRecDepth 100000 in
theorem c_X7_spent {l : Launch} {g : GW} {a : AT} {x : Int32} (μ : Mm) (hA : RC μ a)  : Con l g yX7_spent cX7_spent 2 (some .int) 1 [.ref 0, .int x] μ (fun r μ' => r = some (.int (fSpent a x)) ∧ μ' = μ) := by
  obtain ⟨a1, a2, a3, a4, ⟨b, hb, hcur, hdrf, hB⟩, hS, hK, hD, hW⟩ := id hA
  obtain ⟨r1, r2, r3, r4, r5, r6, r7, r8, r9⟩ := id hS
  obtain ⟨w1, w2, w3, w4, w5, w6⟩ := id hW
  obtain ⟨p1, p2, p3⟩ := id a1
  obtain ⟨hb1, hb2, hb3, hb4, hb5, hb6, hrow⟩ := bkF hb
  have hship : ∀ i, i < 6 → 4 + 1 + 1 + i < 88 ∧ kt (4 + 1 + 1 + i) = 5 := (seaF (Or.inl rfl)).2.2.2.2.2.2
  have hs4 : (4 : Nat) = 4 ∨ (4 : Nat) = 13 ∨ (4 : Nat) = 22 := Or.inl rfl
  refine Con.of [.ref 0, .int x] 0 (by decide +kernel) (Nat.le_of_ble_eq_true rfl) rfl ?_
  refine V_iload_n (pc := 0) dX7_spent_0 rfl rfl ?_
  refine V_ins1 (pc := 1) dX7_spent_1 ml_X7_110 (by first | decide | omega) (Nat.le_of_ble_eq_true rfl) (c_X7_isName μ) ?_
  rintro _ μ2 ⟨rfl, hμ⟩
  obtain rfl := hμ.symm
  refine V_ifne (pc := 4) (tgt := 10) dX7_spent_4 (by decide) (fun h4 => ?_) (fun h4 => ?_)
  · have h4 := bI_ne h4; rw [inR_N (n := 6) (by decide)] at h4; obtain ⟨i, hi, rfl⟩ := inN_of (by decide) h4
    refine V_aload_n (pc := 10) dX7_spent_10 rfl rfl ?_
    refine V_getR (pc := 11) (ci := 7) (j := 2) (k2 := 4) dX7_spent_11 fl_X7_26 (fun _ _ _ _ => rfl) (by decide) rfl (rf_7_2 rfl) ?_
    refine V_iload_n (pc := 14) dX7_spent_14 rfl rfl ?_
    refine V_inv1 (pc := 15) (ci := 4) dX7_spent_15 ml_X7_145 (by decide) rfl ⟨by decide, rfl⟩ (by decide) (Nat.le_of_ble_eq_true rfl) (c_X4_isSpent μ hs4 hS hi) ?_
    rintro _ μ2 ⟨rfl, hμ⟩
    obtain rfl := hμ.symm
    refine V_ifeq (pc := 18) (tgt := 25) dX7_spent_18 (by decide) (fun h18 => ?_) (fun h18 => ?_)
    · have h18 := bI_e h18
      refine V_iconst (pc := 25) (v := 0) dX7_spent_25 (by decide) ?_
      refine V_iret (pc := 26) dX7_spent_26 rfl ?_
      exact ⟨congrArg (fun z => some (Value.int z)) (by simp only [fSpent, h4, nn_nI (j := i) (by omega), if_true, h18]; rfl), rfl⟩
    have h18 := bI_ne h18
    refine V_iconst (pc := 21) (v := 1) dX7_spent_21 (by decide) ?_
    refine V_goto (pc := 22) (tgt := 26) dX7_spent_22 (by decide) ?_
    refine V_iret (pc := 26) dX7_spent_26 rfl ?_
    exact ⟨congrArg (fun z => some (Value.int z)) (by simp only [fSpent, h4, nn_nI (j := i) (by omega), if_true, h18]; rfl), rfl⟩
  have h4 := bI_e h4; rw [inR_N (n := 6) (by decide)] at h4
  refine V_bipush (pc := 7) (v := (-101)) dX7_spent_7 (by decide) ?_
  refine V_iret (pc := 9) dX7_spent_9 rfl ?_
  exact ⟨congrArg (fun z => some (Value.int z)) (by simp [fSpent, h4]), rfl⟩
theorem dX7_guess_0 : decode cX7_guess 0 = .ok (.iload_n 1, 1) := by decide +kernel
theorem dX7_guess_1 : decode cX7_guess 1 = .ok (.invokestatic 110, 3) := by decide +kernel
theorem dX7_guess_4 : decode cX7_guess 4 = .ok (.ifCond .eq 15, 3) := by decide +kernel
theorem dX7_guess_7 : decode cX7_guess 7 = .ok (.aload_n 0, 1) := by decide +kernel
theorem dX7_guess_8 : decode cX7_guess 8 = .ok (.getfield 26, 3) := by decide +kernel
theorem dX7_guess_11 : decode cX7_guess 11 = .ok (.getfield 203, 3) := by decide +kernel
theorem dX7_guess_14 : decode cX7_guess 14 = .ok (.iload_n 1, 1) := by decide +kernel
theorem dX7_guess_15 : decode cX7_guess 15 = .ok (.iaload, 1) := by decide +kernel
theorem dX7_guess_16 : decode cX7_guess 16 = .ok (.goto 5, 3) := by decide +kernel
theorem dX7_guess_19 : decode cX7_guess 19 = .ok (.bipush (-101), 2) := by decide +kernel
theorem dX7_guess_21 : decode cX7_guess 21 = .ok (.ireturn, 1) := by decide +kernel
set_option maxHeartbeats 4000000 in
set_option maxRecDepth 100000 in
theorem c_X7_guess {l : Launch} {g : GW} {a : AT} {x : Int32} (μ : Mm) (hA : RC μ a)  : Con l g yX7_guess cX7_guess 2 (some .int) 1 [.ref 0, .int x] μ (fun r μ' => r = some (.int (fGuess a x)) ∧ μ' = μ) := by
  obtain ⟨a1, a2, a3, a4, ⟨b, hb, hcur, hdrf, hB⟩, hS, hK, hD, hW⟩ := id hA
  obtain ⟨r1, r2, r3, r4, r5, r6, r7, r8, r9⟩ := id hS
  obtain ⟨w1, w2, w3, w4, w5, w6⟩ := id hW
  obtain ⟨p1, p2, p3⟩ := id a1
  obtain ⟨hb1, hb2, hb3, hb4, hb5, hb6, hrow⟩ := bkF hb
  have hship : ∀ i, i < 6 → 4 + 1 + 1 + i < 88 ∧ kt (4 + 1 + 1 + i) = 5 := (seaF (Or.inl rfl)).2.2.2.2.2.2
  have hs4 : (4 : Nat) = 4 ∨ (4 : Nat) = 13 ∨ (4 : Nat) = 22 := Or.inl rfl
  refine Con.of [.ref 0, .int x] 0 (by decide +kernel) (Nat.le_of_ble_eq_true rfl) rfl ?_
  refine V_iload_n (pc := 0) dX7_guess_0 rfl rfl ?_
  refine V_ins1 (pc := 1) dX7_guess_1 ml_X7_110 (by first | decide | omega) (Nat.le_of_ble_eq_true rfl) (c_X7_isName μ) ?_
  rintro _ μ2 ⟨rfl, hμ⟩
  obtain rfl := hμ.symm
  refine V_ifeq (pc := 4) (tgt := 19) dX7_guess_4 (by decide) (fun h4 => ?_) (fun h4 => ?_)
  · have h4 := bI_e h4; rw [inR_N (n := 6) (by decide)] at h4
    refine V_bipush (pc := 19) (v := (-101)) dX7_guess_19 (by decide) ?_
    refine V_iret (pc := 21) dX7_guess_21 rfl ?_
    refine ⟨congrArg (fun z => some (Value.int z)) ?_, rfl⟩
    first
    | (simp only [fGuess, h4, nn_nI (j := i) (by omega), if_true]; exact r9 i hi; done)
    | (simp [fGuess, h4]; done)
  have h4 := bI_ne h4; rw [inR_N (n := 6) (by decide)] at h4; obtain ⟨i, hi, rfl⟩ := inN_of (by decide) h4
  refine V_aload_n (pc := 7) dX7_guess_7 rfl rfl ?_
  refine V_getR (pc := 8) (ci := 7) (j := 2) (k2 := 4) dX7_guess_8 fl_X7_26 (fun _ _ _ _ => rfl) (by decide) rfl (rf_7_2 rfl) ?_
  refine V_getR (pc := 11) (ci := 4) (j := 1) (k2 := 12) dX7_guess_11 fl_X7_203 (fun _ _ _ _ => rfl) (by decide) rfl (rf_4_1 rfl) ?_
  refine V_iload_n (pc := 14) dX7_guess_14 rfl rfl ?_
  refine V_iald (pc := 15) (j := i) dX7_guess_15 (by decide) rfl rfl (by show i < 6; omega) ?_
  refine V_goto (pc := 16) (tgt := 21) dX7_guess_16 (by decide) ?_
  refine V_iret (pc := 21) dX7_guess_21 rfl ?_
  refine ⟨congrArg (fun z => some (Value.int z)) ?_, rfl⟩
  first
  | (simp only [fGuess, h4, nn_nI (j := i) (by omega), if_true]; exact r9 i hi; done)
  | (simp [fGuess, h4]; done)
theorem dX7_tells_0 : decode cX7_tells 0 = .ok (.aload_n 0, 1) := by decide +kernel
theorem dX7_tells_1 : decode cX7_tells 1 = .ok (.invokevirtual 103, 3) := by decide +kernel
theorem dX7_tells_4 : decode cX7_tells 4 = .ok (.ifCond .eq 13, 3) := by decide +kernel
theorem dX7_tells_7 : decode cX7_tells 7 = .ok (.aload_n 0, 1) := by decide +kernel
theorem dX7_tells_8 : decode cX7_tells 8 = .ok (.getfield 53, 3) := by decide +kernel
theorem dX7_tells_11 : decode cX7_tells 11 = .ok (.invokevirtual 196, 3) := by decide +kernel
theorem dX7_tells_14 : decode cX7_tells 14 = .ok (.goto 5, 3) := by decide +kernel
theorem dX7_tells_17 : decode cX7_tells 17 = .ok (.bipush (-103), 2) := by decide +kernel
theorem dX7_tells_19 : decode cX7_tells 19 = .ok (.ireturn, 1) := by decide +kernel
set_option maxHeartbeats 4000000 in
set_option maxRecDepth 100000 in
theorem c_X7_tells {l : Launch} {g : GW} {a : AT}  (μ : Mm) (hA : RC μ a)  : Con l g yX7_tells cX7_tells 1 (some .int) 3 [.ref 0] μ (fun r μ' => r = some (.int (fTells a)) ∧ μ' = μ) := by
  obtain ⟨a1, a2, a3, a4, ⟨b, hb, hcur, hdrf, hB⟩, hS, hK, hD, hW⟩ := id hA
  obtain ⟨r1, r2, r3, r4, r5, r6, r7, r8, r9⟩ := id hS
  obtain ⟨w1, w2, w3, w4, w5, w6⟩ := id hW
  obtain ⟨p1, p2, p3⟩ := id a1
  obtain ⟨hb1, hb2, hb3, hb4, hb5, hb6, hrow⟩ := bkF hb
  have hship : ∀ i, i < 6 → 4 + 1 + 1 + i < 88 ∧ kt (4 + 1 + 1 + i) = 5 := (seaF (Or.inl rfl)).2.2.2.2.2.2
  have hs4 : (4 : Nat) = 4 ∨ (4 : Nat) = 13 ∨ (4 : Nat) = 22 := Or.inl rfl
  refine Con.of [.ref 0] 0 (by decide +kernel) (Nat.le_of_ble_eq_true rfl) rfl ?_
  refine V_aload_n (pc := 0) dX7_tells_0 rfl rfl ?_
  refine V_inv0 (pc := 1) (ci := 7) dX7_tells_1 ml_X7_103 (by decide) rfl ⟨by decide, rfl⟩ (by decide) (Nat.le_of_ble_eq_true rfl) (c_X7_hasBook μ hA) ?_
  rintro _ μ2 ⟨rfl, hμ⟩
  obtain rfl := hμ.symm
  refine V_ifeq (pc := 4) (tgt := 17) dX7_tells_4 (by decide) (fun h4 => ?_) (fun h4 => ?_)
  · have h4 := of_decide_eq_false (bI_e h4)
    refine V_bipush (pc := 17) (v := (-103)) dX7_tells_17 (by decide) ?_
    refine V_iret (pc := 19) dX7_tells_19 rfl ?_
    refine ⟨?_, rfl⟩
    first
    | (simp only [fTells]; rw [if_pos h4]; done)
    | (simp only [fTells]; rw [if_neg h4]; done)
  have h4 := of_decide_eq_true (bI_ne h4)
  refine V_aload_n (pc := 7) dX7_tells_7 rfl rfl ?_
  refine V_getR (pc := 8) (ci := 7) (j := 7) (k2 := b) dX7_tells_8 fl_X7_53 (fun _ _ _ _ => rfl) (by decide) rfl ((rf_7_7 rfl).trans hcur) ?_
  refine V_inv0 (pc := 11) (ci := 0) dX7_tells_11 ml_X7_196 (by first | decide | omega) (by first | rfl | assumption | exact (hship _ (by omega)).2 | exact (hrow _ (by omega)).2.1 | decide) ⟨by decide, rfl⟩ (by decide) (Nat.le_of_ble_eq_true rfl) (c_X0_tellingSign μ hb hB) ?_
  rintro _ μ2 ⟨rfl, hμ⟩
  obtain rfl := hμ.symm
  refine V_goto (pc := 14) (tgt := 19) dX7_tells_14 (by decide) ?_
  refine V_iret (pc := 19) dX7_tells_19 rfl ?_
  refine ⟨?_, rfl⟩
  first
  | (simp only [fTells]; rw [if_pos h4]; done)
  | (simp only [fTells]; rw [if_neg h4]; done)
theorem dX7_called_0 : decode cX7_called 0 = .ok (.aload_n 0, 1) := by decide +kernel
theorem dX7_called_1 : decode cX7_called 1 = .ok (.getfield 39, 3) := by decide +kernel
theorem dX7_called_4 : decode cX7_called 4 = .ok (.getfield 212, 3) := by decide +kernel
theorem dX7_called_7 : decode cX7_called 7 = .ok (.ifCond .eq 17, 3) := by decide +kernel
theorem dX7_called_10 : decode cX7_called 10 = .ok (.aload_n 0, 1) := by decide +kernel
theorem dX7_called_11 : decode cX7_called 11 = .ok (.getfield 39, 3) := by decide +kernel
theorem dX7_called_14 : decode cX7_called 14 = .ok (.aload_n 0, 1) := by decide +kernel
theorem dX7_called_15 : decode cX7_called 15 = .ok (.getfield 53, 3) := by decide +kernel
theorem dX7_called_18 : decode cX7_called 18 = .ok (.invokevirtual 217, 3) := by decide +kernel
theorem dX7_called_21 : decode cX7_called 21 = .ok (.goto 5, 3) := by decide +kernel
theorem dX7_called_24 : decode cX7_called 24 = .ok (.bipush (-103), 2) := by decide +kernel
theorem dX7_called_26 : decode cX7_called 26 = .ok (.ireturn, 1) := by decide +kernel
set_option maxHeartbeats 4000000 in
set_option maxRecDepth 100000 in
theorem c_X7_called {l : Launch} {g : GW} {a : AT}  (μ : Mm) (hA : RC μ a)  : Con l g yX7_called cX7_called 1 (some .int) 5 [.ref 0] μ (fun r μ' => r = some (.int (fCalled a)) ∧ μ' = μ) := by
  obtain ⟨a1, a2, a3, a4, ⟨b, hb, hcur, hdrf, hB⟩, hS, hK, hD, hW⟩ := id hA
  obtain ⟨r1, r2, r3, r4, r5, r6, r7, r8, r9⟩ := id hS
  obtain ⟨w1, w2, w3, w4, w5, w6⟩ := id hW
  obtain ⟨p1, p2, p3⟩ := id a1
  obtain ⟨hb1, hb2, hb3, hb4, hb5, hb6, hrow⟩ := bkF hb
  have hship : ∀ i, i < 6 → 4 + 1 + 1 + i < 88 ∧ kt (4 + 1 + 1 + i) = 5 := (seaF (Or.inl rfl)).2.2.2.2.2.2
  have h4 : (4 : Nat) = 4 ∨ (4 : Nat) = 13 ∨ (4 : Nat) = 22 := Or.inl rfl
  refine Con.of [.ref 0] 0 (by decide +kernel) (Nat.le_of_ble_eq_true rfl) rfl ?_
  refine V_aload_n (pc := 0) dX7_called_0 rfl rfl ?_
  refine V_getR (pc := 1) (ci := 7) (j := 5) (k2 := 31) dX7_called_1 fl_X7_39 (fun _ _ _ _ => rfl) (by decide) rfl (rf_7_5 rfl) ?_
  refine V_getI (pc := 4) (ci := 6) (j := 1) dX7_called_4 fl_X7_212 (fun _ _ _ _ => rfl) (by decide) rfl ?_
  rw [w1]
  refine V_ifeq (pc := 7) (tgt := 24) dX7_called_7 (by decide) (fun h7 => ?_) (fun h7 => ?_)
  · have h7 := bI_e h7
    refine V_bipush (pc := 24) (v := (-103)) dX7_called_24 (by decide) ?_
    refine V_iret (pc := 26) dX7_called_26 rfl ?_
    refine ⟨?_, rfl⟩
    first
    | (simp only [fCalled, h7, if_true]; done)
    | (simp [fCalled, h7]; done)
  have h7 := bI_ne h7
  refine V_aload_n (pc := 10) dX7_called_10 rfl rfl ?_
  refine V_getR (pc := 11) (ci := 7) (j := 5) (k2 := 31) dX7_called_11 fl_X7_39 (fun _ _ _ _ => rfl) (by decide) rfl (rf_7_5 rfl) ?_
  refine V_aload_n (pc := 14) dX7_called_14 rfl rfl ?_
  refine V_getR (pc := 15) (ci := 7) (j := 7) (k2 := b) dX7_called_15 fl_X7_53 (fun _ _ _ _ => rfl) (by decide) rfl ((rf_7_7 rfl).trans hcur) ?_
  refine V_inv1 (pc := 18) (ci := 6) dX7_called_18 ml_X7_217 (by decide) rfl ⟨by decide, rfl⟩ (by decide) (Nat.le_of_ble_eq_true rfl) (c_X6_ways μ hb hB hW) ?_
  rintro _ μ2 ⟨rfl, hμ⟩
  obtain rfl := hμ.symm
  refine V_goto (pc := 21) (tgt := 26) dX7_called_21 (by decide) ?_
  refine V_iret (pc := 26) dX7_called_26 rfl ?_
  refine ⟨?_, rfl⟩
  first
  | (simp only [fCalled, h7, if_true]; done)
  | (simp [fCalled, h7]; done)
theorem dX7_by_0 : decode cX7_by 0 = .ok (.aload_n 0, 1) := by decide +kernel
theorem dX7_by_1 : decode cX7_by 1 = .ok (.getfield 39, 3) := by decide +kernel
theorem dX7_by_4 : decode cX7_by 4 = .ok (.getfield 212, 3) := by decide +kernel
theorem dX7_by_7 : decode cX7_by 7 = .ok (.ifCond .ne 6, 3) := by decide +kernel
theorem dX7_by_10 : decode cX7_by 10 = .ok (.bipush (-103), 2) := by decide +kernel
theorem dX7_by_12 : decode cX7_by 12 = .ok (.ireturn, 1) := by decide +kernel
theorem dX7_by_13 : decode cX7_by 13 = .ok (.iload_n 1, 1) := by decide +kernel
theorem dX7_by_14 : decode cX7_by 14 = .ok (.ifCond .lt 29, 3) := by decide +kernel
theorem dX7_by_17 : decode cX7_by 17 = .ok (.iload_n 1, 1) := by decide +kernel
theorem dX7_by_18 : decode cX7_by 18 = .ok (.aload_n 0, 1) := by decide +kernel
theorem dX7_by_19 : decode cX7_by 19 = .ok (.getfield 39, 3) := by decide +kernel
theorem dX7_by_22 : decode cX7_by 22 = .ok (.getfield 206, 3) := by decide +kernel
theorem dX7_by_25 : decode cX7_by 25 = .ok (.if_icmp .ge 18, 3) := by decide +kernel
theorem dX7_by_28 : decode cX7_by 28 = .ok (.aload_n 0, 1) := by decide +kernel
theorem dX7_by_29 : decode cX7_by 29 = .ok (.getfield 39, 3) := by decide +kernel
theorem dX7_by_32 : decode cX7_by 32 = .ok (.aload_n 0, 1) := by decide +kernel
theorem dX7_by_33 : decode cX7_by 33 = .ok (.getfield 53, 3) := by decide +kernel
theorem dX7_by_36 : decode cX7_by 36 = .ok (.iload_n 1, 1) := by decide +kernel
theorem dX7_by_37 : decode cX7_by 37 = .ok (.invokevirtual 221, 3) := by decide +kernel
theorem dX7_by_40 : decode cX7_by 40 = .ok (.goto 5, 3) := by decide +kernel
theorem dX7_by_43 : decode cX7_by 43 = .ok (.bipush (-101), 2) := by decide +kernel
theorem dX7_by_45 : decode cX7_by 45 = .ok (.ireturn, 1) := by decide +kernel
set_option maxHeartbeats 4000000 in
set_option maxRecDepth 100000 in
theorem c_X7_by {l : Launch} {g : GW} {a : AT} {x : Int32} (μ : Mm) (hA : RC μ a)  : Con l g yX7_by cX7_by 2 (some .int) 6 [.ref 0, .int x] μ (fun r μ' => r = some (.int (fBy a x)) ∧ μ' = μ) := by
  obtain ⟨a1, a2, a3, a4, ⟨b, hb, hcur, hdrf, hB⟩, hS, hK, hD, hW⟩ := id hA
  obtain ⟨r1, r2, r3, r4, r5, r6, r7, r8, r9⟩ := id hS
  obtain ⟨w1, w2, w3, w4, w5, w6⟩ := id hW
  obtain ⟨p1, p2, p3⟩ := id a1
  obtain ⟨hb1, hb2, hb3, hb4, hb5, hb6, hrow⟩ := bkF hb
  have hship : ∀ i, i < 6 → 4 + 1 + 1 + i < 88 ∧ kt (4 + 1 + 1 + i) = 5 := (seaF (Or.inl rfl)).2.2.2.2.2.2
  have h4 : (4 : Nat) = 4 ∨ (4 : Nat) = 13 ∨ (4 : Nat) = 22 := Or.inl rfl
  refine Con.of [.ref 0, .int x] 0 (by decide +kernel) (Nat.le_of_ble_eq_true rfl) rfl ?_
  refine V_aload_n (pc := 0) dX7_by_0 rfl rfl ?_
  refine V_getR (pc := 1) (ci := 7) (j := 5) (k2 := 31) dX7_by_1 fl_X7_39 (fun _ _ _ _ => rfl) (by decide) rfl (rf_7_5 rfl) ?_
  refine V_getI (pc := 4) (ci := 6) (j := 1) dX7_by_4 fl_X7_212 (fun _ _ _ _ => rfl) (by decide) rfl ?_
  rw [w1]
  refine V_ifne (pc := 7) (tgt := 13) dX7_by_7 (by decide) (fun h7 => ?_) (fun h7 => ?_)
  · have h7 := bI_ne h7
    refine V_iload_n (pc := 13) dX7_by_13 rfl rfl ?_
    refine V_iflt (pc := 14) (tgt := 43) dX7_by_14 (by decide) (fun h14 => ?_) (fun h14 => ?_)
    · have e9 := inN_f1 (n := aWn a) h14
      refine V_bipush (pc := 43) (v := (-101)) dX7_by_43 (by decide) ?_
      refine V_iret (pc := 45) dX7_by_45 rfl ?_
      refine ⟨congrArg (fun z => some (Value.int z)) ?_, rfl⟩
      first
      | (simp only [fBy, h7, e9, nn_nI (j := d) (by omega), if_true]; done)
      | (simp [fBy, h7, e9]; done)
    refine V_iload_n (pc := 17) dX7_by_17 rfl rfl ?_
    refine V_aload_n (pc := 18) dX7_by_18 rfl rfl ?_
    refine V_getR (pc := 19) (ci := 7) (j := 5) (k2 := 31) dX7_by_19 fl_X7_39 (fun _ _ _ _ => rfl) (by decide) rfl (rf_7_5 rfl) ?_
    refine V_getI (pc := 22) (ci := 6) (j := 3) dX7_by_22 fl_X7_206 (fun _ _ _ _ => rfl) (by decide) rfl ?_
    refine V_icmpge (pc := 25) (tgt := 43) dX7_by_25 (by decide) (fun h25 => ?_) (fun h25 => ?_)
    · rw [w4] at h25; have e9 := inN_f2 (n := aWn a) (nI_toInt (by omega)) h25
      refine V_bipush (pc := 43) (v := (-101)) dX7_by_43 (by decide) ?_
      refine V_iret (pc := 45) dX7_by_45 rfl ?_
      refine ⟨congrArg (fun z => some (Value.int z)) ?_, rfl⟩
      first
      | (simp only [fBy, h7, e9, nn_nI (j := d) (by omega), if_true]; done)
      | (simp [fBy, h7, e9]; done)
    rw [w4] at h25; have e9 := inN_t (n := aWn a) (nI_toInt (by omega)) h14 h25; obtain ⟨d, hd, rfl⟩ := inN_of (by omega) e9
    refine V_aload_n (pc := 28) dX7_by_28 rfl rfl ?_
    refine V_getR (pc := 29) (ci := 7) (j := 5) (k2 := 31) dX7_by_29 fl_X7_39 (fun _ _ _ _ => rfl) (by decide) rfl (rf_7_5 rfl) ?_
    refine V_aload_n (pc := 32) dX7_by_32 rfl rfl ?_
    refine V_getR (pc := 33) (ci := 7) (j := 7) (k2 := b) dX7_by_33 fl_X7_53 (fun _ _ _ _ => rfl) (by decide) rfl ((rf_7_7 rfl).trans hcur) ?_
    refine V_iload_n (pc := 36) dX7_by_36 rfl rfl ?_
    refine V_inv2 (pc := 37) (ci := 6) dX7_by_37 ml_X7_221 (by decide) rfl ⟨by decide, rfl⟩ (by decide) (Nat.le_of_ble_eq_true rfl) (c_X6_callOn μ hb hB hW (show d < 6 by omega)) ?_
    rintro _ μ2 ⟨rfl, hμ⟩
    obtain rfl := hμ.symm
    refine V_goto (pc := 40) (tgt := 45) dX7_by_40 (by decide) ?_
    refine V_iret (pc := 45) dX7_by_45 rfl ?_
    refine ⟨congrArg (fun z => some (Value.int z)) ?_, rfl⟩
    first
    | (simp only [fBy, h7, e9, nn_nI (j := d) (by omega), if_true]; done)
    | (simp [fBy, h7, e9]; done)
  have h7 := bI_e h7
  refine V_bipush (pc := 10) (v := (-103)) dX7_by_10 (by decide) ?_
  refine V_iret (pc := 12) dX7_by_12 rfl ?_
  exact ⟨congrArg (fun z => some (Value.int z)) (by simp [fBy, h7]), rfl⟩
