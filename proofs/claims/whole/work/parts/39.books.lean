theorem dX7_fault_0 : decode cX7_fault 0 = .ok (.aload_n 0, 1) := by decide +kernel
theorem dX7_fault_1 : decode cX7_fault 1 = .ok (.getfield 19, 3) := by decide +kernel
theorem dX7_fault_4 : decode cX7_fault 4 = .ok (.aload_n 0, 1) := by decide +kernel
theorem dX7_fault_5 : decode cX7_fault 5 = .ok (.getfield 12, 3) := by decide +kernel
theorem dX7_fault_8 : decode cX7_fault 8 = .ok (.aload_n 0, 1) := by decide +kernel
theorem dX7_fault_9 : decode cX7_fault 9 = .ok (.getfield 57, 3) := by decide +kernel
theorem dX7_fault_12 : decode cX7_fault 12 = .ok (.invokevirtual 68, 3) := by decide +kernel
theorem dX7_fault_15 : decode cX7_fault 15 = .ok (.ireturn, 1) := by decide +kernel
set_option maxHeartbeats 4000000 in
set_option maxRecDepth 100000 in
theorem c_X7_fault {l : Launch} {g : GW} {a : AT}  (μ : Mm) (hA : RC μ a)  : Con l g yX7_fault cX7_fault 1 (some .int) 4 [.ref 0] μ (fun r μ' => r = some (.int (nI (faT (aPc a) (aPn a)))) ∧ RC μ' a ∧ FrC μ μ') := by
  obtain ⟨a1, a2, a3, a4, ⟨b, hb, hcur, hdrf, hB⟩, hS, hK, hD, hW⟩ := id hA
  obtain ⟨r1, r2, r3, r4, r5, r6, r7, r8, r9⟩ := id hS
  obtain ⟨w1, w2, w3, w4, w5, w6⟩ := id hW
  obtain ⟨p1, p2, p3⟩ := id a1
  obtain ⟨hb1, hb2, hb3, hb4, hb5, hb6, hrow⟩ := bkF hb
  have hship : ∀ i, i < 6 → 4 + 1 + 1 + i < 88 ∧ kt (4 + 1 + 1 + i) = 5 := (seaF (Or.inl rfl)).2.2.2.2.2.2
  have h4 : (4 : Nat) = 4 ∨ (4 : Nat) = 13 ∨ (4 : Nat) = 22 := Or.inl rfl
  have hb9 : 106 - b = 49 ∨ 106 - b = 57 := by rcases hb with e | e <;> subst e <;> decide
  refine Con.of [.ref 0] 0 (by decide +kernel) (Nat.le_of_ble_eq_true rfl) rfl ?_
  refine V_aload_n (pc := 0) dX7_fault_0 rfl rfl ?_
  refine V_getR (pc := 1) (ci := 7) (j := 1) (k2 := 3) dX7_fault_1 fl_X7_19 (fun _ _ _ _ => rfl) (by decide) rfl (rf_7_1 rfl) ?_
  refine V_aload_n (pc := 4) dX7_fault_4 rfl rfl ?_
  refine V_getR (pc := 5) (ci := 7) (j := 0) (k2 := 1) dX7_fault_5 fl_X7_12 (fun _ _ _ _ => rfl) (by decide) rfl (rf_7_0 rfl) ?_
  refine V_aload_n (pc := 8) dX7_fault_8 rfl rfl ?_
  refine V_getR (pc := 9) (ci := 7) (j := 8) (k2 := ((106 - b))) dX7_fault_9 fl_X7_57 (fun _ _ _ _ => rfl) (by decide) rfl ((rf_7_8 rfl).trans hdrf) ?_
  refine V_inv2 (pc := 12) (ci := 3) dX7_fault_12 ml_X7_68 (by decide) rfl ⟨by decide, rfl⟩ (by first | decide | omega) (Nat.le_of_ble_eq_true rfl) (c_X3_read μ hb9 a1) ?_
  rintro _ μ1 ⟨rfl, k1, k2⟩
  refine V_iret (pc := 15) dX7_fault_15 rfl ?_
  exact ⟨rfl, hA.rd hcur hb k1, k1.C (rdC hb9)⟩
theorem dX7_book_0 : decode cX7_book 0 = .ok (.aload_n 0, 1) := by decide +kernel
theorem dX7_book_1 : decode cX7_book 1 = .ok (.getfield 19, 3) := by decide +kernel
theorem dX7_book_4 : decode cX7_book 4 = .ok (.aload_n 0, 1) := by decide +kernel
theorem dX7_book_5 : decode cX7_book 5 = .ok (.getfield 12, 3) := by decide +kernel
theorem dX7_book_8 : decode cX7_book 8 = .ok (.aload_n 0, 1) := by decide +kernel
theorem dX7_book_9 : decode cX7_book 9 = .ok (.getfield 57, 3) := by decide +kernel
theorem dX7_book_12 : decode cX7_book 12 = .ok (.invokevirtual 68, 3) := by decide +kernel
theorem dX7_book_15 : decode cX7_book 15 = .ok (.aload_n 0, 1) := by decide +kernel
theorem dX7_book_16 : decode cX7_book 16 = .ok (.getfield 12, 3) := by decide +kernel
theorem dX7_book_19 : decode cX7_book 19 = .ok (.getfield 72, 3) := by decide +kernel
theorem dX7_book_22 : decode cX7_book 22 = .ok (.if_icmp .lt 13, 3) := by decide +kernel
theorem dX7_book_25 : decode cX7_book 25 = .ok (.aload_n 0, 1) := by decide +kernel
theorem dX7_book_26 : decode cX7_book 26 = .ok (.getfield 19, 3) := by decide +kernel
theorem dX7_book_29 : decode cX7_book 29 = .ok (.invokevirtual 76, 3) := by decide +kernel
theorem dX7_book_32 : decode cX7_book 32 = .ok (.ifCond .ne 6, 3) := by decide +kernel
theorem dX7_book_35 : decode cX7_book 35 = .ok (.bipush (-103), 2) := by decide +kernel
theorem dX7_book_37 : decode cX7_book 37 = .ok (.ireturn, 1) := by decide +kernel
theorem dX7_book_38 : decode cX7_book 38 = .ok (.aload_n 0, 1) := by decide +kernel
theorem dX7_book_39 : decode cX7_book 39 = .ok (.getfield 53, 3) := by decide +kernel
theorem dX7_book_42 : decode cX7_book 42 = .ok (.astore_n 1, 1) := by decide +kernel
theorem dX7_book_43 : decode cX7_book 43 = .ok (.aload_n 0, 1) := by decide +kernel
theorem dX7_book_44 : decode cX7_book 44 = .ok (.aload_n 0, 1) := by decide +kernel
theorem dX7_book_45 : decode cX7_book 45 = .ok (.getfield 57, 3) := by decide +kernel
theorem dX7_book_48 : decode cX7_book 48 = .ok (.putfield 53, 3) := by decide +kernel
theorem dX7_book_51 : decode cX7_book 51 = .ok (.aload_n 0, 1) := by decide +kernel
theorem dX7_book_52 : decode cX7_book 52 = .ok (.aload_n 1, 1) := by decide +kernel
theorem dX7_book_53 : decode cX7_book 53 = .ok (.putfield 57, 3) := by decide +kernel
theorem dX7_book_56 : decode cX7_book 56 = .ok (.aload_n 0, 1) := by decide +kernel
theorem dX7_book_57 : decode cX7_book 57 = .ok (.dup, 1) := by decide +kernel
theorem dX7_book_58 : decode cX7_book 58 = .ok (.getfield 80, 3) := by decide +kernel
theorem dX7_book_61 : decode cX7_book 61 = .ok (.iconst 1, 1) := by decide +kernel
theorem dX7_book_62 : decode cX7_book 62 = .ok (.iadd, 1) := by decide +kernel
theorem dX7_book_63 : decode cX7_book 63 = .ok (.putfield 80, 3) := by decide +kernel
theorem dX7_book_66 : decode cX7_book 66 = .ok (.aload_n 0, 1) := by decide +kernel
theorem dX7_book_67 : decode cX7_book 67 = .ok (.getfield 12, 3) := by decide +kernel
theorem dX7_book_70 : decode cX7_book 70 = .ok (.invokevirtual 64, 3) := by decide +kernel
theorem dX7_book_73 : decode cX7_book 73 = .ok (.pop, 1) := by decide +kernel
theorem dX7_book_74 : decode cX7_book 74 = .ok (.aload_n 0, 1) := by decide +kernel
theorem dX7_book_75 : decode cX7_book 75 = .ok (.getfield 26, 3) := by decide +kernel
theorem dX7_book_78 : decode cX7_book 78 = .ok (.invokevirtual 83, 3) := by decide +kernel
theorem dX7_book_81 : decode cX7_book 81 = .ok (.aload_n 0, 1) := by decide +kernel
theorem dX7_book_82 : decode cX7_book 82 = .ok (.getfield 39, 3) := by decide +kernel
theorem dX7_book_85 : decode cX7_book 85 = .ok (.invokevirtual 86, 3) := by decide +kernel
theorem dX7_book_88 : decode cX7_book 88 = .ok (.aload_n 0, 1) := by decide +kernel
theorem dX7_book_89 : decode cX7_book 89 = .ok (.iconst 0, 1) := by decide +kernel
theorem dX7_book_90 : decode cX7_book 90 = .ok (.putfield 89, 3) := by decide +kernel
theorem dX7_book_93 : decode cX7_book 93 = .ok (.aload_n 0, 1) := by decide +kernel
theorem dX7_book_94 : decode cX7_book 94 = .ok (.getfield 53, 3) := by decide +kernel
theorem dX7_book_97 : decode cX7_book 97 = .ok (.invokevirtual 93, 3) := by decide +kernel
theorem dX7_book_100 : decode cX7_book 100 = .ok (.ireturn, 1) := by decide +kernel
set_option maxHeartbeats 4000000 in
set_option maxRecDepth 100000 in
theorem c_X7_book {l : Launch} {g : GW} {a : AT}  (μ : Mm) (hA : RC μ a) (hnb : aNb a < 600) : Con l g yX7_book cX7_book 2 (some .int) 4 [.ref 0] μ (fun r μ' => r = some (.int (fBook a).1) ∧ RC μ' (fBook a).2 ∧ FrC μ μ') := by
  obtain ⟨a1, a2, a3, a4, ⟨b, hb, hcur, hdrf, hB⟩, hS, hK, hD, hW⟩ := id hA
  obtain ⟨r1, r2, r3, r4, r5, r6, r7, r8, r9⟩ := id hS
  obtain ⟨w1, w2, w3, w4, w5, w6⟩ := id hW
  obtain ⟨p1, p2, p3⟩ := id a1
  obtain ⟨hb1, hb2, hb3, hb4, hb5, hb6, hrow⟩ := bkF hb
  have hship : ∀ i, i < 6 → 4 + 1 + 1 + i < 88 ∧ kt (4 + 1 + 1 + i) = 5 := (seaF (Or.inl rfl)).2.2.2.2.2.2
  have h4 : (4 : Nat) = 4 ∨ (4 : Nat) = 13 ∨ (4 : Nat) = 22 := Or.inl rfl
  have hb9 : 106 - b = 49 ∨ 106 - b = 57 := by rcases hb with e | e <;> subst e <;> decide
  refine Con.of [.ref 0, .null] 1 (by decide +kernel) (Nat.le_of_ble_eq_true rfl) rfl ?_
  refine V_aload_n (pc := 0) dX7_book_0 rfl rfl ?_
  refine V_getR (pc := 1) (ci := 7) (j := 1) (k2 := 3) dX7_book_1 fl_X7_19 (fun _ _ _ _ => rfl) (by decide) rfl (rf_7_1 rfl) ?_
  refine V_aload_n (pc := 4) dX7_book_4 rfl rfl ?_
  refine V_getR (pc := 5) (ci := 7) (j := 0) (k2 := 1) dX7_book_5 fl_X7_12 (fun _ _ _ _ => rfl) (by decide) rfl (rf_7_0 rfl) ?_
  refine V_aload_n (pc := 8) dX7_book_8 rfl rfl ?_
  refine V_getR (pc := 9) (ci := 7) (j := 8) (k2 := ((106 - b))) dX7_book_9 fl_X7_57 (fun _ _ _ _ => rfl) (by decide) rfl ((rf_7_8 rfl).trans hdrf) ?_
  refine V_inv2 (pc := 12) (ci := 3) dX7_book_12 ml_X7_68 (by decide) rfl ⟨by decide, rfl⟩ (by first | decide | omega) (Nat.le_of_ble_eq_true rfl) (c_X3_read μ hb9 a1) ?_
  rintro _ μ1 ⟨rfl, k1, k2⟩
  have hA1 := hA.rd hcur hb k1
  have hC1 : FrC μ μ1 := k1.C (rdC hb9)
  cases hp : prT (aPc a) (aPn a) with
  | none =>
    have hlt := faT_lt hp
    have e0 : fBook a = (-103, a) := by unfold fBook; rw [hp]
    rw [e0]
    refine V_aload_n (pc := 15) dX7_book_15 rfl rfl ?_
    refine V_getR (pc := 16) (ci := 7) (j := 0) (k2 := 1) dX7_book_16 fl_X7_12 (fun _ _ _ _ => rfl) (by decide) rfl (rf_7_0 rfl) ?_
    refine V_getI (pc := 19) (ci := 2) (j := 1) dX7_book_19 fl_X7_72 (fun _ _ _ _ => rfl) (by decide) rfl ?_
    rw [hA1.1.1]
    refine V_icmplt (pc := 22) (tgt := 35) dX7_book_22 (by decide) (fun h22 => ?_) (fun h22 => absurd ((nI_ltI (by omega) (by omega)).mpr hlt) h22)
    refine V_bipush (pc := 35) (v := (-103)) dX7_book_35 (by decide) ?_
    refine V_iret (pc := 37) dX7_book_37 rfl ?_
    exact ⟨rfl, hA1, hC1⟩
  | some q =>
    obtain ⟨x, w, tn, ow⟩ := q
    obtain ⟨k3, k4⟩ := k2 _ hp
    have e0 : fBook a = (if w = 3 ∧ x = 6 then (nI (nmT ow 6), newA a tn ow) else (-103, a)) := by unfold fBook; rw [hp]
    rw [e0, faT_all hp]
    clear e0 k2
    refine V_aload_n (pc := 15) dX7_book_15 rfl rfl ?_
    refine V_getR (pc := 16) (ci := 7) (j := 0) (k2 := 1) dX7_book_16 fl_X7_12 (fun _ _ _ _ => rfl) (by decide) rfl (rf_7_0 rfl) ?_
    refine V_getI (pc := 19) (ci := 2) (j := 1) dX7_book_19 fl_X7_72 (fun _ _ _ _ => rfl) (by decide) rfl ?_
    rw [hA1.1.1]
    refine V_icmplt (pc := 22) (tgt := 35) dX7_book_22 (by decide) (fun h22 => absurd ((nI_ltI (by omega) (by omega)).mp h22) (Nat.lt_irrefl _)) (fun h22 => ?_)
    refine V_aload_n (pc := 25) dX7_book_25 rfl rfl ?_
    refine V_getR (pc := 26) (ci := 7) (j := 1) (k2 := 3) dX7_book_26 fl_X7_19 (fun _ _ _ _ => rfl) (by decide) rfl (rf_7_1 rfl) ?_
    refine V_inv0 (pc := 29) (ci := 3) dX7_book_29 ml_X7_76 (by decide) rfl ⟨by decide, rfl⟩ (by first | decide | omega) (Nat.le_of_ble_eq_true rfl) (c_X3_atEnd μ1 k3) ?_
    rintro _ μ2 ⟨rfl, hμ⟩
    obtain rfl := hμ.symm
    refine V_ifne (pc := 32) (tgt := 38) dX7_book_32 (by decide) (fun h32 => ?_) (fun h32 => ?_)
    · have h32 := bI_ne h32; have hfin : w = 3 ∧ x = 6 := by simpa using h32
      rw [if_pos hfin]
      refine V_aload_n (pc := 38) dX7_book_38 rfl rfl ?_
      refine V_getR (pc := 39) (ci := 7) (j := 7) (k2 := b) dX7_book_39 fl_X7_53 (fun _ _ _ _ => rfl) (by decide) rfl ((rf_7_7 rfl).trans (by rw [k1.2]; exact hcur)) ?_
      refine V_astore1 (pc := 42) dX7_book_42 (by decide) rfl ?_
      refine V_aload_n (pc := 43) dX7_book_43 rfl rfl ?_
      refine V_aload_n (pc := 44) dX7_book_44 rfl rfl ?_
      refine V_getR (pc := 45) (ci := 7) (j := 8) (k2 := ((106 - b))) dX7_book_45 fl_X7_57 (fun _ _ _ _ => rfl) (by decide) rfl ((rf_7_8 rfl).trans (by rw [k1.2]; exact hdrf)) ?_
      refine V_putC (pc := 48) dX7_book_48 fl_X7_53 ?_
      refine V_aload_n (pc := 51) dX7_book_51 rfl rfl ?_
      refine V_aload_n (pc := 52) dX7_book_52 rfl rfl ?_
      refine V_putD (pc := 53) dX7_book_53 fl_X7_57 ?_
      refine V_aload_n (pc := 56) dX7_book_56 rfl rfl ?_
      refine V_dup (pc := 57) dX7_book_57 rfl ?_
      refine V_getI (pc := 58) (ci := 7) (j := 9) dX7_book_58 fl_X7_80 (fun _ _ _ _ => rfl) (by decide) rfl ?_
      refine V_iconst (pc := 61) (v := 1) dX7_book_61 (by decide) ?_
      refine V_iadd (pc := 62) dX7_book_62 ?_
      refine V_putI (pc := 63) (ci := 7) (j := 9) dX7_book_63 fl_X7_80 (fun _ _ _ _ _ => rfl) rfl rfl (by decide) rfl ?_
      obtain ⟨g1, g2, g3, g4, -, gA, gK, ⟨τ, gD⟩, gW⟩ := id hA1
      have e9 : (setD (setC μ1 (106 - b)) b).1 0 9 + 1 = nI (aNb a + 1) := by
        show μ1.1 0 9 + 1 = _
        rw [g2]; exact nI_1 _
      rw [e9]
      have f3 : ∀ k, k ≠ 0 → (setI (setD (setC μ1 (106 - b)) b) 0 9 (nI (aNb a + 1))).1 k = μ1.1 k := fun k hk => by
        show up2 μ1.1 0 9 _ k = _
        rw [up2_ne hk]
      have f4 : (setI (setD (setC μ1 (106 - b)) b) 0 9 (nI (aNb a + 1))).1 0 9 = nI (aNb a + 1) := get_eq
      have f5 : (setI (setD (setC μ1 (106 - b)) b) 0 9 (nI (aNb a + 1))).2 = (μ1.2.1, (106 - b, b)) := rfl
      generalize setI (setD (setC μ1 (106 - b)) b) 0 9 (nI (aNb a + 1)) = μ3 at f3 f4 f5 ⊢
      have P3 : PgR μ3 (aPn a) (aPc a) := by unfold PgR; rw [f3 1 (by decide), f3 2 (by decide)]; exact g1
      refine V_aload_n (pc := 66) dX7_book_66 rfl rfl ?_
      refine V_getR (pc := 67) (ci := 7) (j := 0) (k2 := 1) dX7_book_67 fl_X7_12 (fun _ _ _ _ => rfl) (by decide) rfl (rf_7_0 rfl) ?_
      refine V_inv0 (pc := 70) (ci := 2) dX7_book_70 ml_X7_64 (by decide) rfl ⟨by decide, rfl⟩ (by first | decide | omega) (Nat.le_of_ble_eq_true rfl) (c_X2_empty μ3 P3) ?_
      rintro _ μ4 ⟨rfl, m1, m2⟩
      have gS3 : SeaR μ4 4 (aS a) := by
        refine SeaR.kept (S := fun k => k = 0 ∨ k = 1) (μ := (μ1.1, μ4.2)) gA ⟨fun k hk => ?_, rfl⟩ (fun k hk q => by rcases hk with z | z <;> omega)
        rw [m2.1 k (fun q => hk (Or.inr q))]; exact f3 k (fun q => hk (Or.inl q))
      refine V_pop (pc := 73) dX7_book_73 rfl ?_
      refine V_aload_n (pc := 74) dX7_book_74 rfl rfl ?_
      refine V_getR (pc := 75) (ci := 7) (j := 2) (k2 := 4) dX7_book_75 fl_X7_26 (fun _ _ _ _ => rfl) (by decide) rfl (rf_7_2 rfl) ?_
      refine V_inv0 (pc := 78) (ci := 4) dX7_book_78 ml_X7_83 (by decide) rfl ⟨by decide, rfl⟩ (by first | decide | omega) (Nat.le_of_ble_eq_true rfl) (c_X4_clear μ4 h4 gS3) ?_
      rintro _ μ5 ⟨rfl, m3, m4⟩
      have f6 : ∀ k, k ≠ 0 → k ≠ 1 → ¬ seaS 4 k → μ5.1 k = μ1.1 k := fun k q1 q2 q3 => by rw [m4.1 k q3, m2.1 k q2]; exact f3 k q1
      have n4 : ∀ k, k < 4 ∨ 12 < k → ¬ seaS 4 k := fun k hk q => by rcases q with z | z <;> omega
      have gW5 : WkR μ5 (aWb a) (aWk a) (aWn a) (aWp a) := by unfold WkR; rw [f6 31 (by decide) (by decide) (n4 31 (by omega)), f6 32 (by decide) (by decide) (n4 32 (by omega))]; exact gW
      refine V_aload_n (pc := 81) dX7_book_81 rfl rfl ?_
      refine V_getR (pc := 82) (ci := 7) (j := 5) (k2 := 31) dX7_book_82 fl_X7_39 (fun _ _ _ _ => rfl) (by decide) rfl (rf_7_5 rfl) ?_
      refine V_inv0 (pc := 85) (ci := 6) dX7_book_85 ml_X7_86 (by decide) rfl ⟨by decide, rfl⟩ (by first | decide | omega) (Nat.le_of_ble_eq_true rfl) (c_X6_end μ5 gW5) ?_
      rintro _ μ6 ⟨rfl, m5, m6⟩
      have f7 : ∀ k, k ≠ 0 → k ≠ 1 → ¬ seaS 4 k → k ≠ 31 → μ6.1 k = μ1.1 k := fun k q1 q2 q3 q4 => by rw [m6.1 k q4]; exact f6 k q1 q2 q3
      have f8 : μ6.2 = (μ1.2.1, (106 - b, b)) := by rw [m6.2, m4.2, m2.2]; exact f5
      have f9 : μ6.1 0 9 = nI (aNb a + 1) := by rw [m6.1 0 (fun q => absurd q (by decide)), m4.1 0 (n4 0 (by omega)), m2.1 0 (fun q => absurd q (by decide))]; exact f4
      refine V_aload_n (pc := 88) dX7_book_88 rfl rfl ?_
      refine V_iconst (pc := 89) (v := 0) dX7_book_89 (by decide) ?_
      refine V_putZ (pc := 90) (ci := 7) (j := 10) dX7_book_90 fl_X7_89 (fun _ _ _ _ _ => rfl) rfl rfl (by decide) rfl (Or.inl rfl) ?_
      have f10 : ∀ k, k ≠ 0 → (setI μ6 0 10 0).1 k = μ6.1 k := fun k hk => by
        show up2 μ6.1 0 10 _ k = _
        rw [up2_ne hk]
      have B7 : BkR (setI μ6 0 10 0) (106 - b) tn ow := by
        refine BkR.kept (S := fun k => k < 49) (μ := (μ1.1, μ6.2)) k4 ⟨fun k hk => ?_, rfl⟩ (fun k h1 h2 q => by rcases hb with e | e <;> subst e <;> omega)
        rw [f10 k (by omega), f7 k (by omega) (by omega) (n4 k (by omega)) (by omega)]
      have hRN : RC (setI μ6 0 10 0) (newA a tn ow) := by
        refine ⟨?_, by rw [get_ne (by omega)]; exact f9, by show aNb a + 1 ≤ 600; omega, get_eq, ⟨106 - b, hb9, by show μ6.2.2.1 = _; rw [f8], by show μ6.2.2.2 = _; rw [f8]; show b = 106 - (106 - b); omega, B7⟩, ?_, ?_, ⟨τ, ?_⟩, ?_⟩
        · have : PgR μ6 0 (aPc a) := (m1.kept m4 (n4 1 (by omega)) (n4 2 (by omega))).kept m6 (fun q => absurd q (by decide)) (fun q => absurd q (by decide))
          unfold PgR; rw [f10 1 (by decide), f10 2 (by decide)]; exact this
        · have : SeaR μ6 4 _ := m3.kept m6 (fun k hk q => by have : k = 31 := q; rcases hk with z | z <;> omega)
          exact this.kept (FrM.rf.set (S := fun k => k = 0) rfl) (fun k hk q => by have : k = 0 := q; rcases hk with z | z <;> omega)
        · refine SeaR.kept (S := fun k => k < 13 ∨ k = 31) (μ := (μ1.1, μ6.2)) gK ⟨fun k hk => ?_, rfl⟩ (fun k hk q => by rcases hk with z | z <;> omega)
          rw [f10 k (by omega), f7 k (by omega) (by omega) (n4 k (by omega)) (by omega)]
        · refine SeaR.kept (S := fun k => k < 13 ∨ k = 31) (μ := (μ1.1, μ6.2)) gD ⟨fun k hk => ?_, rfl⟩ (fun k hk q => by rcases hk with z | z <;> omega)
          rw [f10 k (by omega), f7 k (by omega) (by omega) (n4 k (by omega)) (by omega)]
        · have : WkR μ6 false (aWk a) 0 (aWp a) := m5
          unfold WkR; rw [f10 31 (by decide), f10 32 (by decide)]; exact this
      have hCN : FrC μ (setI μ6 0 10 0) := hC1.tr ⟨fun k hk => by rw [f10 k (by omega), f7 k (by omega) (by omega) (n4 k (by omega)) (by omega)], by show μ6.2.1 = _; rw [f8]⟩
      refine V_aload_n (pc := 93) dX7_book_93 rfl rfl ?_
      refine V_getR (pc := 94) (ci := 7) (j := 7) (k2 := ((106 - b))) dX7_book_94 fl_X7_53 (fun _ _ _ _ => rfl) (by decide) rfl ((rf_7_7 rfl).trans (by show μ6.2.2.1 = _; rw [f8])) ?_
      refine V_inv0 (pc := 97) (ci := 0) dX7_book_97 ml_X7_93 (by first | decide | omega) (by first | rfl | assumption | exact (hship _ (by omega)).2 | exact (hrow _ (by omega)).2.1 | exact (bkF hb9).2.1 | decide) ⟨by decide, rfl⟩ (by first | decide | omega) (Nat.le_of_ble_eq_true rfl) (c_X0_nameCount _ hb9 B7) ?_
      rintro _ μ8 ⟨rfl, hμ⟩
      obtain rfl := hμ.symm
      refine V_iret (pc := 100) dX7_book_100 rfl ?_
      exact ⟨rfl, hRN, hCN⟩
    have h32 := bI_e h32; have hfin : ¬ (w = 3 ∧ x = 6) := by simpa using h32
    refine V_bipush (pc := 35) (v := (-103)) dX7_book_35 (by decide) ?_
    refine V_iret (pc := 37) dX7_book_37 rfl ?_
    rw [if_neg hfin]
    exact ⟨rfl, hA1, hC1⟩
theorem dX7_image_0 : decode cX7_image 0 = .ok (.aload_n 0, 1) := by decide +kernel
theorem dX7_image_1 : decode cX7_image 1 = .ok (.invokevirtual 103, 3) := by decide +kernel
theorem dX7_image_4 : decode cX7_image 4 = .ok (.ifCond .ne 6, 3) := by decide +kernel
theorem dX7_image_7 : decode cX7_image 7 = .ok (.bipush (-103), 2) := by decide +kernel
theorem dX7_image_9 : decode cX7_image 9 = .ok (.ireturn, 1) := by decide +kernel
theorem dX7_image_10 : decode cX7_image 10 = .ok (.aload_n 0, 1) := by decide +kernel
theorem dX7_image_11 : decode cX7_image 11 = .ok (.getfield 30, 3) := by decide +kernel
theorem dX7_image_14 : decode cX7_image 14 = .ok (.aload_n 0, 1) := by decide +kernel
theorem dX7_image_15 : decode cX7_image 15 = .ok (.getfield 26, 3) := by decide +kernel
theorem dX7_image_18 : decode cX7_image 18 = .ok (.invokevirtual 225, 3) := by decide +kernel
theorem dX7_image_21 : decode cX7_image 21 = .ok (.aload_n 0, 1) := by decide +kernel
theorem dX7_image_22 : decode cX7_image 22 = .ok (.iconst 1, 1) := by decide +kernel
theorem dX7_image_23 : decode cX7_image 23 = .ok (.putfield 89, 3) := by decide +kernel
theorem dX7_image_26 : decode cX7_image 26 = .ok (.aload_n 0, 1) := by decide +kernel
theorem dX7_image_27 : decode cX7_image 27 = .ok (.getfield 26, 3) := by decide +kernel
theorem dX7_image_30 : decode cX7_image 30 = .ok (.getfield 236, 3) := by decide +kernel
theorem dX7_image_33 : decode cX7_image 33 = .ok (.ireturn, 1) := by decide +kernel
set_option maxHeartbeats 4000000 in
set_option maxRecDepth 100000 in
theorem c_X7_image {l : Launch} {g : GW} {a : AT}  (μ : Mm) (hA : RC μ a)  : Con l g yX7_image cX7_image 1 (some .int) 2 [.ref 0] μ (fun r μ' => r = some (.int (fImage a).1) ∧ RC μ' (fImage a).2 ∧ FrC μ μ') := by
  obtain ⟨a1, a2, a3, a4, ⟨b, hb, hcur, hdrf, hB⟩, hS, hK, hD, hW⟩ := id hA
  obtain ⟨r1, r2, r3, r4, r5, r6, r7, r8, r9⟩ := id hS
  obtain ⟨w1, w2, w3, w4, w5, w6⟩ := id hW
  obtain ⟨p1, p2, p3⟩ := id a1
  obtain ⟨hb1, hb2, hb3, hb4, hb5, hb6, hrow⟩ := bkF hb
  have hship : ∀ i, i < 6 → 4 + 1 + 1 + i < 88 ∧ kt (4 + 1 + 1 + i) = 5 := (seaF (Or.inl rfl)).2.2.2.2.2.2
  have hs4 : (4 : Nat) = 4 ∨ (4 : Nat) = 13 ∨ (4 : Nat) = 22 := Or.inl rfl
  refine Con.of [.ref 0] 0 (by decide +kernel) (Nat.le_of_ble_eq_true rfl) rfl ?_
  refine V_aload_n (pc := 0) dX7_image_0 rfl rfl ?_
  refine V_inv0 (pc := 1) (ci := 7) dX7_image_1 ml_X7_103 (by decide) rfl ⟨by decide, rfl⟩ (by first | decide | omega) (Nat.le_of_ble_eq_true rfl) (c_X7_hasBook μ hA) ?_
  rintro _ μ2 ⟨rfl, hμ⟩
  obtain rfl := hμ.symm
  refine V_ifne (pc := 4) (tgt := 10) dX7_image_4 (by decide) (fun h4 => ?_) (fun h4 => ?_)
  · have h4 := of_decide_eq_true (bI_ne h4)
    refine V_aload_n (pc := 10) dX7_image_10 rfl rfl ?_
    refine V_getR (pc := 11) (ci := 7) (j := 3) (k2 := 13) dX7_image_11 fl_X7_30 (fun _ _ _ _ => rfl) (by decide) rfl (rf_7_3 rfl) ?_
    refine V_aload_n (pc := 14) dX7_image_14 rfl rfl ?_
    refine V_getR (pc := 15) (ci := 7) (j := 2) (k2 := 4) dX7_image_15 fl_X7_26 (fun _ _ _ _ => rfl) (by decide) rfl (rf_7_2 rfl) ?_
    refine V_inv1 (pc := 18) (ci := 4) dX7_image_18 ml_X7_225 (by decide) rfl ⟨by decide, rfl⟩ (by first | decide | omega) (Nat.le_of_ble_eq_true rfl) (c_X4_copyFrom μ (Or.inr (Or.inl rfl)) hK hs4 hS (by decide)) ?_
    rintro _ μ1 ⟨rfl, k1, k2⟩
    refine V_aload_n (pc := 21) dX7_image_21 rfl rfl ?_
    refine V_iconst (pc := 22) (v := 1) dX7_image_22 (by decide) ?_
    refine V_putZ (pc := 23) (ci := 7) (j := 10) dX7_image_23 fl_X7_89 (fun _ _ _ _ _ => rfl) rfl rfl (by decide) rfl (Or.inr rfl) ?_
    refine V_aload_n (pc := 26) dX7_image_26 rfl rfl ?_
    refine V_getR (pc := 27) (ci := 7) (j := 2) (k2 := 4) dX7_image_27 fl_X7_26 (fun _ _ _ _ => rfl) (by decide) rfl (rf_7_2 rfl) ?_
    refine V_getI (pc := 30) (ci := 4) (j := 2) dX7_image_30 fl_X7_236 (fun _ _ _ _ => rfl) (by decide) rfl ?_
    refine V_iret (pc := 33) dX7_image_33 rfl ?_
    have e0 : fImage a = (nI (sN (aS a)), setK a true (cal0 (aS a))) := by unfold fImage; rw [if_pos h4]
    rw [e0]
    obtain ⟨τ, hD⟩ := hD
    have n : ∀ k, k < 13 ∨ 21 < k → ¬ seaS 13 k := fun k hk q => by rcases q with z | z <;> omega
    have g3 : ∀ k, k ≠ 0 → (setI μ1 0 10 1).1 k = μ1.1 k := fun k hk => by
      show up2 μ1.1 0 10 _ k = _
      rw [up2_ne hk]
    have fr : FrM (fun k => k = 0 ∨ seaS 13 k) μ (setI μ1 0 10 1) := (k2.wk (fun k hk => Or.inr hk)).set (Or.inl rfl)
    have n2 : ∀ k, k ≠ 0 → k < 13 ∨ 21 < k → ¬ (k = 0 ∨ seaS 13 k) := fun k h0 hk q => q.elim h0 (n k hk)
    refine ⟨by rw [show (setI μ1 0 10 1).1 4 2 = μ.1 4 2 from by rw [fr.1 4 (n2 4 (by decide) (by omega))], r1], ⟨a1.kept fr (n2 1 (by decide) (by omega)) (n2 2 (by decide) (by omega)), by rw [get_ne (by omega), k2.1 0 (n 0 (by omega))]; exact a2, a3, get_eq, ⟨b, hb, by rw [fr.2]; exact hcur, by rw [fr.2]; exact hdrf, hB.kept fr (fun k h1 h2 => n2 k (by omega) (by omega))⟩, hS.kept fr (fun k hk => n2 k (by rcases hk with z | z <;> omega) (by rcases hk with z | z <;> omega)), ?_, ⟨τ, hD.kept fr (fun k hk => n2 k (by rcases hk with z | z <;> omega) (by rcases hk with z | z <;> omega))⟩, hW.kept fr (n2 31 (by decide) (by omega)) (n2 32 (by decide) (by omega))⟩, fr.C (fun k hk => by rcases hk with z | z; omega; exact seaC (Or.inr (Or.inl rfl)) k z)⟩
    exact SeaR.kept (S := fun k => k = 0) k1 (FrM.rf.set rfl) (fun k hk q => by have : k = 0 := q; rcases hk with z | z <;> omega)
  have h4 := of_decide_eq_false (bI_e h4)
  refine V_bipush (pc := 7) (v := (-103)) dX7_image_7 (by decide) ?_
  refine V_iret (pc := 9) dX7_image_9 rfl ?_
  have e0 : fImage a = (-103, a) := by simp [fImage, h4]
  rw [e0]
  exact ⟨rfl, hA, FrC.rf⟩
theorem dX7_restore_0 : decode cX7_restore 0 = .ok (.aload_n 0, 1) := by decide +kernel
theorem dX7_restore_1 : decode cX7_restore 1 = .ok (.getfield 89, 3) := by decide +kernel
theorem dX7_restore_4 : decode cX7_restore 4 = .ok (.ifCond .ne 6, 3) := by decide +kernel
theorem dX7_restore_7 : decode cX7_restore 7 = .ok (.bipush (-103), 2) := by decide +kernel
theorem dX7_restore_9 : decode cX7_restore 9 = .ok (.ireturn, 1) := by decide +kernel
theorem dX7_restore_10 : decode cX7_restore 10 = .ok (.aload_n 0, 1) := by decide +kernel
theorem dX7_restore_11 : decode cX7_restore 11 = .ok (.getfield 26, 3) := by decide +kernel
theorem dX7_restore_14 : decode cX7_restore 14 = .ok (.aload_n 0, 1) := by decide +kernel
theorem dX7_restore_15 : decode cX7_restore 15 = .ok (.getfield 30, 3) := by decide +kernel
theorem dX7_restore_18 : decode cX7_restore 18 = .ok (.invokevirtual 225, 3) := by decide +kernel
theorem dX7_restore_21 : decode cX7_restore 21 = .ok (.aload_n 0, 1) := by decide +kernel
theorem dX7_restore_22 : decode cX7_restore 22 = .ok (.getfield 39, 3) := by decide +kernel
theorem dX7_restore_25 : decode cX7_restore 25 = .ok (.invokevirtual 86, 3) := by decide +kernel
theorem dX7_restore_28 : decode cX7_restore 28 = .ok (.aload_n 0, 1) := by decide +kernel
theorem dX7_restore_29 : decode cX7_restore 29 = .ok (.getfield 26, 3) := by decide +kernel
theorem dX7_restore_32 : decode cX7_restore 32 = .ok (.getfield 236, 3) := by decide +kernel
theorem dX7_restore_35 : decode cX7_restore 35 = .ok (.ireturn, 1) := by decide +kernel
set_option maxHeartbeats 4000000 in
set_option maxRecDepth 100000 in
theorem c_X7_restore {l : Launch} {g : GW} {a : AT}  (μ : Mm) (hA : RC μ a)  : Con l g yX7_restore cX7_restore 1 (some .int) 2 [.ref 0] μ (fun r μ' => r = some (.int (fRestore a).1) ∧ RC μ' (fRestore a).2 ∧ FrC μ μ') := by
  obtain ⟨a1, a2, a3, a4, ⟨b, hb, hcur, hdrf, hB⟩, hS, hK, hD, hW⟩ := id hA
  obtain ⟨r1, r2, r3, r4, r5, r6, r7, r8, r9⟩ := id hS
  obtain ⟨w1, w2, w3, w4, w5, w6⟩ := id hW
  obtain ⟨p1, p2, p3⟩ := id a1
  obtain ⟨hb1, hb2, hb3, hb4, hb5, hb6, hrow⟩ := bkF hb
  have hship : ∀ i, i < 6 → 4 + 1 + 1 + i < 88 ∧ kt (4 + 1 + 1 + i) = 5 := (seaF (Or.inl rfl)).2.2.2.2.2.2
  have hs4 : (4 : Nat) = 4 ∨ (4 : Nat) = 13 ∨ (4 : Nat) = 22 := Or.inl rfl
  refine Con.of [.ref 0] 0 (by decide +kernel) (Nat.le_of_ble_eq_true rfl) rfl ?_
  refine V_aload_n (pc := 0) dX7_restore_0 rfl rfl ?_
  refine V_getI (pc := 1) (ci := 7) (j := 10) dX7_restore_1 fl_X7_89 (fun _ _ _ _ => rfl) (by decide) rfl ?_
  rw [a4]
  refine V_ifne (pc := 4) (tgt := 10) dX7_restore_4 (by decide) (fun h4 => ?_) (fun h4 => ?_)
  · have h4 := bI_ne h4
    refine V_aload_n (pc := 10) dX7_restore_10 rfl rfl ?_
    refine V_getR (pc := 11) (ci := 7) (j := 2) (k2 := 4) dX7_restore_11 fl_X7_26 (fun _ _ _ _ => rfl) (by decide) rfl (rf_7_2 rfl) ?_
    refine V_aload_n (pc := 14) dX7_restore_14 rfl rfl ?_
    refine V_getR (pc := 15) (ci := 7) (j := 3) (k2 := 13) dX7_restore_15 fl_X7_30 (fun _ _ _ _ => rfl) (by decide) rfl (rf_7_3 rfl) ?_
    refine V_inv1 (pc := 18) (ci := 4) dX7_restore_18 ml_X7_225 (by decide) rfl ⟨by decide, rfl⟩ (by first | decide | omega) (Nat.le_of_ble_eq_true rfl) (c_X4_copyFrom μ hs4 hS (Or.inr (Or.inl rfl)) hK (by decide)) ?_
    rintro _ μ1 ⟨rfl, k1, k2⟩
    have hA1 := hA.sea k2 k1
    refine V_aload_n (pc := 21) dX7_restore_21 rfl rfl ?_
    refine V_getR (pc := 22) (ci := 7) (j := 5) (k2 := 31) dX7_restore_22 fl_X7_39 (fun _ _ _ _ => rfl) (by decide) rfl (rf_7_5 rfl) ?_
    refine V_inv0 (pc := 25) (ci := 6) dX7_restore_25 ml_X7_86 (by decide) rfl ⟨by decide, rfl⟩ (by first | decide | omega) (Nat.le_of_ble_eq_true rfl) (c_X6_end μ1 hA1.2.2.2.2.2.2.2.2) ?_
    rintro _ μ2 ⟨rfl, m1, m2⟩
    have hA2 := hA1.wk (m2.wk (fun k hk => Or.inl hk)) m1
    refine V_aload_n (pc := 28) dX7_restore_28 rfl rfl ?_
    refine V_getR (pc := 29) (ci := 7) (j := 2) (k2 := 4) dX7_restore_29 fl_X7_26 (fun _ _ _ _ => rfl) (by decide) rfl (rf_7_2 rfl) ?_
    refine V_getI (pc := 32) (ci := 4) (j := 2) dX7_restore_32 fl_X7_236 (fun _ _ _ _ => rfl) (by decide) rfl ?_
    refine V_iret (pc := 35) dX7_restore_35 rfl ?_
    have e0 : fRestore a = (nI (sN (aKs a)), setW (setA a (cal0 (aKs a))) false (aWk a) 0 (aWp a)) := by unfold fRestore; rw [h4]; rfl
    rw [e0]
    exact ⟨by rw [hA2.2.2.2.2.2.1.1]; rfl, hA2, (k2.C (seaC (Or.inl rfl))).tr (m2.C (fun k hk => by have : k = 31 := hk; omega))⟩
  have h4 := bI_e h4
  refine V_bipush (pc := 7) (v := (-103)) dX7_restore_7 (by decide) ?_
  refine V_iret (pc := 9) dX7_restore_9 rfl ?_
  have e0 : fRestore a = (-103, a) := by simp [fRestore, h4]
  rw [e0]
  exact ⟨rfl, hA, FrC.rf⟩
