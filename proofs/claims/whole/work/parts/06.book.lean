theorem dX7_isName_0 : decode cX7_isName 0 = .ok (.iload_n 0, 1) := by decide +kernel
theorem dX7_isName_1 : decode cX7_isName 1 = .ok (.ifCond .lt 13, 3) := by decide +kernel
theorem dX7_isName_4 : decode cX7_isName 4 = .ok (.iload_n 0, 1) := by decide +kernel
theorem dX7_isName_5 : decode cX7_isName 5 = .ok (.bipush 6, 2) := by decide +kernel
theorem dX7_isName_7 : decode cX7_isName 7 = .ok (.if_icmp .ge 7, 3) := by decide +kernel
theorem dX7_isName_10 : decode cX7_isName 10 = .ok (.iconst 1, 1) := by decide +kernel
theorem dX7_isName_11 : decode cX7_isName 11 = .ok (.goto 4, 3) := by decide +kernel
theorem dX7_isName_14 : decode cX7_isName 14 = .ok (.iconst 0, 1) := by decide +kernel
theorem dX7_isName_15 : decode cX7_isName 15 = .ok (.ireturn, 1) := by decide +kernel
set_option maxHeartbeats 4000000 in
set_option maxRecDepth 100000 in
theorem c_X7_isName {l : Launch} {g : GW} {x : Int32} (μ : Mm)  : Con l g yX7_isName cX7_isName 1 (some .boolean) 0 [.int x] μ (fun r μ' => r = some (.int (bI (inR x 6))) ∧ μ' = μ) := by
  refine Con.of [.int x] 0 (by decide +kernel) (Nat.le_of_ble_eq_true rfl) rfl ?_
  refine V_iload_n (pc := 0) dX7_isName_0 rfl rfl ?_
  refine V_iflt (pc := 1) (tgt := 14) dX7_isName_1 (by decide) (fun h1 => ?_) (fun h1 => ?_)
  · refine V_iconst (pc := 14) (v := 0) dX7_isName_14 (by decide) ?_
    refine V_zret (pc := 15) dX7_isName_15 rfl (by first | exact Or.inl rfl | exact Or.inr rfl | assumption) ?_
    exact ⟨by first | exact congrArg (fun z => some (Value.int z)) (inR_t (by assumption) (by assumption)) | exact congrArg (fun z => some (Value.int z)) (inR_f1 (by assumption)) | exact congrArg (fun z => some (Value.int z)) (inR_f2 (by assumption)), rfl⟩
  refine V_iload_n (pc := 4) dX7_isName_4 rfl rfl ?_
  refine V_bipush (pc := 5) (v := 6) dX7_isName_5 (by decide) ?_
  refine V_icmpge (pc := 7) (tgt := 14) dX7_isName_7 (by decide) (fun h7 => ?_) (fun h7 => ?_)
  · refine V_iconst (pc := 14) (v := 0) dX7_isName_14 (by decide) ?_
    refine V_zret (pc := 15) dX7_isName_15 rfl (by first | exact Or.inl rfl | exact Or.inr rfl | assumption) ?_
    exact ⟨by first | exact congrArg (fun z => some (Value.int z)) (inR_t (by assumption) (by assumption)) | exact congrArg (fun z => some (Value.int z)) (inR_f1 (by assumption)) | exact congrArg (fun z => some (Value.int z)) (inR_f2 (by assumption)), rfl⟩
  refine V_iconst (pc := 10) (v := 1) dX7_isName_10 (by decide) ?_
  refine V_goto (pc := 11) (tgt := 15) dX7_isName_11 (by decide) ?_
  refine V_zret (pc := 15) dX7_isName_15 rfl (by first | exact Or.inl rfl | exact Or.inr rfl | assumption) ?_
  exact ⟨by first | exact congrArg (fun z => some (Value.int z)) (inR_t (by assumption) (by assumption)) | exact congrArg (fun z => some (Value.int z)) (inR_f1 (by assumption)) | exact congrArg (fun z => some (Value.int z)) (inR_f2 (by assumption)), rfl⟩
theorem dX7_isSign_0 : decode cX7_isSign 0 = .ok (.iload_n 0, 1) := by decide +kernel
theorem dX7_isSign_1 : decode cX7_isSign 1 = .ok (.ifCond .lt 12, 3) := by decide +kernel
theorem dX7_isSign_4 : decode cX7_isSign 4 = .ok (.iload_n 0, 1) := by decide +kernel
theorem dX7_isSign_5 : decode cX7_isSign 5 = .ok (.iconst 3, 1) := by decide +kernel
theorem dX7_isSign_6 : decode cX7_isSign 6 = .ok (.if_icmp .ge 7, 3) := by decide +kernel
theorem dX7_isSign_9 : decode cX7_isSign 9 = .ok (.iconst 1, 1) := by decide +kernel
theorem dX7_isSign_10 : decode cX7_isSign 10 = .ok (.goto 4, 3) := by decide +kernel
theorem dX7_isSign_13 : decode cX7_isSign 13 = .ok (.iconst 0, 1) := by decide +kernel
theorem dX7_isSign_14 : decode cX7_isSign 14 = .ok (.ireturn, 1) := by decide +kernel
set_option maxHeartbeats 4000000 in
set_option maxRecDepth 100000 in
theorem c_X7_isSign {l : Launch} {g : GW} {x : Int32} (μ : Mm)  : Con l g yX7_isSign cX7_isSign 1 (some .boolean) 0 [.int x] μ (fun r μ' => r = some (.int (bI (inR x 3))) ∧ μ' = μ) := by
  refine Con.of [.int x] 0 (by decide +kernel) (Nat.le_of_ble_eq_true rfl) rfl ?_
  refine V_iload_n (pc := 0) dX7_isSign_0 rfl rfl ?_
  refine V_iflt (pc := 1) (tgt := 13) dX7_isSign_1 (by decide) (fun h1 => ?_) (fun h1 => ?_)
  · refine V_iconst (pc := 13) (v := 0) dX7_isSign_13 (by decide) ?_
    refine V_zret (pc := 14) dX7_isSign_14 rfl (by first | exact Or.inl rfl | exact Or.inr rfl | assumption) ?_
    exact ⟨by first | exact congrArg (fun z => some (Value.int z)) (inR_t (by assumption) (by assumption)) | exact congrArg (fun z => some (Value.int z)) (inR_f1 (by assumption)) | exact congrArg (fun z => some (Value.int z)) (inR_f2 (by assumption)), rfl⟩
  refine V_iload_n (pc := 4) dX7_isSign_4 rfl rfl ?_
  refine V_iconst (pc := 5) (v := 3) dX7_isSign_5 (by decide) ?_
  refine V_icmpge (pc := 6) (tgt := 13) dX7_isSign_6 (by decide) (fun h6 => ?_) (fun h6 => ?_)
  · refine V_iconst (pc := 13) (v := 0) dX7_isSign_13 (by decide) ?_
    refine V_zret (pc := 14) dX7_isSign_14 rfl (by first | exact Or.inl rfl | exact Or.inr rfl | assumption) ?_
    exact ⟨by first | exact congrArg (fun z => some (Value.int z)) (inR_t (by assumption) (by assumption)) | exact congrArg (fun z => some (Value.int z)) (inR_f1 (by assumption)) | exact congrArg (fun z => some (Value.int z)) (inR_f2 (by assumption)), rfl⟩
  refine V_iconst (pc := 9) (v := 1) dX7_isSign_9 (by decide) ?_
  refine V_goto (pc := 10) (tgt := 14) dX7_isSign_10 (by decide) ?_
  refine V_zret (pc := 14) dX7_isSign_14 rfl (by first | exact Or.inl rfl | exact Or.inr rfl | assumption) ?_
  exact ⟨by first | exact congrArg (fun z => some (Value.int z)) (inR_t (by assumption) (by assumption)) | exact congrArg (fun z => some (Value.int z)) (inR_f1 (by assumption)) | exact congrArg (fun z => some (Value.int z)) (inR_f2 (by assumption)), rfl⟩
theorem dX7_isKind_0 : decode cX7_isKind 0 = .ok (.iload_n 0, 1) := by decide +kernel
theorem dX7_isKind_1 : decode cX7_isKind 1 = .ok (.ifCond .lt 12, 3) := by decide +kernel
theorem dX7_isKind_4 : decode cX7_isKind 4 = .ok (.iload_n 0, 1) := by decide +kernel
theorem dX7_isKind_5 : decode cX7_isKind 5 = .ok (.iconst 5, 1) := by decide +kernel
theorem dX7_isKind_6 : decode cX7_isKind 6 = .ok (.if_icmp .ge 7, 3) := by decide +kernel
theorem dX7_isKind_9 : decode cX7_isKind 9 = .ok (.iconst 1, 1) := by decide +kernel
theorem dX7_isKind_10 : decode cX7_isKind 10 = .ok (.goto 4, 3) := by decide +kernel
theorem dX7_isKind_13 : decode cX7_isKind 13 = .ok (.iconst 0, 1) := by decide +kernel
theorem dX7_isKind_14 : decode cX7_isKind 14 = .ok (.ireturn, 1) := by decide +kernel
set_option maxHeartbeats 4000000 in
set_option maxRecDepth 100000 in
theorem c_X7_isKind {l : Launch} {g : GW} {x : Int32} (μ : Mm)  : Con l g yX7_isKind cX7_isKind 1 (some .boolean) 0 [.int x] μ (fun r μ' => r = some (.int (bI (inR x 5))) ∧ μ' = μ) := by
  refine Con.of [.int x] 0 (by decide +kernel) (Nat.le_of_ble_eq_true rfl) rfl ?_
  refine V_iload_n (pc := 0) dX7_isKind_0 rfl rfl ?_
  refine V_iflt (pc := 1) (tgt := 13) dX7_isKind_1 (by decide) (fun h1 => ?_) (fun h1 => ?_)
  · refine V_iconst (pc := 13) (v := 0) dX7_isKind_13 (by decide) ?_
    refine V_zret (pc := 14) dX7_isKind_14 rfl (by first | exact Or.inl rfl | exact Or.inr rfl | assumption) ?_
    exact ⟨by first | exact congrArg (fun z => some (Value.int z)) (inR_t (by assumption) (by assumption)) | exact congrArg (fun z => some (Value.int z)) (inR_f1 (by assumption)) | exact congrArg (fun z => some (Value.int z)) (inR_f2 (by assumption)), rfl⟩
  refine V_iload_n (pc := 4) dX7_isKind_4 rfl rfl ?_
  refine V_iconst (pc := 5) (v := 5) dX7_isKind_5 (by decide) ?_
  refine V_icmpge (pc := 6) (tgt := 13) dX7_isKind_6 (by decide) (fun h6 => ?_) (fun h6 => ?_)
  · refine V_iconst (pc := 13) (v := 0) dX7_isKind_13 (by decide) ?_
    refine V_zret (pc := 14) dX7_isKind_14 rfl (by first | exact Or.inl rfl | exact Or.inr rfl | assumption) ?_
    exact ⟨by first | exact congrArg (fun z => some (Value.int z)) (inR_t (by assumption) (by assumption)) | exact congrArg (fun z => some (Value.int z)) (inR_f1 (by assumption)) | exact congrArg (fun z => some (Value.int z)) (inR_f2 (by assumption)), rfl⟩
  refine V_iconst (pc := 9) (v := 1) dX7_isKind_9 (by decide) ?_
  refine V_goto (pc := 10) (tgt := 14) dX7_isKind_10 (by decide) ?_
  refine V_zret (pc := 14) dX7_isKind_14 rfl (by first | exact Or.inl rfl | exact Or.inr rfl | assumption) ?_
  exact ⟨by first | exact congrArg (fun z => some (Value.int z)) (inR_t (by assumption) (by assumption)) | exact congrArg (fun z => some (Value.int z)) (inR_f1 (by assumption)) | exact congrArg (fun z => some (Value.int z)) (inR_f2 (by assumption)), rfl⟩
theorem dX0_favours_0 : decode cX0_favours 0 = .ok (.iload_n 1, 1) := by decide +kernel
theorem dX0_favours_1 : decode cX0_favours 1 = .ok (.iconst (-1), 1) := by decide +kernel
theorem dX0_favours_2 : decode cX0_favours 2 = .ok (.if_icmp .ne 20, 3) := by decide +kernel
theorem dX0_favours_5 : decode cX0_favours 5 = .ok (.iload_n 2, 1) := by decide +kernel
theorem dX0_favours_6 : decode cX0_favours 6 = .ok (.ifCond .eq 8, 3) := by decide +kernel
theorem dX0_favours_9 : decode cX0_favours 9 = .ok (.iload_n 2, 1) := by decide +kernel
theorem dX0_favours_10 : decode cX0_favours 10 = .ok (.iconst 1, 1) := by decide +kernel
theorem dX0_favours_11 : decode cX0_favours 11 = .ok (.if_icmp .ne 7, 3) := by decide +kernel
theorem dX0_favours_14 : decode cX0_favours 14 = .ok (.iconst 1, 1) := by decide +kernel
theorem dX0_favours_15 : decode cX0_favours 15 = .ok (.goto 22, 3) := by decide +kernel
theorem dX0_favours_18 : decode cX0_favours 18 = .ok (.iconst 0, 1) := by decide +kernel
theorem dX0_favours_19 : decode cX0_favours 19 = .ok (.goto 18, 3) := by decide +kernel
theorem dX0_favours_22 : decode cX0_favours 22 = .ok (.aload_n 0, 1) := by decide +kernel
theorem dX0_favours_23 : decode cX0_favours 23 = .ok (.getfield 16, 3) := by decide +kernel
theorem dX0_favours_26 : decode cX0_favours 26 = .ok (.iload_n 1, 1) := by decide +kernel
theorem dX0_favours_27 : decode cX0_favours 27 = .ok (.iaload, 1) := by decide +kernel
theorem dX0_favours_28 : decode cX0_favours 28 = .ok (.iload_n 2, 1) := by decide +kernel
theorem dX0_favours_29 : decode cX0_favours 29 = .ok (.if_icmp .ne 7, 3) := by decide +kernel
theorem dX0_favours_32 : decode cX0_favours 32 = .ok (.iconst 1, 1) := by decide +kernel
theorem dX0_favours_33 : decode cX0_favours 33 = .ok (.goto 4, 3) := by decide +kernel
theorem dX0_favours_36 : decode cX0_favours 36 = .ok (.iconst 0, 1) := by decide +kernel
theorem dX0_favours_37 : decode cX0_favours 37 = .ok (.ireturn, 1) := by decide +kernel
set_option maxHeartbeats 4000000 in
set_option maxRecDepth 100000 in
theorem c_X0_favours {l : Launch} {g : GW} {b k w : Nat} {tn : Nat → Nat → Nat} {ow : Nat → Nat} (μ : Mm) (hb : b = 49 ∨ b = 57) (hB : BkR μ b tn ow) (hk : k ≤ 6) (hw : w ≤ 4) : Con l g yX0_favours cX0_favours 3 (some .boolean) 0 [.ref b, .int (cI k), .int (nI w)] μ (fun r μ' => r = some (.int (bI (fav ow k w))) ∧ μ' = μ) := by
  obtain ⟨hb1, hb2, hb3, hb4, hb5, hb6, hrow⟩ := bkF hb
  refine Con.of [.ref b, .int (cI k), .int (nI w)] 0 (by decide +kernel) (Nat.le_of_ble_eq_true rfl) rfl ?_
  refine V_iload_n (pc := 0) dX0_favours_0 rfl rfl ?_
  refine V_iconst (pc := 1) (v := (-1)) dX0_favours_1 (by decide) ?_
  refine V_icmpne (pc := 2) (tgt := 22) dX0_favours_2 (by decide) (fun h2 => ?_) (fun h2 => ?_)
  · obtain ⟨k, rfl⟩ := cI_pos (by omega) h2
    refine V_aload_n (pc := 22) dX0_favours_22 rfl rfl ?_
    refine V_getR (pc := 23) (ci := 0) (j := 1) (k2 := (b + 7)) dX0_favours_23 fl_X0_16 (fun _ _ _ _ => rfl) (by first | decide | omega) (by first | rfl | assumption | exact (hrow _ (by omega)).2.1 | decide) (rf_0_1 (by first | rfl | assumption | exact (hrow _ (by omega)).2.1 | decide)) ?_
    refine V_iload_n (pc := 26) dX0_favours_26 rfl rfl ?_
    refine V_iald (pc := 27) (j := k) dX0_favours_27 (by first | decide | omega) (by first | rfl | assumption | exact (hrow _ (by omega)).2.1 | decide) (cI_s k) (by first | decide | assumption | omega) ?_
    refine V_iload_n (pc := 28) dX0_favours_28 rfl rfl ?_
    refine V_icmpne (pc := 29) (tgt := 36) dX0_favours_29 (by decide) (fun h29 => ?_) (fun h29 => ?_)
    · rw [hB.2.1 k (by omega), ← cI_s w, cI_eq (by have := hB.2.2.1 k (by omega); omega) (by omega)] at h29
      refine V_iconst (pc := 36) (v := 0) dX0_favours_36 (by decide) ?_
      refine V_zret (pc := 37) dX0_favours_37 rfl (by first | exact Or.inl rfl | exact Or.inr rfl | assumption) ?_
      exact ⟨congrArg (fun z => some (Value.int z)) (by simp_all [fav, bI]), rfl⟩
    rw [hB.2.1 k (by omega), ← cI_s w, cI_eq (by have := hB.2.2.1 k (by omega); omega) (by omega)] at h29
    refine V_iconst (pc := 32) (v := 1) dX0_favours_32 (by decide) ?_
    refine V_goto (pc := 33) (tgt := 37) dX0_favours_33 (by decide) ?_
    refine V_zret (pc := 37) dX0_favours_37 rfl (by first | exact Or.inl rfl | exact Or.inr rfl | assumption) ?_
    exact ⟨congrArg (fun z => some (Value.int z)) (by simp_all [fav, bI]), rfl⟩
  have h2 := (cI_m1 (by omega)).mp h2; subst h2
  refine V_iload_n (pc := 5) dX0_favours_5 rfl rfl ?_
  refine V_ifeq (pc := 6) (tgt := 14) dX0_favours_6 (by decide) (fun h6 => ?_) (fun h6 => ?_)
  · have h6 := (nI_eq (a := w) (b := 0) (by omega) (by decide)).mp h6
    refine V_iconst (pc := 14) (v := 1) dX0_favours_14 (by decide) ?_
    refine V_goto (pc := 15) (tgt := 37) dX0_favours_15 (by decide) ?_
    refine V_zret (pc := 37) dX0_favours_37 rfl (by first | exact Or.inl rfl | exact Or.inr rfl | assumption) ?_
    exact ⟨congrArg (fun z => some (Value.int z)) (by simp_all [fav, bI]), rfl⟩
  have h6 := mt (nI_eq (a := w) (b := 0) (by omega) (by decide)).mpr h6
  refine V_iload_n (pc := 9) dX0_favours_9 rfl rfl ?_
  refine V_iconst (pc := 10) (v := 1) dX0_favours_10 (by decide) ?_
  refine V_icmpne (pc := 11) (tgt := 18) dX0_favours_11 (by decide) (fun h11 => ?_) (fun h11 => ?_)
  · have h11 := mt (nI_eq (a := w) (b := 1) (by omega) (by decide)).mpr h11
    refine V_iconst (pc := 18) (v := 0) dX0_favours_18 (by decide) ?_
    refine V_goto (pc := 19) (tgt := 37) dX0_favours_19 (by decide) ?_
    refine V_zret (pc := 37) dX0_favours_37 rfl (by first | exact Or.inl rfl | exact Or.inr rfl | assumption) ?_
    exact ⟨congrArg (fun z => some (Value.int z)) (by simp_all [fav, bI]), rfl⟩
  have h11 := (nI_eq (a := w) (b := 1) (by omega) (by decide)).mp h11
  refine V_iconst (pc := 14) (v := 1) dX0_favours_14 (by decide) ?_
  refine V_goto (pc := 15) (tgt := 37) dX0_favours_15 (by decide) ?_
  refine V_zret (pc := 37) dX0_favours_37 rfl (by first | exact Or.inl rfl | exact Or.inr rfl | assumption) ?_
  exact ⟨congrArg (fun z => some (Value.int z)) (by simp_all [fav, bI]), rfl⟩
theorem dX0_strengthInAll_0 : decode cX0_strengthInAll 0 = .ok (.iconst 0, 1) := by decide +kernel
theorem dX0_strengthInAll_1 : decode cX0_strengthInAll 1 = .ok (.istore_n 2, 1) := by decide +kernel
theorem dX0_strengthInAll_2 : decode cX0_strengthInAll 2 = .ok (.iconst 0, 1) := by decide +kernel
theorem dX0_strengthInAll_3 : decode cX0_strengthInAll 3 = .ok (.istore_n 3, 1) := by decide +kernel
theorem dX0_strengthInAll_4 : decode cX0_strengthInAll 4 = .ok (.iload_n 3, 1) := by decide +kernel
theorem dX0_strengthInAll_5 : decode cX0_strengthInAll 5 = .ok (.iconst 3, 1) := by decide +kernel
theorem dX0_strengthInAll_6 : decode cX0_strengthInAll 6 = .ok (.if_icmp .ge 20, 3) := by decide +kernel
theorem dX0_strengthInAll_9 : decode cX0_strengthInAll 9 = .ok (.iload_n 2, 1) := by decide +kernel
theorem dX0_strengthInAll_10 : decode cX0_strengthInAll 10 = .ok (.aload_n 0, 1) := by decide +kernel
theorem dX0_strengthInAll_11 : decode cX0_strengthInAll 11 = .ok (.getfield 11, 3) := by decide +kernel
theorem dX0_strengthInAll_14 : decode cX0_strengthInAll 14 = .ok (.iload_n 1, 1) := by decide +kernel
theorem dX0_strengthInAll_15 : decode cX0_strengthInAll 15 = .ok (.aaload, 1) := by decide +kernel
theorem dX0_strengthInAll_16 : decode cX0_strengthInAll 16 = .ok (.iload_n 3, 1) := by decide +kernel
theorem dX0_strengthInAll_17 : decode cX0_strengthInAll 17 = .ok (.iaload, 1) := by decide +kernel
theorem dX0_strengthInAll_18 : decode cX0_strengthInAll 18 = .ok (.iadd, 1) := by decide +kernel
theorem dX0_strengthInAll_19 : decode cX0_strengthInAll 19 = .ok (.istore_n 2, 1) := by decide +kernel
theorem dX0_strengthInAll_20 : decode cX0_strengthInAll 20 = .ok (.iinc 3 1, 3) := by decide +kernel
theorem dX0_strengthInAll_23 : decode cX0_strengthInAll 23 = .ok (.goto (-19), 3) := by decide +kernel
theorem dX0_strengthInAll_26 : decode cX0_strengthInAll 26 = .ok (.iload_n 2, 1) := by decide +kernel
theorem dX0_strengthInAll_27 : decode cX0_strengthInAll 27 = .ok (.ireturn, 1) := by decide +kernel
set_option maxHeartbeats 4000000 in
set_option maxRecDepth 100000 in
theorem c_X0_strengthInAll {l : Launch} {g : GW} {b w : Nat} {tn : Nat → Nat → Nat} {ow : Nat → Nat} (μ : Mm) (hb : b = 49 ∨ b = 57) (hB : BkR μ b tn ow) (hw : w ≤ 4) : Con l g yX0_strengthInAll cX0_strengthInAll 4 (some .int) 0 [.ref b, .int (nI w)] μ (fun r μ' => r = some (.int (nI (sumT tn w 3))) ∧ μ' = μ) := by
  obtain ⟨hb1, hb2, hb3, hb4, hb5, hb6, hrow⟩ := bkF hb
  have hr := hrow w (by omega)
  refine Con.of [.ref b, .int (nI w), .null, .null] 2 (by decide +kernel) (Nat.le_of_ble_eq_true rfl) rfl ?_
  refine V_iconst (pc := 0) (v := 0) dX0_strengthInAll_0 (by decide) ?_
  refine V_istore2 (pc := 1) dX0_strengthInAll_1 (by decide) rfl ?_
  refine V_iconst (pc := 2) (v := 0) dX0_strengthInAll_2 (by decide) ?_
  refine V_istore3 (pc := 3) dX0_strengthInAll_3 (by decide) rfl ?_
  have loop : ∀ (n i : Nat) (acc : Int32), i ≤ 3 → 3 < i + n → (acc = nI (sumT tn w i)) → V l g RX0 cX0_strengthInAll 4 (some .int) 0 4 [.ref b, .int (nI w), .int acc, .int (nI i)] [] μ (fun r μ' => r = some (.int (nI (sumT tn w 3))) ∧ μ' = μ) := by
    intro n
    induction n with
    | zero => intro i acc h1 h2; exact absurd h2 (by omega)
    | succ n ih =>
      intro i acc hle hfu hacc
      refine V_iload_n (pc := 4) dX0_strengthInAll_4 rfl rfl ?_
      refine V_iconst (pc := 5) (v := 3) dX0_strengthInAll_5 (by decide) ?_
      refine V_icmpge (pc := 6) (tgt := 26) dX0_strengthInAll_6 (by decide) (fun h6 => ?_) (fun h6 => ?_)
      · have h6 := (nI_leI (a := 3) (b := i) (by decide) (by omega)).mp h6; obtain rfl : i = 3 := by omega
        refine V_iload_n (pc := 26) dX0_strengthInAll_26 rfl rfl ?_
        refine V_iret (pc := 27) dX0_strengthInAll_27 rfl ?_
        exact ⟨by rw [hacc], rfl⟩
      have hlt : i < 3 := nI_l3 (a := 3) (by decide) (by omega) h6
      refine V_iload_n (pc := 9) dX0_strengthInAll_9 rfl rfl ?_
      refine V_aload_n (pc := 10) dX0_strengthInAll_10 rfl rfl ?_
      refine V_getR (pc := 11) (ci := 0) (j := 0) (k2 := (b + 1)) dX0_strengthInAll_11 fl_X0_11 (fun _ _ _ _ => rfl) (by first | decide | omega) (by first | rfl | assumption | exact (hrow _ (by omega)).2.1 | decide) (rf_0_0 (by first | rfl | assumption | exact (hrow _ (by omega)).2.1 | decide)) ?_
      refine V_iload_n (pc := 14) dX0_strengthInAll_14 rfl rfl ?_
      refine V_aald15 (pc := 15) (j := w) dX0_strengthInAll_15 (by first | decide | omega) (by first | rfl | assumption | exact (hrow _ (by omega)).2.1 | decide) rfl (by omega) ?_
      refine V_iload_n (pc := 16) dX0_strengthInAll_16 rfl rfl ?_
      refine V_iald (pc := 17) (j := i) dX0_strengthInAll_17 (by first | decide | omega) (by first | rfl | assumption | exact (hrow _ (by omega)).2.1 | decide) rfl (by omega) ?_
      refine V_iadd (pc := 18) dX0_strengthInAll_18 ?_
      refine V_istore2 (pc := 19) dX0_strengthInAll_19 (by decide) rfl ?_
      refine V_iinc3 (pc := 20) (v := nI (i + 1)) dX0_strengthInAll_20 (nI_1 i) (by decide) rfl ?_
      refine V_goto (pc := 23) (tgt := 4) dX0_strengthInAll_23 (by decide) ?_
      exact ih (i + 1) _ (by omega) (by omega) (by rw [hacc, hB.1 w i (by omega) hlt, nI_add]; rfl)
  exact loop (3 + 1) 0 _ (by omega) (by omega) rfl
theorem dX0_strongest_0 : decode cX0_strongest 0 = .ok (.iconst 0, 1) := by decide +kernel
theorem dX0_strongest_1 : decode cX0_strongest 1 = .ok (.istore_n 2, 1) := by decide +kernel
theorem dX0_strongest_2 : decode cX0_strongest 2 = .ok (.iconst 0, 1) := by decide +kernel
theorem dX0_strongest_3 : decode cX0_strongest 3 = .ok (.istore_n 3, 1) := by decide +kernel
theorem dX0_strongest_4 : decode cX0_strongest 4 = .ok (.iload_n 3, 1) := by decide +kernel
theorem dX0_strongest_5 : decode cX0_strongest 5 = .ok (.iconst 4, 1) := by decide +kernel
theorem dX0_strongest_6 : decode cX0_strongest 6 = .ok (.if_icmp .gt 22, 3) := by decide +kernel
theorem dX0_strongest_9 : decode cX0_strongest 9 = .ok (.iload_n 2, 1) := by decide +kernel
theorem dX0_strongest_10 : decode cX0_strongest 10 = .ok (.aload_n 0, 1) := by decide +kernel
theorem dX0_strongest_11 : decode cX0_strongest 11 = .ok (.getfield 11, 3) := by decide +kernel
theorem dX0_strongest_14 : decode cX0_strongest 14 = .ok (.iload_n 3, 1) := by decide +kernel
theorem dX0_strongest_15 : decode cX0_strongest 15 = .ok (.aaload, 1) := by decide +kernel
theorem dX0_strongest_16 : decode cX0_strongest 16 = .ok (.iload_n 1, 1) := by decide +kernel
theorem dX0_strongest_17 : decode cX0_strongest 17 = .ok (.iaload, 1) := by decide +kernel
theorem dX0_strongest_18 : decode cX0_strongest 18 = .ok (.invokestatic 37, 3) := by decide +kernel
theorem dX0_strongest_21 : decode cX0_strongest 21 = .ok (.istore_n 2, 1) := by decide +kernel
theorem dX0_strongest_22 : decode cX0_strongest 22 = .ok (.iinc 3 1, 3) := by decide +kernel
theorem dX0_strongest_25 : decode cX0_strongest 25 = .ok (.goto (-21), 3) := by decide +kernel
theorem dX0_strongest_28 : decode cX0_strongest 28 = .ok (.iload_n 2, 1) := by decide +kernel
theorem dX0_strongest_29 : decode cX0_strongest 29 = .ok (.ireturn, 1) := by decide +kernel
set_option maxHeartbeats 4000000 in
set_option maxRecDepth 100000 in
theorem c_X0_strongest {l : Launch} {g : GW} {b s : Nat} {tn : Nat → Nat → Nat} {ow : Nat → Nat} (μ : Mm) (hb : b = 49 ∨ b = 57) (hB : BkR μ b tn ow) (hs : s ≤ 2) : Con l g yX0_strongest cX0_strongest 4 (some .int) 1 [.ref b, .int (nI s)] μ (fun r μ' => r = some (.int (nI (maxT tn s 5))) ∧ μ' = μ) := by
  obtain ⟨hb1, hb2, hb3, hb4, hb5, hb6, hrow⟩ := bkF hb
  refine Con.of [.ref b, .int (nI s), .null, .null] 2 (by decide +kernel) (Nat.le_of_ble_eq_true rfl) rfl ?_
  refine V_iconst (pc := 0) (v := 0) dX0_strongest_0 (by decide) ?_
  refine V_istore2 (pc := 1) dX0_strongest_1 (by decide) rfl ?_
  refine V_iconst (pc := 2) (v := 0) dX0_strongest_2 (by decide) ?_
  refine V_istore3 (pc := 3) dX0_strongest_3 (by decide) rfl ?_
  have loop : ∀ (n i : Nat) (acc : Int32), i ≤ 5 → 5 < i + n → (acc = nI (maxT tn s i)) → V l g RX0 cX0_strongest 4 (some .int) 1 4 [.ref b, .int (nI s), .int acc, .int (nI i)] [] μ (fun r μ' => r = some (.int (nI (maxT tn s 5))) ∧ μ' = μ) := by
    intro n
    induction n with
    | zero => intro i acc h1 h2; exact absurd h2 (by omega)
    | succ n ih =>
      intro i acc hle hfu hacc
      refine V_iload_n (pc := 4) dX0_strongest_4 rfl rfl ?_
      refine V_iconst (pc := 5) (v := 4) dX0_strongest_5 (by decide) ?_
      refine V_icmpgt (pc := 6) (tgt := 28) dX0_strongest_6 (by decide) (fun h6 => ?_) (fun h6 => ?_)
      · have h6 := (nI_ltI (a := 4) (b := i) (by decide) (by omega)).mp h6; obtain rfl : i = 5 := by omega
        refine V_iload_n (pc := 28) dX0_strongest_28 rfl rfl ?_
        refine V_iret (pc := 29) dX0_strongest_29 rfl ?_
        exact ⟨by rw [hacc], rfl⟩
      have hlt : i < 5 := by have := mt (nI_ltI (a := 4) (b := i) (by decide) (by omega)).mpr h6; omega
      refine V_iload_n (pc := 9) dX0_strongest_9 rfl rfl ?_
      refine V_aload_n (pc := 10) dX0_strongest_10 rfl rfl ?_
      refine V_getR (pc := 11) (ci := 0) (j := 0) (k2 := (b + 1)) dX0_strongest_11 fl_X0_11 (fun _ _ _ _ => rfl) (by first | decide | omega) (by first | rfl | assumption | exact (hrow _ (by omega)).2.1 | decide) (rf_0_0 (by first | rfl | assumption | exact (hrow _ (by omega)).2.1 | decide)) ?_
      refine V_iload_n (pc := 14) dX0_strongest_14 rfl rfl ?_
      refine V_aald15 (pc := 15) (j := i) dX0_strongest_15 (by first | decide | omega) (by first | rfl | assumption | exact (hrow _ (by omega)).2.1 | decide) rfl (by omega) ?_
      refine V_iload_n (pc := 16) dX0_strongest_16 rfl rfl ?_
      refine V_iald (pc := 17) (j := s) dX0_strongest_17 (by first | decide | omega) (by first | rfl | assumption | exact (hrow _ (by omega)).2.1 | decide) rfl (by have := (hrow i (by omega)).2.2; omega) ?_
      refine V_mmax (pc := 18) dX0_strongest_18 mm_X0_37 (by decide) (Nat.le_of_ble_eq_true rfl) ?_
      refine V_istore2 (pc := 21) dX0_strongest_21 (by decide) rfl ?_
      refine V_iinc3 (pc := 22) (v := nI (i + 1)) dX0_strongest_22 (nI_1 i) (by decide) rfl ?_
      refine V_goto (pc := 25) (tgt := 4) dX0_strongest_25 (by decide) ?_
      exact ih (i + 1) _ (by omega) (by omega) (by rw [hacc, hB.1 i s (by omega) (by omega), nI_max (by have := maxT_le (tn := tn) (s := s) (fun w hw => hB.le hw (by omega)) i (by omega); omega) (by have := hB.le (w := i) (s := s) (by omega) (by omega); omega)]; rfl)
  exact loop (5 + 1) 0 _ (by omega) (by omega) rfl
theorem dX0_tellingSign_0 : decode cX0_tellingSign 0 = .ok (.iconst 0, 1) := by decide +kernel
theorem dX0_tellingSign_1 : decode cX0_tellingSign 1 = .ok (.istore_n 1, 1) := by decide +kernel
theorem dX0_tellingSign_2 : decode cX0_tellingSign 2 = .ok (.iconst 1, 1) := by decide +kernel
theorem dX0_tellingSign_3 : decode cX0_tellingSign 3 = .ok (.istore_n 2, 1) := by decide +kernel
theorem dX0_tellingSign_4 : decode cX0_tellingSign 4 = .ok (.iload_n 2, 1) := by decide +kernel
theorem dX0_tellingSign_5 : decode cX0_tellingSign 5 = .ok (.iconst 3, 1) := by decide +kernel
theorem dX0_tellingSign_6 : decode cX0_tellingSign 6 = .ok (.if_icmp .ge 24, 3) := by decide +kernel
theorem dX0_tellingSign_9 : decode cX0_tellingSign 9 = .ok (.aload_n 0, 1) := by decide +kernel
theorem dX0_tellingSign_10 : decode cX0_tellingSign 10 = .ok (.iload_n 2, 1) := by decide +kernel
theorem dX0_tellingSign_11 : decode cX0_tellingSign 11 = .ok (.invokevirtual 33, 3) := by decide +kernel
theorem dX0_tellingSign_14 : decode cX0_tellingSign 14 = .ok (.aload_n 0, 1) := by decide +kernel
theorem dX0_tellingSign_15 : decode cX0_tellingSign 15 = .ok (.iload_n 1, 1) := by decide +kernel
theorem dX0_tellingSign_16 : decode cX0_tellingSign 16 = .ok (.invokevirtual 33, 3) := by decide +kernel
theorem dX0_tellingSign_19 : decode cX0_tellingSign 19 = .ok (.if_icmp .le 5, 3) := by decide +kernel
theorem dX0_tellingSign_22 : decode cX0_tellingSign 22 = .ok (.iload_n 2, 1) := by decide +kernel
theorem dX0_tellingSign_23 : decode cX0_tellingSign 23 = .ok (.istore_n 1, 1) := by decide +kernel
theorem dX0_tellingSign_24 : decode cX0_tellingSign 24 = .ok (.iinc 2 1, 3) := by decide +kernel
theorem dX0_tellingSign_27 : decode cX0_tellingSign 27 = .ok (.goto (-23), 3) := by decide +kernel
theorem dX0_tellingSign_30 : decode cX0_tellingSign 30 = .ok (.iload_n 1, 1) := by decide +kernel
theorem dX0_tellingSign_31 : decode cX0_tellingSign 31 = .ok (.ireturn, 1) := by decide +kernel
set_option maxHeartbeats 4000000 in
set_option maxRecDepth 100000 in
theorem c_X0_tellingSign {l : Launch} {g : GW} {b : Nat} {tn : Nat → Nat → Nat} {ow : Nat → Nat} (μ : Mm) (hb : b = 49 ∨ b = 57) (hB : BkR μ b tn ow) : Con l g yX0_tellingSign cX0_tellingSign 3 (some .int) 2 [.ref b] μ (fun r μ' => r = some (.int (nI (tellT tn 3))) ∧ μ' = μ) := by
  obtain ⟨hb1, hb2, hb3, hb4, hb5, hb6, hrow⟩ := bkF hb
  refine Con.of [.ref b, .null, .null] 2 (by decide +kernel) (Nat.le_of_ble_eq_true rfl) rfl ?_
  refine V_iconst (pc := 0) (v := 0) dX0_tellingSign_0 (by decide) ?_
  refine V_istore1 (pc := 1) dX0_tellingSign_1 (by decide) rfl ?_
  refine V_iconst (pc := 2) (v := 1) dX0_tellingSign_2 (by decide) ?_
  refine V_istore2 (pc := 3) dX0_tellingSign_3 (by decide) rfl ?_
  have loop : ∀ (n i : Nat) (t : Nat), i ≤ 3 → 3 < i + n → (t = tellT tn i) → (1 ≤ i) → V l g RX0 cX0_tellingSign 3 (some .int) 2 4 [.ref b, .int (nI t), .int (nI i)] [] μ (fun r μ' => r = some (.int (nI (tellT tn 3))) ∧ μ' = μ) := by
    intro n
    induction n with
    | zero => intro i t h1 h2; exact absurd h2 (by omega)
    | succ n ih =>
      intro i t hle hfu hacc hi1
      refine V_iload_n (pc := 4) dX0_tellingSign_4 rfl rfl ?_
      refine V_iconst (pc := 5) (v := 3) dX0_tellingSign_5 (by decide) ?_
      refine V_icmpge (pc := 6) (tgt := 30) dX0_tellingSign_6 (by decide) (fun h6 => ?_) (fun h6 => ?_)
      · have h6 := (nI_leI (a := 3) (b := i) (by decide) (by omega)).mp h6; obtain rfl : i = 3 := by omega
        refine V_iload_n (pc := 30) dX0_tellingSign_30 rfl rfl ?_
        refine V_iret (pc := 31) dX0_tellingSign_31 rfl ?_
        exact ⟨by rw [hacc], rfl⟩
      have hlt : i < 3 := nI_l3 (a := 3) (by decide) (by omega) h6
      have ht3 : t < i := by rw [hacc]; exact tellT_lt i (by omega)
      refine V_aload_n (pc := 9) dX0_tellingSign_9 rfl rfl ?_
      refine V_iload_n (pc := 10) dX0_tellingSign_10 rfl rfl ?_
      refine V_inv1 (pc := 11) (ci := 0) dX0_tellingSign_11 ml_X0_33 (by first | decide | omega) (by first | rfl | assumption | exact (hrow _ (by omega)).2.1 | decide) ⟨by decide, rfl⟩ (by decide) (Nat.le_of_ble_eq_true rfl) (c_X0_strongest μ hb hB (show i ≤ 2 by omega)) ?_
      rintro _ μ2 ⟨rfl, hμ⟩
      obtain rfl := hμ.symm
      refine V_aload_n (pc := 14) dX0_tellingSign_14 rfl rfl ?_
      refine V_iload_n (pc := 15) dX0_tellingSign_15 rfl rfl ?_
      refine V_inv1 (pc := 16) (ci := 0) dX0_tellingSign_16 ml_X0_33 (by first | decide | omega) (by first | rfl | assumption | exact (hrow _ (by omega)).2.1 | decide) ⟨by decide, rfl⟩ (by decide) (Nat.le_of_ble_eq_true rfl) (c_X0_strongest μ hb hB (show t ≤ 2 by omega)) ?_
      rintro _ μ2 ⟨rfl, hμ⟩
      obtain rfl := hμ.symm
      refine V_icmple (pc := 19) (tgt := 24) dX0_tellingSign_19 (by decide) (fun h19 => ?_) (fun h19 => ?_)
      · rw [nI_leI (by have := maxT_le (tn := tn) (s := i) (fun w hw => hB.le hw (by omega)) 5 (by omega); omega) (by have := maxT_le (tn := tn) (s := t) (fun w hw => hB.le hw (by omega)) 5 (by omega); omega)] at h19
        refine V_iinc2 (pc := 24) (v := nI (i + 1)) dX0_tellingSign_24 (nI_1 i) (by decide) rfl ?_
        refine V_goto (pc := 27) (tgt := 4) dX0_tellingSign_27 (by decide) ?_
        first | exact ih (i + 1) t (by omega) (by omega) (by show t = (let b := tellT tn i; if maxT tn i 5 > maxT tn b 5 then i else b); rw [← hacc]; simp only; rw [if_neg (by omega)]) (by omega) | exact ih (i + 1) i (by omega) (by omega) (by show i = (let b := tellT tn i; if maxT tn i 5 > maxT tn b 5 then i else b); rw [← hacc]; simp only; rw [if_pos (by omega)]) (by omega)
      rw [nI_leI (by have := maxT_le (tn := tn) (s := i) (fun w hw => hB.le hw (by omega)) 5 (by omega); omega) (by have := maxT_le (tn := tn) (s := t) (fun w hw => hB.le hw (by omega)) 5 (by omega); omega)] at h19
      refine V_iload_n (pc := 22) dX0_tellingSign_22 rfl rfl ?_
      refine V_istore1 (pc := 23) dX0_tellingSign_23 (by decide) rfl ?_
      refine V_iinc2 (pc := 24) (v := nI (i + 1)) dX0_tellingSign_24 (nI_1 i) (by decide) rfl ?_
      refine V_goto (pc := 27) (tgt := 4) dX0_tellingSign_27 (by decide) ?_
      first | exact ih (i + 1) t (by omega) (by omega) (by show t = (let b := tellT tn i; if maxT tn i 5 > maxT tn b 5 then i else b); rw [← hacc]; simp only; rw [if_neg (by omega)]) (by omega) | exact ih (i + 1) i (by omega) (by omega) (by show i = (let b := tellT tn i; if maxT tn i 5 > maxT tn b 5 then i else b); rw [← hacc]; simp only; rw [if_pos (by omega)]) (by omega)
  exact loop (3 + 1) 1 0 (by omega) (by omega) (by show 0 = (let b := 0; if maxT tn 0 5 > maxT tn b 5 then 0 else b); simp) (by omega)
theorem dX0_favour_0 : decode cX0_favour 0 = .ok (.iconst 0, 1) := by decide +kernel
theorem dX0_favour_1 : decode cX0_favour 1 = .ok (.istore_n 3, 1) := by decide +kernel
theorem dX0_favour_2 : decode cX0_favour 2 = .ok (.iconst 0, 1) := by decide +kernel
theorem dX0_favour_3 : decode cX0_favour 3 = .ok (.istore 4, 2) := by decide +kernel
theorem dX0_favour_5 : decode cX0_favour 5 = .ok (.iload 4, 2) := by decide +kernel
theorem dX0_favour_7 : decode cX0_favour 7 = .ok (.iconst 4, 1) := by decide +kernel
theorem dX0_favour_8 : decode cX0_favour 8 = .ok (.if_icmp .ge 31, 3) := by decide +kernel
theorem dX0_favour_11 : decode cX0_favour 11 = .ok (.aload_n 0, 1) := by decide +kernel
theorem dX0_favour_12 : decode cX0_favour 12 = .ok (.iload_n 1, 1) := by decide +kernel
theorem dX0_favour_13 : decode cX0_favour 13 = .ok (.iload 4, 2) := by decide +kernel
theorem dX0_favour_15 : decode cX0_favour 15 = .ok (.invokevirtual 29, 3) := by decide +kernel
theorem dX0_favour_18 : decode cX0_favour 18 = .ok (.ifCond .eq 15, 3) := by decide +kernel
theorem dX0_favour_21 : decode cX0_favour 21 = .ok (.iload_n 3, 1) := by decide +kernel
theorem dX0_favour_22 : decode cX0_favour 22 = .ok (.aload_n 0, 1) := by decide +kernel
theorem dX0_favour_23 : decode cX0_favour 23 = .ok (.getfield 11, 3) := by decide +kernel
theorem dX0_favour_26 : decode cX0_favour 26 = .ok (.iload 4, 2) := by decide +kernel
theorem dX0_favour_28 : decode cX0_favour 28 = .ok (.aaload, 1) := by decide +kernel
theorem dX0_favour_29 : decode cX0_favour 29 = .ok (.iload_n 2, 1) := by decide +kernel
theorem dX0_favour_30 : decode cX0_favour 30 = .ok (.iaload, 1) := by decide +kernel
theorem dX0_favour_31 : decode cX0_favour 31 = .ok (.iadd, 1) := by decide +kernel
theorem dX0_favour_32 : decode cX0_favour 32 = .ok (.istore_n 3, 1) := by decide +kernel
theorem dX0_favour_33 : decode cX0_favour 33 = .ok (.iinc 4 1, 3) := by decide +kernel
theorem dX0_favour_36 : decode cX0_favour 36 = .ok (.goto (-31), 3) := by decide +kernel
theorem dX0_favour_39 : decode cX0_favour 39 = .ok (.iload_n 3, 1) := by decide +kernel
theorem dX0_favour_40 : decode cX0_favour 40 = .ok (.ireturn, 1) := by decide +kernel
set_option maxHeartbeats 4000000 in
set_option maxRecDepth 100000 in
theorem c_X0_favour {l : Launch} {g : GW} {b k s : Nat} {tn : Nat → Nat → Nat} {ow : Nat → Nat} (μ : Mm) (hb : b = 49 ∨ b = 57) (hB : BkR μ b tn ow) (hk : k ≤ 6) (hs : s ≤ 2) : Con l g yX0_favour cX0_favour 5 (some .int) 1 [.ref b, .int (cI k), .int (nI s)] μ (fun r μ' => r = some (.int (nI (favT tn ow k s 4))) ∧ μ' = μ) := by
  obtain ⟨hb1, hb2, hb3, hb4, hb5, hb6, hrow⟩ := bkF hb
  refine Con.of [.ref b, .int (cI k), .int (nI s), .null, .null] 2 (by decide +kernel) (Nat.le_of_ble_eq_true rfl) rfl ?_
  refine V_iconst (pc := 0) (v := 0) dX0_favour_0 (by decide) ?_
  refine V_istore3 (pc := 1) dX0_favour_1 (by decide) rfl ?_
  refine V_iconst (pc := 2) (v := 0) dX0_favour_2 (by decide) ?_
  refine V_istore4 (pc := 3) dX0_favour_3 (by decide) rfl ?_
  have loop : ∀ (n i : Nat) (acc : Int32), i ≤ 4 → 4 < i + n → (acc = nI (favT tn ow k s i)) → V l g RX0 cX0_favour 5 (some .int) 1 5 [.ref b, .int (cI k), .int (nI s), .int acc, .int (nI i)] [] μ (fun r μ' => r = some (.int (nI (favT tn ow k s 4))) ∧ μ' = μ) := by
    intro n
    induction n with
    | zero => intro i acc h1 h2; exact absurd h2 (by omega)
    | succ n ih =>
      intro i acc hle hfu hacc
      refine V_iload (pc := 5) dX0_favour_5 rfl ?_
      refine V_iconst (pc := 7) (v := 4) dX0_favour_7 (by decide) ?_
      refine V_icmpge (pc := 8) (tgt := 39) dX0_favour_8 (by decide) (fun h8 => ?_) (fun h8 => ?_)
      · have h8 := (nI_leI (a := 4) (b := i) (by decide) (by omega)).mp h8; obtain rfl : i = 4 := by omega
        refine V_iload_n (pc := 39) dX0_favour_39 rfl rfl ?_
        refine V_iret (pc := 40) dX0_favour_40 rfl ?_
        exact ⟨by rw [hacc], rfl⟩
      have hlt : i < 4 := nI_l3 (a := 4) (by decide) (by omega) h8
      refine V_aload_n (pc := 11) dX0_favour_11 rfl rfl ?_
      refine V_iload_n (pc := 12) dX0_favour_12 rfl rfl ?_
      refine V_iload (pc := 13) dX0_favour_13 rfl ?_
      refine V_inv2 (pc := 15) (ci := 0) dX0_favour_15 ml_X0_29 (by first | decide | omega) (by first | rfl | assumption | exact (hrow _ (by omega)).2.1 | decide) ⟨by decide, rfl⟩ (by decide) (Nat.le_of_ble_eq_true rfl) (c_X0_favours μ hb hB hk (show i ≤ 4 by omega)) ?_
      rintro _ μ2 ⟨rfl, hμ⟩
      obtain rfl := hμ.symm
      refine V_ifeq (pc := 18) (tgt := 33) dX0_favour_18 (by decide) (fun h18 => ?_) (fun h18 => ?_)
      · have h18 := (bI_0 _).mp h18
        refine V_iinc4 (pc := 33) (v := nI (i + 1)) dX0_favour_33 (nI_1 i) (by decide) rfl ?_
        refine V_goto (pc := 36) (tgt := 5) dX0_favour_36 (by decide) ?_
        exact ih (i + 1) _ (by omega) (by omega) (by show _ = nI (favT tn ow k s i + if fav ow k i then tn i s else 0); rw [h18, hacc]; first | rfl | (rw [hB.1 i s (by omega) (by omega), nI_add]; rfl))
      have h18 : fav ow k i = true := by cases hf : fav ow k i; exact absurd ((bI_0 _).mpr hf) h18; rfl
      refine V_iload_n (pc := 21) dX0_favour_21 rfl rfl ?_
      refine V_aload_n (pc := 22) dX0_favour_22 rfl rfl ?_
      refine V_getR (pc := 23) (ci := 0) (j := 0) (k2 := (b + 1)) dX0_favour_23 fl_X0_11 (fun _ _ _ _ => rfl) (by first | decide | omega) (by first | rfl | assumption | exact (hrow _ (by omega)).2.1 | decide) (rf_0_0 (by first | rfl | assumption | exact (hrow _ (by omega)).2.1 | decide)) ?_
      refine V_iload (pc := 26) dX0_favour_26 rfl ?_
      refine V_aald15 (pc := 28) (j := i) dX0_favour_28 (by first | decide | omega) (by first | rfl | assumption | exact (hrow _ (by omega)).2.1 | decide) rfl (by omega) ?_
      refine V_iload_n (pc := 29) dX0_favour_29 rfl rfl ?_
      refine V_iald (pc := 30) (j := s) dX0_favour_30 (by first | decide | omega) (by first | rfl | assumption | exact (hrow _ (by omega)).2.1 | decide) rfl (by have := (hrow i (by omega)).2.2; omega) ?_
      refine V_iadd (pc := 31) dX0_favour_31 ?_
      refine V_istore3 (pc := 32) dX0_favour_32 (by decide) rfl ?_
      refine V_iinc4 (pc := 33) (v := nI (i + 1)) dX0_favour_33 (nI_1 i) (by decide) rfl ?_
      refine V_goto (pc := 36) (tgt := 5) dX0_favour_36 (by decide) ?_
      exact ih (i + 1) _ (by omega) (by omega) (by show _ = nI (favT tn ow k s i + if fav ow k i then tn i s else 0); rw [h18, hacc]; first | rfl | (rw [hB.1 i s (by omega) (by omega), nI_add]; rfl))
  exact loop (4 + 1) 0 _ (by omega) (by omega) rfl
theorem dX0_nameCount_0 : decode cX0_nameCount 0 = .ok (.iconst 0, 1) := by decide +kernel
theorem dX0_nameCount_1 : decode cX0_nameCount 1 = .ok (.istore_n 1, 1) := by decide +kernel
theorem dX0_nameCount_2 : decode cX0_nameCount 2 = .ok (.iconst 0, 1) := by decide +kernel
theorem dX0_nameCount_3 : decode cX0_nameCount 3 = .ok (.istore_n 2, 1) := by decide +kernel
theorem dX0_nameCount_4 : decode cX0_nameCount 4 = .ok (.iload_n 2, 1) := by decide +kernel
theorem dX0_nameCount_5 : decode cX0_nameCount 5 = .ok (.bipush 6, 2) := by decide +kernel
theorem dX0_nameCount_7 : decode cX0_nameCount 7 = .ok (.if_icmp .ge 22, 3) := by decide +kernel
theorem dX0_nameCount_10 : decode cX0_nameCount 10 = .ok (.aload_n 0, 1) := by decide +kernel
theorem dX0_nameCount_11 : decode cX0_nameCount 11 = .ok (.getfield 16, 3) := by decide +kernel
theorem dX0_nameCount_14 : decode cX0_nameCount 14 = .ok (.iload_n 2, 1) := by decide +kernel
theorem dX0_nameCount_15 : decode cX0_nameCount 15 = .ok (.iaload, 1) := by decide +kernel
theorem dX0_nameCount_16 : decode cX0_nameCount 16 = .ok (.iconst (-1), 1) := by decide +kernel
theorem dX0_nameCount_17 : decode cX0_nameCount 17 = .ok (.if_icmp .eq 6, 3) := by decide +kernel
theorem dX0_nameCount_20 : decode cX0_nameCount 20 = .ok (.iinc 1 1, 3) := by decide +kernel
theorem dX0_nameCount_23 : decode cX0_nameCount 23 = .ok (.iinc 2 1, 3) := by decide +kernel
theorem dX0_nameCount_26 : decode cX0_nameCount 26 = .ok (.goto (-22), 3) := by decide +kernel
theorem dX0_nameCount_29 : decode cX0_nameCount 29 = .ok (.iload_n 1, 1) := by decide +kernel
theorem dX0_nameCount_30 : decode cX0_nameCount 30 = .ok (.ireturn, 1) := by decide +kernel
set_option maxHeartbeats 4000000 in
set_option maxRecDepth 100000 in
theorem c_X0_nameCount {l : Launch} {g : GW} {b : Nat} {tn : Nat → Nat → Nat} {ow : Nat → Nat} (μ : Mm) (hb : b = 49 ∨ b = 57) (hB : BkR μ b tn ow) : Con l g yX0_nameCount cX0_nameCount 3 (some .int) 0 [.ref b] μ (fun r μ' => r = some (.int (nI (nmT ow 6))) ∧ μ' = μ) := by
  obtain ⟨hb1, hb2, hb3, hb4, hb5, hb6, hrow⟩ := bkF hb
  refine Con.of [.ref b, .null, .null] 2 (by decide +kernel) (Nat.le_of_ble_eq_true rfl) rfl ?_
  refine V_iconst (pc := 0) (v := 0) dX0_nameCount_0 (by decide) ?_
  refine V_istore1 (pc := 1) dX0_nameCount_1 (by decide) rfl ?_
  refine V_iconst (pc := 2) (v := 0) dX0_nameCount_2 (by decide) ?_
  refine V_istore2 (pc := 3) dX0_nameCount_3 (by decide) rfl ?_
  have loop : ∀ (n i : Nat) (acc : Int32), i ≤ 6 → 6 < i + n → (acc = nI (nmT ow i)) → V l g RX0 cX0_nameCount 3 (some .int) 0 4 [.ref b, .int acc, .int (nI i)] [] μ (fun r μ' => r = some (.int (nI (nmT ow 6))) ∧ μ' = μ) := by
    intro n
    induction n with
    | zero => intro i acc h1 h2; exact absurd h2 (by omega)
    | succ n ih =>
      intro i acc hle hfu hacc
      refine V_iload_n (pc := 4) dX0_nameCount_4 rfl rfl ?_
      refine V_bipush (pc := 5) (v := 6) dX0_nameCount_5 (by decide) ?_
      refine V_icmpge (pc := 7) (tgt := 29) dX0_nameCount_7 (by decide) (fun h7 => ?_) (fun h7 => ?_)
      · have h7 := (nI_leI (a := 6) (b := i) (by decide) (by omega)).mp h7; obtain rfl : i = 6 := by omega
        refine V_iload_n (pc := 29) dX0_nameCount_29 rfl rfl ?_
        refine V_iret (pc := 30) dX0_nameCount_30 rfl ?_
        exact ⟨by rw [hacc], rfl⟩
      have hlt : i < 6 := nI_l3 (a := 6) (by decide) (by omega) h7
      refine V_aload_n (pc := 10) dX0_nameCount_10 rfl rfl ?_
      refine V_getR (pc := 11) (ci := 0) (j := 1) (k2 := (b + 7)) dX0_nameCount_11 fl_X0_16 (fun _ _ _ _ => rfl) (by first | decide | omega) (by first | rfl | assumption | exact (hrow _ (by omega)).2.1 | decide) (rf_0_1 (by first | rfl | assumption | exact (hrow _ (by omega)).2.1 | decide)) ?_
      refine V_iload_n (pc := 14) dX0_nameCount_14 rfl rfl ?_
      refine V_iald (pc := 15) (j := i) dX0_nameCount_15 (by first | decide | omega) (by first | rfl | assumption | exact (hrow _ (by omega)).2.1 | decide) rfl (by omega) ?_
      refine V_iconst (pc := 16) (v := (-1)) dX0_nameCount_16 (by decide) ?_
      refine V_icmpeq (pc := 17) (tgt := 23) dX0_nameCount_17 (by decide) (fun h17 => ?_) (fun h17 => ?_)
      · rw [hB.2.1 i hlt, cI_m1 (by have := hB.2.2.1 i hlt; omega)] at h17
        refine V_iinc2 (pc := 23) (v := nI (i + 1)) dX0_nameCount_23 (nI_1 i) (by decide) rfl ?_
        refine V_goto (pc := 26) (tgt := 4) dX0_nameCount_26 (by decide) ?_
        exact ih (i + 1) _ (by omega) (by omega) (by show _ = nI (nmT ow i + if ow i = 0 then 0 else 1); first | rw [if_pos h17, hacc, Nat.add_zero] | (rw [if_neg h17, hacc]; exact nI_1 _))
      rw [hB.2.1 i hlt, cI_m1 (by have := hB.2.2.1 i hlt; omega)] at h17
      refine V_iinc1 (pc := 20) dX0_nameCount_20 rfl (by decide) rfl ?_
      refine V_iinc2 (pc := 23) (v := nI (i + 1)) dX0_nameCount_23 (nI_1 i) (by decide) rfl ?_
      refine V_goto (pc := 26) (tgt := 4) dX0_nameCount_26 (by decide) ?_
      exact ih (i + 1) _ (by omega) (by omega) (by show _ = nI (nmT ow i + if ow i = 0 then 0 else 1); first | rw [if_pos h17, hacc, Nat.add_zero] | (rw [if_neg h17, hacc]; exact nI_1 _))
  exact loop (6 + 1) 0 _ (by omega) (by omega) rfl
theorem dX7_placeAhead_0 : decode cX7_placeAhead 0 = .ok (.iload_n 2, 1) := by decide +kernel
theorem dX7_placeAhead_1 : decode cX7_placeAhead 1 = .ok (.iconst (-1), 1) := by decide +kernel
theorem dX7_placeAhead_2 : decode cX7_placeAhead 2 = .ok (.if_icmp .ne 7, 3) := by decide +kernel
theorem dX7_placeAhead_5 : decode cX7_placeAhead 5 = .ok (.iconst 1, 1) := by decide +kernel
theorem dX7_placeAhead_6 : decode cX7_placeAhead 6 = .ok (.goto 8, 3) := by decide +kernel
theorem dX7_placeAhead_9 : decode cX7_placeAhead 9 = .ok (.getstatic 280, 3) := by decide +kernel
theorem dX7_placeAhead_12 : decode cX7_placeAhead 12 = .ok (.iload_n 0, 1) := by decide +kernel
theorem dX7_placeAhead_13 : decode cX7_placeAhead 13 = .ok (.iaload, 1) := by decide +kernel
theorem dX7_placeAhead_14 : decode cX7_placeAhead 14 = .ok (.istore_n 3, 1) := by decide +kernel
theorem dX7_placeAhead_15 : decode cX7_placeAhead 15 = .ok (.bipush 9, 2) := by decide +kernel
theorem dX7_placeAhead_17 : decode cX7_placeAhead 17 = .ok (.iload_n 1, 1) := by decide +kernel
theorem dX7_placeAhead_18 : decode cX7_placeAhead 18 = .ok (.iload_n 3, 1) := by decide +kernel
theorem dX7_placeAhead_19 : decode cX7_placeAhead 19 = .ok (.iadd, 1) := by decide +kernel
theorem dX7_placeAhead_20 : decode cX7_placeAhead 20 = .ok (.invokestatic 283, 3) := by decide +kernel
theorem dX7_placeAhead_23 : decode cX7_placeAhead 23 = .ok (.ireturn, 1) := by decide +kernel
set_option maxHeartbeats 4000000 in
set_option maxRecDepth 100000 in
theorem c_X7_placeAhead {l : Launch} {g : GW} {κ p k : Nat} (μ : Mm) (hκ : κ ≤ 4) (hp : p ≤ 9) (hk : k ≤ 6) : Con l g yX7_placeAhead cX7_placeAhead 4 (some .int) 1 [.int (nI κ), .int (nI p), .int (cI k)] μ (fun r μ' => r = some (.int (nI (ahd κ p k))) ∧ μ' = μ) := by
  refine Con.of [.int (nI κ), .int (nI p), .int (cI k), .null] 1 (by decide +kernel) (Nat.le_of_ble_eq_true rfl) rfl ?_
  refine V_iload_n (pc := 0) dX7_placeAhead_0 rfl rfl ?_
  refine V_iconst (pc := 1) (v := (-1)) dX7_placeAhead_1 (by decide) ?_
  refine V_icmpne (pc := 2) (tgt := 9) dX7_placeAhead_2 (by decide) (fun h2 => ?_) (fun h2 => ?_)
  · obtain ⟨k, rfl⟩ := cI_pos (by omega) h2
    refine V_gets (pc := 9) (k := 88) dX7_placeAhead_9 (by decide) (by decide) gs_X7_280 ?_
    refine V_iload_n (pc := 12) dX7_placeAhead_12 rfl rfl ?_
    refine V_sald (pc := 13) (j := κ) dX7_placeAhead_13 (by decide) (by decide) rfl (by show κ < 5; omega) ?_
    refine V_istore3 (pc := 14) dX7_placeAhead_14 (by decide) rfl ?_
    refine V_bipush (pc := 15) (v := 9) dX7_placeAhead_15 (by decide) ?_
    refine V_iload_n (pc := 17) dX7_placeAhead_17 rfl rfl ?_
    refine V_iload_n (pc := 18) dX7_placeAhead_18 rfl rfl ?_
    refine V_iadd (pc := 19) dX7_placeAhead_19 ?_
    refine V_mmin (pc := 20) dX7_placeAhead_20 mm_X7_283 (by decide) (Nat.le_of_ble_eq_true rfl) ?_
    refine V_iret (pc := 23) dX7_placeAhead_23 rfl ?_
    exact ⟨congrArg (fun z => some (Value.int z)) (by first | (rw [stT88 κ hκ, nI_add, nI_min9' (by have := sbK_le κ hκ; omega)]; rfl) | (rw [nI_1, nI_min9' (by omega)]; rfl)), rfl⟩
  have h2 := (cI_m1 (by omega)).mp h2; subst h2
  refine V_iconst (pc := 5) (v := 1) dX7_placeAhead_5 (by decide) ?_
  refine V_goto (pc := 6) (tgt := 14) dX7_placeAhead_6 (by decide) ?_
  refine V_istore3 (pc := 14) dX7_placeAhead_14 (by decide) rfl ?_
  refine V_bipush (pc := 15) (v := 9) dX7_placeAhead_15 (by decide) ?_
  refine V_iload_n (pc := 17) dX7_placeAhead_17 rfl rfl ?_
  refine V_iload_n (pc := 18) dX7_placeAhead_18 rfl rfl ?_
  refine V_iadd (pc := 19) dX7_placeAhead_19 ?_
  refine V_mmin (pc := 20) dX7_placeAhead_20 mm_X7_283 (by decide) (Nat.le_of_ble_eq_true rfl) ?_
  refine V_iret (pc := 23) dX7_placeAhead_23 rfl ?_
  exact ⟨congrArg (fun z => some (Value.int z)) (by first | (rw [stT88 κ hκ, nI_add, nI_min9' (by have := sbK_le κ hκ; omega)]; rfl) | (rw [nI_1, nI_min9' (by omega)]; rfl)), rfl⟩
theorem dX7_placeBehind_0 : decode cX7_placeBehind 0 = .ok (.iload_n 1, 1) := by decide +kernel
theorem dX7_placeBehind_1 : decode cX7_placeBehind 1 = .ok (.bipush 9, 2) := by decide +kernel
theorem dX7_placeBehind_3 : decode cX7_placeBehind 3 = .ok (.if_icmp .ne 6, 3) := by decide +kernel
theorem dX7_placeBehind_6 : decode cX7_placeBehind 6 = .ok (.bipush 9, 2) := by decide +kernel
theorem dX7_placeBehind_8 : decode cX7_placeBehind 8 = .ok (.ireturn, 1) := by decide +kernel
theorem dX7_placeBehind_9 : decode cX7_placeBehind 9 = .ok (.iload_n 2, 1) := by decide +kernel
theorem dX7_placeBehind_10 : decode cX7_placeBehind 10 = .ok (.iconst (-1), 1) := by decide +kernel
theorem dX7_placeBehind_11 : decode cX7_placeBehind 11 = .ok (.if_icmp .ne 7, 3) := by decide +kernel
theorem dX7_placeBehind_14 : decode cX7_placeBehind 14 = .ok (.iconst 1, 1) := by decide +kernel
theorem dX7_placeBehind_15 : decode cX7_placeBehind 15 = .ok (.goto 8, 3) := by decide +kernel
theorem dX7_placeBehind_18 : decode cX7_placeBehind 18 = .ok (.getstatic 288, 3) := by decide +kernel
theorem dX7_placeBehind_21 : decode cX7_placeBehind 21 = .ok (.iload_n 0, 1) := by decide +kernel
theorem dX7_placeBehind_22 : decode cX7_placeBehind 22 = .ok (.iaload, 1) := by decide +kernel
theorem dX7_placeBehind_23 : decode cX7_placeBehind 23 = .ok (.istore_n 3, 1) := by decide +kernel
theorem dX7_placeBehind_24 : decode cX7_placeBehind 24 = .ok (.iconst 0, 1) := by decide +kernel
theorem dX7_placeBehind_25 : decode cX7_placeBehind 25 = .ok (.iload_n 1, 1) := by decide +kernel
theorem dX7_placeBehind_26 : decode cX7_placeBehind 26 = .ok (.iload_n 3, 1) := by decide +kernel
theorem dX7_placeBehind_27 : decode cX7_placeBehind 27 = .ok (.isub, 1) := by decide +kernel
theorem dX7_placeBehind_28 : decode cX7_placeBehind 28 = .ok (.invokestatic 291, 3) := by decide +kernel
theorem dX7_placeBehind_31 : decode cX7_placeBehind 31 = .ok (.ireturn, 1) := by decide +kernel
set_option maxHeartbeats 4000000 in
set_option maxRecDepth 100000 in
theorem c_X7_placeBehind {l : Launch} {g : GW} {κ p k : Nat} (μ : Mm) (hκ : κ ≤ 4) (hp : p ≤ 9) (hk : k ≤ 6) : Con l g yX7_placeBehind cX7_placeBehind 4 (some .int) 1 [.int (nI κ), .int (nI p), .int (cI k)] μ (fun r μ' => r = some (.int (nI (bhd κ p k))) ∧ μ' = μ) := by
  refine Con.of [.int (nI κ), .int (nI p), .int (cI k), .null] 1 (by decide +kernel) (Nat.le_of_ble_eq_true rfl) rfl ?_
  refine V_iload_n (pc := 0) dX7_placeBehind_0 rfl rfl ?_
  refine V_bipush (pc := 1) (v := 9) dX7_placeBehind_1 (by decide) ?_
  refine V_icmpne (pc := 3) (tgt := 9) dX7_placeBehind_3 (by decide) (fun h3 => ?_) (fun h3 => ?_)
  · have h3 := mt (nI_eq (a := p) (b := 9) (by omega) (by decide)).mpr h3
    refine V_iload_n (pc := 9) dX7_placeBehind_9 rfl rfl ?_
    refine V_iconst (pc := 10) (v := (-1)) dX7_placeBehind_10 (by decide) ?_
    refine V_icmpne (pc := 11) (tgt := 18) dX7_placeBehind_11 (by decide) (fun h11 => ?_) (fun h11 => ?_)
    · obtain ⟨k, rfl⟩ := cI_pos (by omega) h11
      refine V_gets (pc := 18) (k := 89) dX7_placeBehind_18 (by decide) (by decide) gs_X7_288 ?_
      refine V_iload_n (pc := 21) dX7_placeBehind_21 rfl rfl ?_
      refine V_sald (pc := 22) (j := κ) dX7_placeBehind_22 (by decide) (by decide) rfl (by show κ < 5; omega) ?_
      refine V_istore3 (pc := 23) dX7_placeBehind_23 (by decide) rfl ?_
      refine V_iconst (pc := 24) (v := 0) dX7_placeBehind_24 (by decide) ?_
      refine V_iload_n (pc := 25) dX7_placeBehind_25 rfl rfl ?_
      refine V_iload_n (pc := 26) dX7_placeBehind_26 rfl rfl ?_
      refine V_isub (pc := 27) dX7_placeBehind_27 ?_
      refine V_mmax (pc := 28) dX7_placeBehind_28 mm_X7_291 (by decide) (Nat.le_of_ble_eq_true rfl) ?_
      refine V_iret (pc := 31) dX7_placeBehind_31 rfl ?_
      exact ⟨congrArg (fun z => some (Value.int z)) (by unfold bhd; first | (rw [if_neg h3, stT89 κ hκ, nI_sub0 (by omega) (by have := tbK_le κ hκ; omega)]; rfl) | (rw [if_neg h3]; exact nI_sub0 (b := 1) (by omega) (by omega)) | (rw [if_pos h3]; rfl)), rfl⟩
    have h11 := (cI_m1 (by omega)).mp h11; subst h11
    refine V_iconst (pc := 14) (v := 1) dX7_placeBehind_14 (by decide) ?_
    refine V_goto (pc := 15) (tgt := 23) dX7_placeBehind_15 (by decide) ?_
    refine V_istore3 (pc := 23) dX7_placeBehind_23 (by decide) rfl ?_
    refine V_iconst (pc := 24) (v := 0) dX7_placeBehind_24 (by decide) ?_
    refine V_iload_n (pc := 25) dX7_placeBehind_25 rfl rfl ?_
    refine V_iload_n (pc := 26) dX7_placeBehind_26 rfl rfl ?_
    refine V_isub (pc := 27) dX7_placeBehind_27 ?_
    refine V_mmax (pc := 28) dX7_placeBehind_28 mm_X7_291 (by decide) (Nat.le_of_ble_eq_true rfl) ?_
    refine V_iret (pc := 31) dX7_placeBehind_31 rfl ?_
    exact ⟨congrArg (fun z => some (Value.int z)) (by unfold bhd; first | (rw [if_neg h3, stT89 κ hκ, nI_sub0 (by omega) (by have := tbK_le κ hκ; omega)]; rfl) | (rw [if_neg h3]; exact nI_sub0 (b := 1) (by omega) (by omega)) | (rw [if_pos h3]; rfl)), rfl⟩
  have h3 := (nI_eq (a := p) (b := 9) (by omega) (by decide)).mp h3
  refine V_bipush (pc := 6) (v := 9) dX7_placeBehind_6 (by decide) ?_
  refine V_iret (pc := 8) dX7_placeBehind_8 rfl ?_
  exact ⟨congrArg (fun z => some (Value.int z)) (by unfold bhd; first | (rw [if_neg h3, stT89 κ hκ, nI_sub0 (by omega) (by have := tbK_le κ hκ; omega)]; rfl) | (rw [if_neg h3]; exact nI_sub0 (b := 1) (by omega) (by omega)) | (rw [if_pos h3]; rfl)), rfl⟩
theorem dX7_placeAfter_0 : decode cX7_placeAfter 0 = .ok (.iload 4, 2) := by decide +kernel
theorem dX7_placeAfter_2 : decode cX7_placeAfter 2 = .ok (.iconst 4, 1) := by decide +kernel
theorem dX7_placeAfter_3 : decode cX7_placeAfter 3 = .ok (.if_icmp .ne 5, 3) := by decide +kernel
theorem dX7_placeAfter_6 : decode cX7_placeAfter 6 = .ok (.iload_n 2, 1) := by decide +kernel
theorem dX7_placeAfter_7 : decode cX7_placeAfter 7 = .ok (.ireturn, 1) := by decide +kernel
theorem dX7_placeAfter_8 : decode cX7_placeAfter 8 = .ok (.aload_n 0, 1) := by decide +kernel
theorem dX7_placeAfter_9 : decode cX7_placeAfter 9 = .ok (.iload_n 3, 1) := by decide +kernel
theorem dX7_placeAfter_10 : decode cX7_placeAfter 10 = .ok (.iload 4, 2) := by decide +kernel
theorem dX7_placeAfter_12 : decode cX7_placeAfter 12 = .ok (.invokevirtual 294, 3) := by decide +kernel
theorem dX7_placeAfter_15 : decode cX7_placeAfter 15 = .ok (.ifCond .eq 12, 3) := by decide +kernel
theorem dX7_placeAfter_18 : decode cX7_placeAfter 18 = .ok (.iload_n 1, 1) := by decide +kernel
theorem dX7_placeAfter_19 : decode cX7_placeAfter 19 = .ok (.iload_n 2, 1) := by decide +kernel
theorem dX7_placeAfter_20 : decode cX7_placeAfter 20 = .ok (.iload_n 3, 1) := by decide +kernel
theorem dX7_placeAfter_21 : decode cX7_placeAfter 21 = .ok (.invokestatic 298, 3) := by decide +kernel
theorem dX7_placeAfter_24 : decode cX7_placeAfter 24 = .ok (.goto 9, 3) := by decide +kernel
theorem dX7_placeAfter_27 : decode cX7_placeAfter 27 = .ok (.iload_n 1, 1) := by decide +kernel
theorem dX7_placeAfter_28 : decode cX7_placeAfter 28 = .ok (.iload_n 2, 1) := by decide +kernel
theorem dX7_placeAfter_29 : decode cX7_placeAfter 29 = .ok (.iload_n 3, 1) := by decide +kernel
theorem dX7_placeAfter_30 : decode cX7_placeAfter 30 = .ok (.invokestatic 301, 3) := by decide +kernel
theorem dX7_placeAfter_33 : decode cX7_placeAfter 33 = .ok (.ireturn, 1) := by decide +kernel
set_option maxHeartbeats 4000000 in
set_option maxRecDepth 100000 in
theorem c_X7_placeAfter {l : Launch} {g : GW} {b κ p k w : Nat} {tn : Nat → Nat → Nat} {ow : Nat → Nat} (μ : Mm) (hb : b = 49 ∨ b = 57) (hB : BkR μ b tn ow) (hκ : κ ≤ 4) (hp : p ≤ 9) (hk : k ≤ 6) (hw : w ≤ 4) : Con l g yX7_placeAfter cX7_placeAfter 5 (some .int) 2 [.ref b, .int (nI κ), .int (nI p), .int (cI k), .int (nI w)] μ (fun r μ' => r = some (.int (nI (aft ow κ p k w))) ∧ μ' = μ) := by
  obtain ⟨hb1, hb2, hb3, hb4, hb5, hb6, hrow⟩ := bkF hb
  refine Con.of [.ref b, .int (nI κ), .int (nI p), .int (cI k), .int (nI w)] 0 (by decide +kernel) (Nat.le_of_ble_eq_true rfl) rfl ?_
  refine V_iload (pc := 0) dX7_placeAfter_0 rfl ?_
  refine V_iconst (pc := 2) (v := 4) dX7_placeAfter_2 (by decide) ?_
  refine V_icmpne (pc := 3) (tgt := 8) dX7_placeAfter_3 (by decide) (fun h3 => ?_) (fun h3 => ?_)
  · have h3 := mt (nI_eq (a := w) (b := 4) (by omega) (by decide)).mpr h3
    refine V_aload_n (pc := 8) dX7_placeAfter_8 rfl rfl ?_
    refine V_iload_n (pc := 9) dX7_placeAfter_9 rfl rfl ?_
    refine V_iload (pc := 10) dX7_placeAfter_10 rfl ?_
    refine V_inv2 (pc := 12) (ci := 0) dX7_placeAfter_12 ml_X7_294 (by first | decide | omega) (by first | rfl | assumption | exact (hrow _ (by omega)).2.1 | decide) ⟨by decide, rfl⟩ (by decide) (Nat.le_of_ble_eq_true rfl) (c_X0_favours μ hb hB hk hw) ?_
    rintro _ μ2 ⟨rfl, hμ⟩
    obtain rfl := hμ.symm
    refine V_ifeq (pc := 15) (tgt := 27) dX7_placeAfter_15 (by decide) (fun h15 => ?_) (fun h15 => ?_)
    · have h15 := (bI_0 _).mp h15
      refine V_iload_n (pc := 27) dX7_placeAfter_27 rfl rfl ?_
      refine V_iload_n (pc := 28) dX7_placeAfter_28 rfl rfl ?_
      refine V_iload_n (pc := 29) dX7_placeAfter_29 rfl rfl ?_
      refine V_ins3 (pc := 30) dX7_placeAfter_30 ml_X7_301 (by decide) (Nat.le_of_ble_eq_true rfl) (c_X7_placeBehind μ hκ hp hk) ?_
      rintro _ μ2 ⟨rfl, hμ⟩
      obtain rfl := hμ.symm
      refine V_iret (pc := 33) dX7_placeAfter_33 rfl ?_
      exact ⟨congrArg (fun z => some (Value.int z)) (by unfold aft; first | rw [if_neg h3, h15, if_pos rfl] | (rw [if_neg h3, h15]; rfl) | rw [if_pos h3]), rfl⟩
    have h15 : fav ow k w = true := by cases hf : fav ow k w; exact absurd ((bI_0 _).mpr hf) h15; rfl
    refine V_iload_n (pc := 18) dX7_placeAfter_18 rfl rfl ?_
    refine V_iload_n (pc := 19) dX7_placeAfter_19 rfl rfl ?_
    refine V_iload_n (pc := 20) dX7_placeAfter_20 rfl rfl ?_
    refine V_ins3 (pc := 21) dX7_placeAfter_21 ml_X7_298 (by decide) (Nat.le_of_ble_eq_true rfl) (c_X7_placeAhead μ hκ hp hk) ?_
    rintro _ μ2 ⟨rfl, hμ⟩
    obtain rfl := hμ.symm
    refine V_goto (pc := 24) (tgt := 33) dX7_placeAfter_24 (by decide) ?_
    refine V_iret (pc := 33) dX7_placeAfter_33 rfl ?_
    exact ⟨congrArg (fun z => some (Value.int z)) (by unfold aft; first | rw [if_neg h3, h15, if_pos rfl] | (rw [if_neg h3, h15]; rfl) | rw [if_pos h3]), rfl⟩
  have h3 := (nI_eq (a := w) (b := 4) (by omega) (by decide)).mp h3
  refine V_iload_n (pc := 6) dX7_placeAfter_6 rfl rfl ?_
  refine V_iret (pc := 7) dX7_placeAfter_7 rfl ?_
  exact ⟨congrArg (fun z => some (Value.int z)) (by unfold aft; first | rw [if_neg h3, h15, if_pos rfl] | (rw [if_neg h3, h15]; rfl) | rw [if_pos h3]), rfl⟩
