theorem dX2_byteAt_0 : decode cX2_byteAt 0 = .ok (.lload_n 0, 1) := by decide +kernel
theorem dX2_byteAt_1 : decode cX2_byteAt 1 = .ok (.bipush 8, 2) := by decide +kernel
theorem dX2_byteAt_3 : decode cX2_byteAt 3 = .ok (.iload_n 2, 1) := by decide +kernel
theorem dX2_byteAt_4 : decode cX2_byteAt 4 = .ok (.imul, 1) := by decide +kernel
theorem dX2_byteAt_5 : decode cX2_byteAt 5 = .ok (.lushr, 1) := by decide +kernel
theorem dX2_byteAt_6 : decode cX2_byteAt 6 = .ok (.l2i, 1) := by decide +kernel
theorem dX2_byteAt_7 : decode cX2_byteAt 7 = .ok (.sipush 255, 3) := by decide +kernel
theorem dX2_byteAt_10 : decode cX2_byteAt 10 = .ok (.iand, 1) := by decide +kernel
theorem dX2_byteAt_11 : decode cX2_byteAt 11 = .ok (.ireturn, 1) := by decide +kernel
set_option maxHeartbeats 4000000 in
set_option maxRecDepth 100000 in
theorem c_X2_byteAt {l : Launch} {g : GW} {w : Int64} {j : Nat} (μ : Mm) (hj : j < 8) : Con l g yX2_byteAt cX2_byteAt 3 (some .int) 0 [.long w, .int (nI j)] μ (fun r μ' => r = some (.int (nI (byN w j))) ∧ μ' = μ) := by
  refine Con.of [.long w, .null, .int (nI j)] 0 (by decide +kernel) (Nat.le_of_ble_eq_true rfl) rfl ?_
  refine V_lload_n (pc := 0) dX2_byteAt_0 rfl rfl ?_
  refine V_bipush (pc := 1) (v := 8) dX2_byteAt_1 (by decide) ?_
  refine V_iload_n (pc := 3) dX2_byteAt_3 rfl rfl ?_
  refine V_imul (pc := 4) dX2_byteAt_4 ?_
  refine V_lushr (pc := 5) dX2_byteAt_5 ?_
  refine V_l2i (pc := 6) dX2_byteAt_6 ?_
  refine V_sipush (pc := 7) (v := 255) dX2_byteAt_7 (by decide) ?_
  refine V_iand (pc := 10) dX2_byteAt_10 ?_
  refine V_iret (pc := 11) dX2_byteAt_11 rfl ?_
  exact ⟨congrArg (fun z => some (Value.int z)) (byN_eq w hj), rfl⟩
theorem dX2_empty_0 : decode cX2_empty 0 = .ok (.aload_n 0, 1) := by decide +kernel
theorem dX2_empty_1 : decode cX2_empty 1 = .ok (.getfield 19, 3) := by decide +kernel
theorem dX2_empty_4 : decode cX2_empty 4 = .ok (.istore_n 1, 1) := by decide +kernel
theorem dX2_empty_5 : decode cX2_empty 5 = .ok (.aload_n 0, 1) := by decide +kernel
theorem dX2_empty_6 : decode cX2_empty 6 = .ok (.iconst 0, 1) := by decide +kernel
theorem dX2_empty_7 : decode cX2_empty 7 = .ok (.putfield 19, 3) := by decide +kernel
theorem dX2_empty_10 : decode cX2_empty 10 = .ok (.iload_n 1, 1) := by decide +kernel
theorem dX2_empty_11 : decode cX2_empty 11 = .ok (.ireturn, 1) := by decide +kernel
set_option maxHeartbeats 4000000 in
set_option maxRecDepth 100000 in
theorem c_X2_empty {l : Launch} {g : GW} {n : Nat} {cd : Nat → Nat} (μ : Mm) (hP : PgR μ n cd) : Con l g yX2_empty cX2_empty 2 (some .int) 0 [.ref 1] μ (fun r μ' => r = some (.int (nI n)) ∧ PgR μ' 0 cd ∧ FrM (fun k => k = 1) μ μ') := by
  obtain ⟨p1, p2, p3⟩ := id hP
  refine Con.of [.ref 1, .null] 1 (by decide +kernel) (Nat.le_of_ble_eq_true rfl) rfl ?_
  refine V_aload_n (pc := 0) dX2_empty_0 rfl rfl ?_
  refine V_getI (pc := 1) (ci := 2) (j := 1) dX2_empty_1 fl_X2_19 (fun _ _ _ _ => rfl) (by decide) rfl ?_
  refine V_istore1 (pc := 4) dX2_empty_4 (by decide) rfl ?_
  refine V_aload_n (pc := 5) dX2_empty_5 rfl rfl ?_
  refine V_iconst (pc := 6) (v := 0) dX2_empty_6 (by decide) ?_
  refine V_putI (pc := 7) (ci := 2) (j := 1) dX2_empty_7 fl_X2_19 (fun _ _ _ _ _ => rfl) rfl rfl (by decide) rfl ?_
  refine V_iload_n (pc := 10) dX2_empty_10 rfl rfl ?_
  refine V_iret (pc := 11) dX2_empty_11 rfl ?_
  exact ⟨by rw [p1], ⟨get_eq, by omega, fun j hj => by rw [get_ne (by omega)]; exact p3 j hj⟩, FrM.rf.set rfl⟩
theorem dX2_lettersIn_0 : decode cX2_lettersIn 0 = .ok (.iconst 0, 1) := by decide +kernel
theorem dX2_lettersIn_1 : decode cX2_lettersIn 1 = .ok (.istore_n 2, 1) := by decide +kernel
theorem dX2_lettersIn_2 : decode cX2_lettersIn 2 = .ok (.iconst 0, 1) := by decide +kernel
theorem dX2_lettersIn_3 : decode cX2_lettersIn 3 = .ok (.istore_n 3, 1) := by decide +kernel
theorem dX2_lettersIn_4 : decode cX2_lettersIn 4 = .ok (.iload_n 3, 1) := by decide +kernel
theorem dX2_lettersIn_5 : decode cX2_lettersIn 5 = .ok (.bipush 8, 2) := by decide +kernel
theorem dX2_lettersIn_7 : decode cX2_lettersIn 7 = .ok (.if_icmp .ge 43, 3) := by decide +kernel
theorem dX2_lettersIn_10 : decode cX2_lettersIn 10 = .ok (.lload_n 0, 1) := by decide +kernel
theorem dX2_lettersIn_11 : decode cX2_lettersIn 11 = .ok (.iload_n 3, 1) := by decide +kernel
theorem dX2_lettersIn_12 : decode cX2_lettersIn 12 = .ok (.invokestatic 23, 3) := by decide +kernel
theorem dX2_lettersIn_15 : decode cX2_lettersIn 15 = .ok (.istore 4, 2) := by decide +kernel
theorem dX2_lettersIn_17 : decode cX2_lettersIn 17 = .ok (.iload 4, 2) := by decide +kernel
theorem dX2_lettersIn_19 : decode cX2_lettersIn 19 = .ok (.bipush 126, 2) := by decide +kernel
theorem dX2_lettersIn_21 : decode cX2_lettersIn 21 = .ok (.if_icmp .gt 13, 3) := by decide +kernel
theorem dX2_lettersIn_24 : decode cX2_lettersIn 24 = .ok (.iload 4, 2) := by decide +kernel
theorem dX2_lettersIn_26 : decode cX2_lettersIn 26 = .ok (.ifCond .eq 10, 3) := by decide +kernel
theorem dX2_lettersIn_29 : decode cX2_lettersIn 29 = .ok (.iload_n 2, 1) := by decide +kernel
theorem dX2_lettersIn_30 : decode cX2_lettersIn 30 = .ok (.iload_n 3, 1) := by decide +kernel
theorem dX2_lettersIn_31 : decode cX2_lettersIn 31 = .ok (.if_icmp .ge 5, 3) := by decide +kernel
theorem dX2_lettersIn_34 : decode cX2_lettersIn 34 = .ok (.iconst (-1), 1) := by decide +kernel
theorem dX2_lettersIn_35 : decode cX2_lettersIn 35 = .ok (.ireturn, 1) := by decide +kernel
theorem dX2_lettersIn_36 : decode cX2_lettersIn 36 = .ok (.iload 4, 2) := by decide +kernel
theorem dX2_lettersIn_38 : decode cX2_lettersIn 38 = .ok (.ifCond .eq 6, 3) := by decide +kernel
theorem dX2_lettersIn_41 : decode cX2_lettersIn 41 = .ok (.iinc 2 1, 3) := by decide +kernel
theorem dX2_lettersIn_44 : decode cX2_lettersIn 44 = .ok (.iinc 3 1, 3) := by decide +kernel
theorem dX2_lettersIn_47 : decode cX2_lettersIn 47 = .ok (.goto (-43), 3) := by decide +kernel
theorem dX2_lettersIn_50 : decode cX2_lettersIn 50 = .ok (.iload_n 2, 1) := by decide +kernel
theorem dX2_lettersIn_51 : decode cX2_lettersIn 51 = .ok (.ireturn, 1) := by decide +kernel
set_option maxHeartbeats 4000000 in
set_option maxRecDepth 100000 in
theorem c_X2_lettersIn {l : Launch} {g : GW} {w : Int64} (μ : Mm)  : Con l g yX2_lettersIn cX2_lettersIn 5 (some .int) 1 [.long w] μ (fun r μ' => r = some (.int (cI (leK w))) ∧ μ' = μ) := by
  refine Con.of [.long w, .null, .null, .null, .null] 3 (by decide +kernel) (Nat.le_of_ble_eq_true rfl) rfl ?_
  refine V_iconst (pc := 0) (v := 0) dX2_lettersIn_0 (by decide) ?_
  refine V_istore2 (pc := 1) dX2_lettersIn_1 (by decide) rfl ?_
  refine V_iconst (pc := 2) (v := 0) dX2_lettersIn_2 (by decide) ?_
  refine V_istore3 (pc := 3) dX2_lettersIn_3 (by decide) rfl ?_
  have loopA : ∀ (nA k : Nat) (f : Nat) (y4 : Value), k ≤ 8 → 8 < k + nA → (leT w k = some f) → V l g RX2 cX2_lettersIn 5 (some .int) 1 4 [.long w, .null, .int (nI f), .int (nI k), y4] [] μ (fun r μ' => r = some (.int (cI (leK w))) ∧ μ' = μ) := by
    intro nA
    induction nA with
    | zero => intro k f y4 h1 h2; exact absurd h2 (by omega)
    | succ nA ihA =>
      intro k f y4 hleA hfuA hf
      refine V_iload_n (pc := 4) dX2_lettersIn_4 rfl rfl ?_
      refine V_bipush (pc := 5) (v := 8) dX2_lettersIn_5 (by decide) ?_
      refine V_icmpge (pc := 7) (tgt := 50) dX2_lettersIn_7 (by decide) (fun h7 => ?_) (fun h7 => ?_)
      · have h7 := (nI_leI (a := 8) (b := k) (by decide) (by omega)).mp h7; obtain rfl : k = 8 := by omega
        refine V_iload_n (pc := 50) dX2_lettersIn_50 rfl rfl ?_
        refine V_iret (pc := 51) dX2_lettersIn_51 rfl ?_
        exact ⟨by rw [leK_some hf, cI_s], rfl⟩
      have hlt : k < 8 := nI_l3 (a := 8) (by decide) (by omega) h7
      have hfk := (leT_some hf).1
      have hlt8 := byN_lt w k
      refine V_lload_n (pc := 10) dX2_lettersIn_10 rfl rfl ?_
      refine V_iload_n (pc := 11) dX2_lettersIn_11 rfl rfl ?_
      refine V_ins2 (pc := 12) dX2_lettersIn_12 ml_X2_23 (by first | decide | omega) (Nat.le_of_ble_eq_true rfl) (c_X2_byteAt μ hlt) ?_
      rintro _ μ2 ⟨rfl, hμ⟩
      obtain rfl := hμ.symm
      refine V_istore4 (pc := 15) dX2_lettersIn_15 (by decide) rfl ?_
      refine V_iload (pc := 17) dX2_lettersIn_17 rfl ?_
      refine V_bipush (pc := 19) (v := 126) dX2_lettersIn_19 (by decide) ?_
      refine V_icmpgt (pc := 21) (tgt := 34) dX2_lettersIn_21 (by decide) (fun h21 => ?_) (fun h21 => ?_)
      · have h21 := (nI_ltI (a := 126) (b := byN w k) (by decide) (by omega)).mp h21; have hno : leT w (k + 1) = none := by simp only [leT]; rw [hf]; exact if_pos (Or.inl h21)
        refine V_iconst (pc := 34) (v := (-1)) dX2_lettersIn_34 (by decide) ?_
        refine V_iret (pc := 35) dX2_lettersIn_35 rfl ?_
        exact ⟨by rw [leK_none (leT_none (k + 1) 8 hno (by omega))]; rfl, rfl⟩
      have h21 := mt (nI_ltI (a := 126) (b := byN w k) (by decide) (by omega)).mpr h21
      refine V_iload (pc := 24) dX2_lettersIn_24 rfl ?_
      refine V_ifeq (pc := 26) (tgt := 36) dX2_lettersIn_26 (by decide) (fun h26 => ?_) (fun h26 => ?_)
      · have h26 := (nI_eq (a := byN w k) (b := 0) (by omega) (by omega)).mp h26
        refine V_iload (pc := 36) dX2_lettersIn_36 rfl ?_
        refine V_ifeq (pc := 38) (tgt := 44) dX2_lettersIn_38 (by decide) (fun h38 => ?_) (fun h38 => ?_)
        · have h38 := (nI_eq (a := byN w k) (b := 0) (by omega) (by omega)).mp h38
          refine V_iinc3 (pc := 44) (v := nI (k + 1)) dX2_lettersIn_44 (nI_1 k) (by decide) rfl ?_
          refine V_goto (pc := 47) (tgt := 4) dX2_lettersIn_47 (by decide) ?_
          first | exact ihA (k + 1) f _ (by omega) (by omega) (by simp only [leT]; rw [hf]; simp only; rw [if_neg (by omega), if_neg (by omega)]) | exact ihA (k + 1) (f + 1) _ (by omega) (by omega) (by simp only [leT]; rw [hf]; simp only; rw [if_neg (by omega), if_pos (by omega)])
        have h38 := mt (nI_eq (a := byN w k) (b := 0) (by omega) (by omega)).mpr h38
        refine V_iinc2 (pc := 41) (v := nI (f + 1)) dX2_lettersIn_41 (nI_1 f) (by decide) rfl ?_
        refine V_iinc3 (pc := 44) (v := nI (k + 1)) dX2_lettersIn_44 (nI_1 k) (by decide) rfl ?_
        refine V_goto (pc := 47) (tgt := 4) dX2_lettersIn_47 (by decide) ?_
        first | exact ihA (k + 1) f _ (by omega) (by omega) (by simp only [leT]; rw [hf]; simp only; rw [if_neg (by omega), if_neg (by omega)]) | exact ihA (k + 1) (f + 1) _ (by omega) (by omega) (by simp only [leT]; rw [hf]; simp only; rw [if_neg (by omega), if_pos (by omega)])
      have h26 := mt (nI_eq (a := byN w k) (b := 0) (by omega) (by omega)).mpr h26
      refine V_iload_n (pc := 29) dX2_lettersIn_29 rfl rfl ?_
      refine V_iload_n (pc := 30) dX2_lettersIn_30 rfl rfl ?_
      refine V_icmpge (pc := 31) (tgt := 36) dX2_lettersIn_31 (by decide) (fun h31 => ?_) (fun h31 => ?_)
      · have h31 := (nI_leI (a := k) (b := f) (by omega) (by omega)).mp h31
        refine V_iload (pc := 36) dX2_lettersIn_36 rfl ?_
        refine V_ifeq (pc := 38) (tgt := 44) dX2_lettersIn_38 (by decide) (fun h38 => ?_) (fun h38 => ?_)
        · have h38 := (nI_eq (a := byN w k) (b := 0) (by omega) (by omega)).mp h38
          refine V_iinc3 (pc := 44) (v := nI (k + 1)) dX2_lettersIn_44 (nI_1 k) (by decide) rfl ?_
          refine V_goto (pc := 47) (tgt := 4) dX2_lettersIn_47 (by decide) ?_
          first | exact ihA (k + 1) f _ (by omega) (by omega) (by simp only [leT]; rw [hf]; simp only; rw [if_neg (by omega), if_neg (by omega)]) | exact ihA (k + 1) (f + 1) _ (by omega) (by omega) (by simp only [leT]; rw [hf]; simp only; rw [if_neg (by omega), if_pos (by omega)])
        have h38 := mt (nI_eq (a := byN w k) (b := 0) (by omega) (by omega)).mpr h38
        refine V_iinc2 (pc := 41) (v := nI (f + 1)) dX2_lettersIn_41 (nI_1 f) (by decide) rfl ?_
        refine V_iinc3 (pc := 44) (v := nI (k + 1)) dX2_lettersIn_44 (nI_1 k) (by decide) rfl ?_
        refine V_goto (pc := 47) (tgt := 4) dX2_lettersIn_47 (by decide) ?_
        first | exact ihA (k + 1) f _ (by omega) (by omega) (by simp only [leT]; rw [hf]; simp only; rw [if_neg (by omega), if_neg (by omega)]) | exact ihA (k + 1) (f + 1) _ (by omega) (by omega) (by simp only [leT]; rw [hf]; simp only; rw [if_neg (by omega), if_pos (by omega)])
      have h31 := mt (nI_leI (a := k) (b := f) (by omega) (by omega)).mpr h31; have hno : leT w (k + 1) = none := by simp only [leT]; rw [hf]; exact if_pos (Or.inr ⟨h26, by omega⟩)
      refine V_iconst (pc := 34) (v := (-1)) dX2_lettersIn_34 (by decide) ?_
      refine V_iret (pc := 35) dX2_lettersIn_35 rfl ?_
      exact ⟨by rw [leK_none (leT_none (k + 1) 8 hno (by omega))]; rfl, rfl⟩
  exact loopA (8 + 1) 0 _ _ (by omega) (by omega) rfl
theorem dX2_add_0 : decode cX2_add 0 = .ok (.lload_n 1, 1) := by decide +kernel
theorem dX2_add_1 : decode cX2_add 1 = .ok (.invokestatic 15, 3) := by decide +kernel
theorem dX2_add_4 : decode cX2_add 4 = .ok (.istore_n 3, 1) := by decide +kernel
theorem dX2_add_5 : decode cX2_add 5 = .ok (.iload_n 3, 1) := by decide +kernel
theorem dX2_add_6 : decode cX2_add 6 = .ok (.ifCond .ge 6, 3) := by decide +kernel
theorem dX2_add_9 : decode cX2_add 9 = .ok (.bipush (-102), 2) := by decide +kernel
theorem dX2_add_11 : decode cX2_add 11 = .ok (.ireturn, 1) := by decide +kernel
theorem dX2_add_12 : decode cX2_add 12 = .ok (.aload_n 0, 1) := by decide +kernel
theorem dX2_add_13 : decode cX2_add 13 = .ok (.getfield 19, 3) := by decide +kernel
theorem dX2_add_16 : decode cX2_add 16 = .ok (.iload_n 3, 1) := by decide +kernel
theorem dX2_add_17 : decode cX2_add 17 = .ok (.iadd, 1) := by decide +kernel
theorem dX2_add_18 : decode cX2_add 18 = .ok (.bipush 30, 2) := by decide +kernel
theorem dX2_add_20 : decode cX2_add 20 = .ok (.if_icmp .le 6, 3) := by decide +kernel
theorem dX2_add_23 : decode cX2_add 23 = .ok (.bipush (-104), 2) := by decide +kernel
theorem dX2_add_25 : decode cX2_add 25 = .ok (.ireturn, 1) := by decide +kernel
theorem dX2_add_26 : decode cX2_add 26 = .ok (.iconst 0, 1) := by decide +kernel
theorem dX2_add_27 : decode cX2_add 27 = .ok (.istore 4, 2) := by decide +kernel
theorem dX2_add_29 : decode cX2_add 29 = .ok (.iload 4, 2) := by decide +kernel
theorem dX2_add_31 : decode cX2_add 31 = .ok (.iload_n 3, 1) := by decide +kernel
theorem dX2_add_32 : decode cX2_add 32 = .ok (.if_icmp .ge 27, 3) := by decide +kernel
theorem dX2_add_35 : decode cX2_add 35 = .ok (.aload_n 0, 1) := by decide +kernel
theorem dX2_add_36 : decode cX2_add 36 = .ok (.getfield 9, 3) := by decide +kernel
theorem dX2_add_39 : decode cX2_add 39 = .ok (.aload_n 0, 1) := by decide +kernel
theorem dX2_add_40 : decode cX2_add 40 = .ok (.getfield 19, 3) := by decide +kernel
theorem dX2_add_43 : decode cX2_add 43 = .ok (.iload 4, 2) := by decide +kernel
theorem dX2_add_45 : decode cX2_add 45 = .ok (.iadd, 1) := by decide +kernel
theorem dX2_add_46 : decode cX2_add 46 = .ok (.lload_n 1, 1) := by decide +kernel
theorem dX2_add_47 : decode cX2_add 47 = .ok (.iload 4, 2) := by decide +kernel
theorem dX2_add_49 : decode cX2_add 49 = .ok (.invokestatic 23, 3) := by decide +kernel
theorem dX2_add_52 : decode cX2_add 52 = .ok (.iastore, 1) := by decide +kernel
theorem dX2_add_53 : decode cX2_add 53 = .ok (.iinc 4 1, 3) := by decide +kernel
theorem dX2_add_56 : decode cX2_add 56 = .ok (.goto (-27), 3) := by decide +kernel
theorem dX2_add_59 : decode cX2_add 59 = .ok (.aload_n 0, 1) := by decide +kernel
theorem dX2_add_60 : decode cX2_add 60 = .ok (.dup, 1) := by decide +kernel
theorem dX2_add_61 : decode cX2_add 61 = .ok (.getfield 19, 3) := by decide +kernel
theorem dX2_add_64 : decode cX2_add 64 = .ok (.iload_n 3, 1) := by decide +kernel
theorem dX2_add_65 : decode cX2_add 65 = .ok (.iadd, 1) := by decide +kernel
theorem dX2_add_66 : decode cX2_add 66 = .ok (.putfield 19, 3) := by decide +kernel
theorem dX2_add_69 : decode cX2_add 69 = .ok (.aload_n 0, 1) := by decide +kernel
theorem dX2_add_70 : decode cX2_add 70 = .ok (.getfield 19, 3) := by decide +kernel
theorem dX2_add_73 : decode cX2_add 73 = .ok (.ireturn, 1) := by decide +kernel
set_option maxHeartbeats 4000000 in
set_option maxRecDepth 100000 in
theorem c_X2_add {l : Launch} {g : GW} {w : Int64} {n : Nat} {cd : Nat → Nat} (μ : Mm) (hP : PgR μ n cd) : Con l g yX2_add cX2_add 5 (some .int) 2 [.ref 1, .long w] μ (fun r μ' => if leK w = 0 then r = some (.int (-102)) ∧ μ' = μ else if 30 < n + (leK w - 1) then r = some (.int (-104)) ∧ μ' = μ else r = some (.int (nI (n + (leK w - 1)))) ∧ PgR μ' (n + (leK w - 1)) (pgW n (leK w - 1) w cd) ∧ FrM (fun k => k = 1 ∨ k = 2) μ μ') := by
  obtain ⟨p1, p2, p3⟩ := id hP
  have hk9 := leK_le (w := w)
  refine Con.of [.ref 1, .long w, .null, .null, .null] 2 (by decide +kernel) (Nat.le_of_ble_eq_true rfl) rfl ?_
  refine V_lload_n (pc := 0) dX2_add_0 rfl rfl ?_
  refine V_ins1 (pc := 1) dX2_add_1 ml_X2_15 (by first | decide | omega) (Nat.le_of_ble_eq_true rfl) (c_X2_lettersIn μ) ?_
  rintro _ μ2 ⟨rfl, hμ⟩
  obtain rfl := hμ.symm
  refine V_istore3 (pc := 4) dX2_add_4 (by decide) rfl ?_
  refine V_iload_n (pc := 5) dX2_add_5 rfl rfl ?_
  refine V_ifge (pc := 6) (tgt := 12) dX2_add_6 (by decide) (fun h6 => ?_) (fun h6 => ?_)
  · have h6z : leK w ≠ 0 := fun q => by rw [q] at h6; exact absurd h6 (by decide)
    obtain ⟨m, hm⟩ : ∃ m, leK w = m + 1 := ⟨leK w - 1, by omega⟩
    rw [hm, cI_s]
    rw [show m + 1 - 1 = m from rfl]
    refine V_aload_n (pc := 12) dX2_add_12 rfl rfl ?_
    refine V_getI (pc := 13) (ci := 2) (j := 1) dX2_add_13 fl_X2_19 (fun _ _ _ _ => rfl) (by decide) rfl ?_
    rw [p1]
    refine V_iload_n (pc := 16) dX2_add_16 rfl rfl ?_
    refine V_iadd (pc := 17) dX2_add_17 ?_
    rw [nI_add]
    refine V_bipush (pc := 18) (v := 30) dX2_add_18 (by decide) ?_
    refine V_icmple (pc := 20) (tgt := 26) dX2_add_20 (by decide) (fun h20 => ?_) (fun h20 => ?_)
    · have h20 := (nI_leI (a := n + m) (b := 30) (by omega) (by decide)).mp h20
      refine V_iconst (pc := 26) (v := 0) dX2_add_26 (by decide) ?_
      refine V_istore4 (pc := 27) dX2_add_27 (by decide) rfl ?_
      have loopA : ∀ (nA i : Nat) (μ1 : Mm), i ≤ m → m < i + nA → (∀ j, j < 30 → μ1.1 2 j = nI (pgW n i w cd j)) → (FrM (fun k => k = 2) μ μ1) → V l g RX2 cX2_add 5 (some .int) 2 29 [.ref 1, .long w, .null, .int (nI m), .int (nI i)] [] μ1 (fun r μ' => if m + 1 = 0 then r = some (.int (-102)) ∧ μ' = μ else if 30 < n + m then r = some (.int (-104)) ∧ μ' = μ else r = some (.int (nI (n + m))) ∧ PgR μ' (n + m) (pgW n m w cd) ∧ FrM (fun k => k = 1 ∨ k = 2) μ μ') := by
        intro nA
        induction nA with
        | zero => intro i μ1 h1 h2; exact absurd h2 (by omega)
        | succ nA ihA =>
          intro i μ1 hleA hfuA q1 q2
          refine V_iload (pc := 29) dX2_add_29 rfl ?_
          refine V_iload_n (pc := 31) dX2_add_31 rfl rfl ?_
          refine V_icmpge (pc := 32) (tgt := 59) dX2_add_32 (by decide) (fun h32 => ?_) (fun h32 => ?_)
          · have h32 := (nI_leI (a := m) (b := i) (by omega) (by omega)).mp h32; obtain rfl : m = i := by omega
            refine V_aload_n (pc := 59) dX2_add_59 rfl rfl ?_
            refine V_dup (pc := 60) dX2_add_60 rfl ?_
            refine V_getI (pc := 61) (ci := 2) (j := 1) dX2_add_61 fl_X2_19 (fun _ _ _ _ => rfl) (by decide) rfl ?_
            refine V_iload_n (pc := 64) dX2_add_64 rfl rfl ?_
            refine V_iadd (pc := 65) dX2_add_65 ?_
            refine V_putI (pc := 66) (ci := 2) (j := 1) dX2_add_66 fl_X2_19 (fun _ _ _ _ _ => rfl) rfl rfl (by decide) rfl ?_
            refine V_aload_n (pc := 69) dX2_add_69 rfl rfl ?_
            refine V_getI (pc := 70) (ci := 2) (j := 1) dX2_add_70 fl_X2_19 (fun _ _ _ _ => rfl) (by decide) rfl ?_
            refine V_iret (pc := 73) dX2_add_73 rfl ?_
            have e1 : μ1.1 1 1 + nI m = nI (n + m) := by rw [q2.1 1 (fun q => absurd q (by decide)), p1, nI_add]
            rw [if_neg (by omega), if_neg (by omega)]
            refine ⟨by rw [get_eq, e1], ⟨by rw [get_eq, e1], by omega, fun j hj => ?_⟩, (q2.wk (fun k hk => Or.inr hk)).set (Or.inl rfl)⟩
            rw [get_ne (by omega), q1 j hj]
            refine ⟨rfl, ?_⟩
            unfold pgW
            split
            · exact leK_by (by omega) (by omega)
            · exact (p3 j hj).2
          have hlt : i < m := nI_l3 (by omega) (by omega) h32
          refine V_aload_n (pc := 35) dX2_add_35 rfl rfl ?_
          refine V_getR (pc := 36) (ci := 2) (j := 0) (k2 := 2) dX2_add_36 fl_X2_9 (fun _ _ _ _ => rfl) (by decide) rfl (rf_2_0 rfl) ?_
          refine V_aload_n (pc := 39) dX2_add_39 rfl rfl ?_
          refine V_getI (pc := 40) (ci := 2) (j := 1) dX2_add_40 fl_X2_19 (fun _ _ _ _ => rfl) (by decide) rfl ?_
          refine V_iload (pc := 43) dX2_add_43 rfl ?_
          refine V_iadd (pc := 45) dX2_add_45 ?_
          refine V_lload_n (pc := 46) dX2_add_46 rfl rfl ?_
          refine V_iload (pc := 47) dX2_add_47 rfl ?_
          refine V_ins2 (pc := 49) dX2_add_49 ml_X2_23 (by first | decide | omega) (Nat.le_of_ble_eq_true rfl) (c_X2_byteAt μ1 (show i < 8 by omega)) ?_
          rintro _ μ2 ⟨rfl, hμ⟩
          obtain rfl := hμ.symm
          refine V_iast (pc := 52) (j := (n + i)) dX2_add_52 (by decide) rfl (by rw [q2.1 1 (fun q => absurd q (by decide)), p1, nI_add]) (by show n + i < 30; omega) ?_
          refine V_iinc4 (pc := 53) (v := nI (i + 1)) dX2_add_53 (nI_1 i) (by decide) rfl ?_
          refine V_goto (pc := 56) (tgt := 29) dX2_add_56 (by decide) ?_
          refine ihA (i + 1) _ (by omega) (by omega) (fun j hj => ?_) (q2.set rfl)
          by_cases e : j = n + i
          · rw [e, get_eq]; unfold pgW; rw [if_pos (by omega), show n + i - n = i by omega]
          · rw [get_ne (by omega), q1 j hj]; unfold pgW
            by_cases e2 : n ≤ j ∧ j < n + i
            · rw [if_pos e2, if_pos (by omega)]
            · rw [if_neg e2, if_neg (by omega)]
      exact loopA (m + 1) 0 _ (by omega) (by omega) (fun j hj => by rw [(p3 j hj).1]; unfold pgW; rw [if_neg (by omega)]) FrM.rf
    have h20 := mt (nI_leI (a := n + m) (b := 30) (by omega) (by decide)).mpr h20
    refine V_bipush (pc := 23) (v := (-104)) dX2_add_23 (by decide) ?_
    refine V_iret (pc := 25) dX2_add_25 rfl ?_
    rw [if_neg (by omega), if_pos (by omega)]
    exact ⟨rfl, rfl⟩
  have h6z : leK w = 0 := by rcases Nat.eq_zero_or_pos (leK w) with q | q; exact q; exact absurd (by rw [show cI (leK w) = nI (leK w - 1) from by rw [← cI_s, Nat.sub_add_cancel q]]; exact nI_pos' (by omega)) h6
  refine V_bipush (pc := 9) (v := (-102)) dX2_add_9 (by decide) ?_
  refine V_iret (pc := 11) dX2_add_11 rfl ?_
  rw [if_pos h6z]
  exact ⟨rfl, rfl⟩
