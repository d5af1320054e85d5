theorem dX6_begin_0 : decode cX6_begin 0 = .ok (.aload_n 0, 1) := by decide +kernel
theorem dX6_begin_1 : decode cX6_begin 1 = .ok (.iconst 1, 1) := by decide +kernel
theorem dX6_begin_2 : decode cX6_begin 2 = .ok (.putfield 15, 3) := by decide +kernel
theorem dX6_begin_5 : decode cX6_begin 5 = .ok (.aload_n 0, 1) := by decide +kernel
theorem dX6_begin_6 : decode cX6_begin 6 = .ok (.iload_n 1, 1) := by decide +kernel
theorem dX6_begin_7 : decode cX6_begin 7 = .ok (.putfield 19, 3) := by decide +kernel
theorem dX6_begin_10 : decode cX6_begin 10 = .ok (.aload_n 0, 1) := by decide +kernel
theorem dX6_begin_11 : decode cX6_begin 11 = .ok (.getfield 9, 3) := by decide +kernel
theorem dX6_begin_14 : decode cX6_begin 14 = .ok (.iconst 0, 1) := by decide +kernel
theorem dX6_begin_15 : decode cX6_begin 15 = .ok (.iload_n 2, 1) := by decide +kernel
theorem dX6_begin_16 : decode cX6_begin 16 = .ok (.iastore, 1) := by decide +kernel
theorem dX6_begin_17 : decode cX6_begin 17 = .ok (.aload_n 0, 1) := by decide +kernel
theorem dX6_begin_18 : decode cX6_begin 18 = .ok (.iconst 0, 1) := by decide +kernel
theorem dX6_begin_19 : decode cX6_begin 19 = .ok (.putfield 23, 3) := by decide +kernel
theorem dX6_begin_22 : decode cX6_begin 22 = .ok (.return_, 1) := by decide +kernel
set_option maxHeartbeats 4000000 in
set_option maxRecDepth 100000 in
theorem c_X6_begin {l : Launch} {g : GW} {κ p : Nat} {bg : Bool} {κ0 n : Nat} {pl : Nat → Nat} (μ : Mm) (hW : WkR μ bg κ0 n pl) (hκ : κ ≤ 4) (hp : p ≤ 9) : Con l g yX6_begin cX6_begin 3 none 0 [.ref 31, .int (nI κ), .int (nI p)] μ (fun r μ' => r = none ∧ WkR μ' true κ 0 (up1 pl 0 p) ∧ FrM (fun k => k = 31 ∨ k = 32) μ μ') := by
  obtain ⟨w1, w2, w3, w4, w5, w6⟩ := id hW
  refine Con.of [.ref 31, .int (nI κ), .int (nI p)] 0 (by decide +kernel) (Nat.le_of_ble_eq_true rfl) rfl ?_
  refine V_aload_n (pc := 0) dX6_begin_0 rfl rfl ?_
  refine V_iconst (pc := 1) (v := 1) dX6_begin_1 (by decide) ?_
  refine V_putZ (pc := 2) (ci := 6) (j := 1) dX6_begin_2 fl_X6_15 (fun _ _ _ _ _ => rfl) rfl rfl (by decide) rfl (by first | exact Or.inl rfl | exact Or.inr rfl | assumption) ?_
  refine V_aload_n (pc := 5) dX6_begin_5 rfl rfl ?_
  refine V_iload_n (pc := 6) dX6_begin_6 rfl rfl ?_
  refine V_putI (pc := 7) (ci := 6) (j := 2) dX6_begin_7 fl_X6_19 (fun _ _ _ _ _ => rfl) rfl rfl (by decide) rfl ?_
  refine V_aload_n (pc := 10) dX6_begin_10 rfl rfl ?_
  refine V_getR (pc := 11) (ci := 6) (j := 0) (k2 := 32) dX6_begin_11 fl_X6_9 (fun _ _ _ _ => rfl) (by decide) rfl (rf_6_0 rfl) ?_
  refine V_iconst (pc := 14) (v := 0) dX6_begin_14 (by decide) ?_
  refine V_iload_n (pc := 15) dX6_begin_15 rfl rfl ?_
  refine V_iast (pc := 16) (j := 0) dX6_begin_16 (by decide) rfl rfl (by decide) ?_
  refine V_aload_n (pc := 17) dX6_begin_17 rfl rfl ?_
  refine V_iconst (pc := 18) (v := 0) dX6_begin_18 (by decide) ?_
  refine V_putI (pc := 19) (ci := 6) (j := 3) dX6_begin_19 fl_X6_23 (fun _ _ _ _ _ => rfl) rfl rfl (by decide) rfl ?_
  refine V_vret (pc := 22) dX6_begin_22 rfl ?_
  refine ⟨rfl, ⟨?_, ?_, hκ, get_eq, by omega, fun j hj => ?_⟩, (((FrM.rf.set (Or.inl rfl)).set (Or.inl rfl)).set (Or.inr rfl)).set (Or.inl rfl)⟩
  · rw [get_ne (by omega), get_ne (by omega), get_ne (by omega), get_eq]; rfl
  · rw [get_ne (by omega), get_ne (by omega), get_eq]
  · by_cases e : j = 0
    · subst e
      rw [get_ne (by omega), get_eq, up1_eq]
      exact ⟨rfl, hp⟩
    · rw [get_ne (by omega), get_ne (by omega), get_ne (by omega), get_ne (by omega), up1_ne e]
      exact w6 j hj
theorem dX6_end_0 : decode cX6_end 0 = .ok (.aload_n 0, 1) := by decide +kernel
theorem dX6_end_1 : decode cX6_end 1 = .ok (.iconst 0, 1) := by decide +kernel
theorem dX6_end_2 : decode cX6_end 2 = .ok (.putfield 15, 3) := by decide +kernel
theorem dX6_end_5 : decode cX6_end 5 = .ok (.aload_n 0, 1) := by decide +kernel
theorem dX6_end_6 : decode cX6_end 6 = .ok (.iconst 0, 1) := by decide +kernel
theorem dX6_end_7 : decode cX6_end 7 = .ok (.putfield 23, 3) := by decide +kernel
theorem dX6_end_10 : decode cX6_end 10 = .ok (.return_, 1) := by decide +kernel
set_option maxHeartbeats 4000000 in
set_option maxRecDepth 100000 in
theorem c_X6_end {l : Launch} {g : GW} {bg : Bool} {κ n : Nat} {pl : Nat → Nat} (μ : Mm) (hW : WkR μ bg κ n pl) : Con l g yX6_end cX6_end 1 none 0 [.ref 31] μ (fun r μ' => r = none ∧ WkR μ' false κ 0 pl ∧ FrM (fun k => k = 31) μ μ') := by
  obtain ⟨w1, w2, w3, w4, w5, w6⟩ := id hW
  refine Con.of [.ref 31] 0 (by decide +kernel) (Nat.le_of_ble_eq_true rfl) rfl ?_
  refine V_aload_n (pc := 0) dX6_end_0 rfl rfl ?_
  refine V_iconst (pc := 1) (v := 0) dX6_end_1 (by decide) ?_
  refine V_putZ (pc := 2) (ci := 6) (j := 1) dX6_end_2 fl_X6_15 (fun _ _ _ _ _ => rfl) rfl rfl (by decide) rfl (by first | exact Or.inl rfl | exact Or.inr rfl | assumption) ?_
  refine V_aload_n (pc := 5) dX6_end_5 rfl rfl ?_
  refine V_iconst (pc := 6) (v := 0) dX6_end_6 (by decide) ?_
  refine V_putI (pc := 7) (ci := 6) (j := 3) dX6_end_7 fl_X6_23 (fun _ _ _ _ _ => rfl) rfl rfl (by decide) rfl ?_
  refine V_vret (pc := 10) dX6_end_10 rfl ?_
  refine ⟨rfl, ⟨?_, ?_, w3, get_eq, by omega, fun j hj => ?_⟩, ((FrM.rf (S := fun k => k = 31)).set rfl).set rfl⟩
  · rw [get_ne (by omega), get_eq]; rfl
  · rw [get_ne (by omega), get_ne (by omega)]; exact w2
  · rw [get_ne (by omega), get_ne (by omega)]; exact w6 j hj
theorem dX6_add_0 : decode cX6_add 0 = .ok (.aload_n 0, 1) := by decide +kernel
theorem dX6_add_1 : decode cX6_add 1 = .ok (.getfield 23, 3) := by decide +kernel
theorem dX6_add_4 : decode cX6_add 4 = .ok (.bipush 6, 2) := by decide +kernel
theorem dX6_add_6 : decode cX6_add 6 = .ok (.if_icmp .lt 6, 3) := by decide +kernel
theorem dX6_add_9 : decode cX6_add 9 = .ok (.bipush (-104), 2) := by decide +kernel
theorem dX6_add_11 : decode cX6_add 11 = .ok (.ireturn, 1) := by decide +kernel
theorem dX6_add_12 : decode cX6_add 12 = .ok (.aload_n 0, 1) := by decide +kernel
theorem dX6_add_13 : decode cX6_add 13 = .ok (.dup, 1) := by decide +kernel
theorem dX6_add_14 : decode cX6_add 14 = .ok (.getfield 23, 3) := by decide +kernel
theorem dX6_add_17 : decode cX6_add 17 = .ok (.iconst 1, 1) := by decide +kernel
theorem dX6_add_18 : decode cX6_add 18 = .ok (.iadd, 1) := by decide +kernel
theorem dX6_add_19 : decode cX6_add 19 = .ok (.putfield 23, 3) := by decide +kernel
theorem dX6_add_22 : decode cX6_add 22 = .ok (.aload_n 0, 1) := by decide +kernel
theorem dX6_add_23 : decode cX6_add 23 = .ok (.getfield 9, 3) := by decide +kernel
theorem dX6_add_26 : decode cX6_add 26 = .ok (.aload_n 0, 1) := by decide +kernel
theorem dX6_add_27 : decode cX6_add 27 = .ok (.getfield 23, 3) := by decide +kernel
theorem dX6_add_30 : decode cX6_add 30 = .ok (.iload_n 1, 1) := by decide +kernel
theorem dX6_add_31 : decode cX6_add 31 = .ok (.iastore, 1) := by decide +kernel
theorem dX6_add_32 : decode cX6_add 32 = .ok (.aload_n 0, 1) := by decide +kernel
theorem dX6_add_33 : decode cX6_add 33 = .ok (.getfield 23, 3) := by decide +kernel
theorem dX6_add_36 : decode cX6_add 36 = .ok (.ireturn, 1) := by decide +kernel
set_option maxHeartbeats 4000000 in
set_option maxRecDepth 100000 in
theorem c_X6_add {l : Launch} {g : GW} {bg : Bool} {κ n : Nat} {pl : Nat → Nat} {p : Nat} (μ : Mm) (hW : WkR μ bg κ n pl) (hp : p ≤ 9) : Con l g yX6_add cX6_add 2 (some .int) 0 [.ref 31, .int (nI p)] μ (fun r μ' => if n = 6 then r = some (.int (-104)) ∧ μ' = μ else r = some (.int (nI (n + 1))) ∧ WkR μ' bg κ (n + 1) (up1 pl (n + 1) p) ∧ FrM (fun k => k = 31 ∨ k = 32) μ μ') := by
  obtain ⟨w1, w2, w3, w4, w5, w6⟩ := id hW
  refine Con.of [.ref 31, .int (nI p)] 0 (by decide +kernel) (Nat.le_of_ble_eq_true rfl) rfl ?_
  refine V_aload_n (pc := 0) dX6_add_0 rfl rfl ?_
  refine V_getI (pc := 1) (ci := 6) (j := 3) dX6_add_1 fl_X6_23 (fun _ _ _ _ => rfl) (by decide) rfl ?_
  refine V_bipush (pc := 4) (v := 6) dX6_add_4 (by decide) ?_
  refine V_icmplt (pc := 6) (tgt := 12) dX6_add_6 (by decide) (fun h6 => ?_) (fun h6 => ?_)
  · rw [w4] at h6; have h6 := (nI_ltI (a := n) (b := 6) (by omega) (by decide)).mp h6
    refine V_aload_n (pc := 12) dX6_add_12 rfl rfl ?_
    refine V_dup (pc := 13) dX6_add_13 rfl ?_
    refine V_getI (pc := 14) (ci := 6) (j := 3) dX6_add_14 fl_X6_23 (fun _ _ _ _ => rfl) (by decide) rfl ?_
    refine V_iconst (pc := 17) (v := 1) dX6_add_17 (by decide) ?_
    refine V_iadd (pc := 18) dX6_add_18 ?_
    refine V_putI (pc := 19) (ci := 6) (j := 3) dX6_add_19 fl_X6_23 (fun _ _ _ _ _ => rfl) rfl rfl (by decide) rfl ?_
    refine V_aload_n (pc := 22) dX6_add_22 rfl rfl ?_
    refine V_getR (pc := 23) (ci := 6) (j := 0) (k2 := 32) dX6_add_23 fl_X6_9 (fun _ _ _ _ => rfl) (by decide) rfl (rf_6_0 rfl) ?_
    refine V_aload_n (pc := 26) dX6_add_26 rfl rfl ?_
    refine V_getI (pc := 27) (ci := 6) (j := 3) dX6_add_27 fl_X6_23 (fun _ _ _ _ => rfl) (by decide) rfl ?_
    refine V_iload_n (pc := 30) dX6_add_30 rfl rfl ?_
    refine V_iast (pc := 31) (j := (n + 1)) dX6_add_31 (by decide) rfl (by rw [get_eq, w4]; exact nI_1 n) (by show n + 1 < 7; omega) ?_
    refine V_aload_n (pc := 32) dX6_add_32 rfl rfl ?_
    refine V_getI (pc := 33) (ci := 6) (j := 3) dX6_add_33 fl_X6_23 (fun _ _ _ _ => rfl) (by decide) rfl ?_
    refine V_iret (pc := 36) dX6_add_36 rfl ?_
    rw [if_neg (by omega)]
    have e : μ.1 31 3 + 1 = nI (n + 1) := by rw [w4]; exact nI_1 n
    refine ⟨by rw [get_ne (by omega), get_eq, e], ⟨?_, ?_, w3, ?_, by omega, fun j hj => ?_⟩, (FrM.rf.set (Or.inl rfl)).set (Or.inr rfl)⟩
    · rw [get_ne (by omega), get_ne (by omega)]; exact w1
    · rw [get_ne (by omega), get_ne (by omega)]; exact w2
    · rw [get_ne (by omega), get_eq, e]
    · by_cases ej : j = n + 1
      · subst ej
        rw [get_eq, up1_eq]
        exact ⟨rfl, hp⟩
      · rw [get_ne (by omega), get_ne (by omega), up1_ne ej]
        exact w6 j hj
  rw [w4] at h6; have h6 := mt (nI_ltI (a := n) (b := 6) (by omega) (by decide)).mpr h6
  refine V_bipush (pc := 9) (v := (-104)) dX6_add_9 (by decide) ?_
  refine V_iret (pc := 11) dX6_add_11 rfl ?_
  rw [if_pos (by omega)]
  exact ⟨rfl, rfl⟩
theorem dX6_waysBy_0 : decode cX6_waysBy 0 = .ok (.aload_n 0, 1) := by decide +kernel
theorem dX6_waysBy_1 : decode cX6_waysBy 1 = .ok (.getfield 9, 3) := by decide +kernel
theorem dX6_waysBy_4 : decode cX6_waysBy 4 = .ok (.iload_n 2, 1) := by decide +kernel
theorem dX6_waysBy_5 : decode cX6_waysBy 5 = .ok (.iaload, 1) := by decide +kernel
theorem dX6_waysBy_6 : decode cX6_waysBy 6 = .ok (.istore 4, 2) := by decide +kernel
theorem dX6_waysBy_8 : decode cX6_waysBy 8 = .ok (.iload 4, 2) := by decide +kernel
theorem dX6_waysBy_10 : decode cX6_waysBy 10 = .ok (.bipush 9, 2) := by decide +kernel
theorem dX6_waysBy_12 : decode cX6_waysBy 12 = .ok (.if_icmp .ne 10, 3) := by decide +kernel
theorem dX6_waysBy_15 : decode cX6_waysBy 15 = .ok (.iload_n 3, 1) := by decide +kernel
theorem dX6_waysBy_16 : decode cX6_waysBy 16 = .ok (.iconst (-1), 1) := by decide +kernel
theorem dX6_waysBy_17 : decode cX6_waysBy 17 = .ok (.if_icmp .eq 5, 3) := by decide +kernel
theorem dX6_waysBy_20 : decode cX6_waysBy 20 = .ok (.iconst 0, 1) := by decide +kernel
theorem dX6_waysBy_21 : decode cX6_waysBy 21 = .ok (.ireturn, 1) := by decide +kernel
theorem dX6_waysBy_22 : decode cX6_waysBy 22 = .ok (.iconst 0, 1) := by decide +kernel
theorem dX6_waysBy_23 : decode cX6_waysBy 23 = .ok (.istore 5, 2) := by decide +kernel
theorem dX6_waysBy_25 : decode cX6_waysBy 25 = .ok (.iconst 0, 1) := by decide +kernel
theorem dX6_waysBy_26 : decode cX6_waysBy 26 = .ok (.istore 6, 2) := by decide +kernel
theorem dX6_waysBy_28 : decode cX6_waysBy 28 = .ok (.iload 6, 2) := by decide +kernel
theorem dX6_waysBy_30 : decode cX6_waysBy 30 = .ok (.iconst 4, 1) := by decide +kernel
theorem dX6_waysBy_31 : decode cX6_waysBy 31 = .ok (.if_icmp .gt 45, 3) := by decide +kernel
theorem dX6_waysBy_34 : decode cX6_waysBy 34 = .ok (.aload_n 1, 1) := by decide +kernel
theorem dX6_waysBy_35 : decode cX6_waysBy 35 = .ok (.iload 6, 2) := by decide +kernel
theorem dX6_waysBy_37 : decode cX6_waysBy 37 = .ok (.invokevirtual 30, 3) := by decide +kernel
theorem dX6_waysBy_40 : decode cX6_waysBy 40 = .ok (.ifCond .le 30, 3) := by decide +kernel
theorem dX6_waysBy_43 : decode cX6_waysBy 43 = .ok (.aload_n 1, 1) := by decide +kernel
theorem dX6_waysBy_44 : decode cX6_waysBy 44 = .ok (.aload_n 0, 1) := by decide +kernel
theorem dX6_waysBy_45 : decode cX6_waysBy 45 = .ok (.getfield 19, 3) := by decide +kernel
theorem dX6_waysBy_48 : decode cX6_waysBy 48 = .ok (.iload 4, 2) := by decide +kernel
theorem dX6_waysBy_50 : decode cX6_waysBy 50 = .ok (.iload_n 3, 1) := by decide +kernel
theorem dX6_waysBy_51 : decode cX6_waysBy 51 = .ok (.iload 6, 2) := by decide +kernel
theorem dX6_waysBy_53 : decode cX6_waysBy 53 = .ok (.invokestatic 36, 3) := by decide +kernel
theorem dX6_waysBy_56 : decode cX6_waysBy 56 = .ok (.aload_n 0, 1) := by decide +kernel
theorem dX6_waysBy_57 : decode cX6_waysBy 57 = .ok (.getfield 9, 3) := by decide +kernel
theorem dX6_waysBy_60 : decode cX6_waysBy 60 = .ok (.iload_n 2, 1) := by decide +kernel
theorem dX6_waysBy_61 : decode cX6_waysBy 61 = .ok (.iconst 1, 1) := by decide +kernel
theorem dX6_waysBy_62 : decode cX6_waysBy 62 = .ok (.iadd, 1) := by decide +kernel
theorem dX6_waysBy_63 : decode cX6_waysBy 63 = .ok (.iaload, 1) := by decide +kernel
theorem dX6_waysBy_64 : decode cX6_waysBy 64 = .ok (.if_icmp .ne 6, 3) := by decide +kernel
theorem dX6_waysBy_67 : decode cX6_waysBy 67 = .ok (.iinc 5 1, 3) := by decide +kernel
theorem dX6_waysBy_70 : decode cX6_waysBy 70 = .ok (.iinc 6 1, 3) := by decide +kernel
theorem dX6_waysBy_73 : decode cX6_waysBy 73 = .ok (.goto (-45), 3) := by decide +kernel
theorem dX6_waysBy_76 : decode cX6_waysBy 76 = .ok (.iload 5, 2) := by decide +kernel
theorem dX6_waysBy_78 : decode cX6_waysBy 78 = .ok (.ireturn, 1) := by decide +kernel
set_option maxHeartbeats 4000000 in
set_option maxRecDepth 100000 in
theorem c_X6_waysBy {l : Launch} {g : GW} {b d k : Nat} {tn : Nat → Nat → Nat} {ow : Nat → Nat} {bg : Bool} {κ n : Nat} {pl : Nat → Nat} (μ : Mm) (hb : b = 49 ∨ b = 57) (hB : BkR μ b tn ow) (hW : WkR μ bg κ n pl) (hd : d < 6) (hk : k ≤ 6) : Con l g yX6_waysBy cX6_waysBy 7 (some .int) 3 [.ref 31, .ref b, .int (nI d), .int (cI k)] μ (fun r μ' => r = some (.int (nI (wdT tn ow κ pl d k))) ∧ μ' = μ) := by
  obtain ⟨hb1, hb2, hb3, hb4, hb5, hb6, hrow⟩ := bkF hb
  obtain ⟨w1, w2, w3, w4, w5, w6⟩ := id hW
  obtain ⟨wa, wb⟩ := w6 d (by omega)
  obtain ⟨wc, wd⟩ := w6 (d + 1) (by omega)
  refine Con.of [.ref 31, .ref b, .int (nI d), .int (cI k), .null, .null, .null] 3 (by decide +kernel) (Nat.le_of_ble_eq_true rfl) rfl ?_
  refine V_aload_n (pc := 0) dX6_waysBy_0 rfl rfl ?_
  refine V_getR (pc := 1) (ci := 6) (j := 0) (k2 := 32) dX6_waysBy_1 fl_X6_9 (fun _ _ _ _ => rfl) (by decide) rfl (rf_6_0 rfl) ?_
  refine V_iload_n (pc := 4) dX6_waysBy_4 rfl rfl ?_
  refine V_iald (pc := 5) (j := d) dX6_waysBy_5 (by decide) rfl rfl (by show d < 7; omega) ?_
  rw [wa]
  refine V_istore4 (pc := 6) dX6_waysBy_6 (by decide) rfl ?_
  have J : ¬ (pl d = 9 ∧ k ≠ 0) → V l g RX6 cX6_waysBy 7 (some .int) 3 22 [.ref 31, .ref b, .int (nI d), .int (cI k), .int (nI (pl d)), .null, .null] [] μ (fun r μ' => r = some (.int (nI (wdT tn ow κ pl d k))) ∧ μ' = μ) := by
    intro hJ
    refine V_iconst (pc := 22) (v := 0) dX6_waysBy_22 (by decide) ?_
    refine V_istore5 (pc := 23) dX6_waysBy_23 (by decide) rfl ?_
    refine V_iconst (pc := 25) (v := 0) dX6_waysBy_25 (by decide) ?_
    refine V_istore6 (pc := 26) dX6_waysBy_26 (by decide) rfl ?_
    have loop : ∀ (n i : Nat) (acc : Int32), i ≤ 5 → 5 < i + n → (acc = nI (wbT tn ow κ pl d k i)) → V l g RX6 cX6_waysBy 7 (some .int) 3 28 [.ref 31, .ref b, .int (nI d), .int (cI k), .int (nI (pl d)), .int acc, .int (nI i)] [] μ (fun r μ' => r = some (.int (nI (wdT tn ow κ pl d k))) ∧ μ' = μ) := by
      intro n
      induction n with
      | zero => intro i acc h1 h2; exact absurd h2 (by omega)
      | succ n ih =>
        intro i acc hle hfu hacc
        refine V_iload (pc := 28) dX6_waysBy_28 rfl ?_
        refine V_iconst (pc := 30) (v := 4) dX6_waysBy_30 (by decide) ?_
        refine V_icmpgt (pc := 31) (tgt := 76) dX6_waysBy_31 (by decide) (fun h31 => ?_) (fun h31 => ?_)
        · have h31 := (nI_ltI (a := 4) (b := i) (by decide) (by omega)).mp h31; obtain rfl : i = 5 := by omega
          refine V_iload (pc := 76) dX6_waysBy_76 rfl ?_
          refine V_iret (pc := 78) dX6_waysBy_78 rfl ?_
          exact ⟨by rw [hacc, show wdT tn ow κ pl d k = wbT tn ow κ pl d k 5 from if_neg hJ], rfl⟩
        have hlt : i < 5 := by have := mt (nI_ltI (a := 4) (b := i) (by decide) (by omega)).mpr h31; omega
        refine V_aload_n (pc := 34) dX6_waysBy_34 rfl rfl ?_
        refine V_iload (pc := 35) dX6_waysBy_35 rfl ?_
        refine V_inv1 (pc := 37) (ci := 0) dX6_waysBy_37 ml_X6_30 (by first | decide | omega) (by first | rfl | assumption | exact (hrow _ (by omega)).2.1 | decide) ⟨by decide, rfl⟩ (by decide) (Nat.le_of_ble_eq_true rfl) (c_X0_strengthInAll μ hb hB (show i ≤ 4 by omega)) ?_
        rintro _ μ2 ⟨rfl, hμ⟩
        obtain rfl := hμ.symm
        have hsl := sumT_le (tn := tn) (w := i) (fun s hs => hB.le (by omega) hs) 3 (by omega)
        refine V_ifle (pc := 40) (tgt := 70) dX6_waysBy_40 (by decide) (fun h40 => ?_) (fun h40 => ?_)
        · have h40 := (nI_leI (a := sumT tn i 3) (b := 0) (by omega) (by decide)).mp h40; have hno : ¬ (0 < sumT tn i 3 ∧ aft ow κ (pl d) k i = pl (d + 1)) := fun q => by omega
          refine V_iinc6 (pc := 70) (v := nI (i + 1)) dX6_waysBy_70 (nI_1 i) (by decide) rfl ?_
          refine V_goto (pc := 73) (tgt := 28) dX6_waysBy_73 (by decide) ?_
          exact ih (i + 1) _ (by omega) (by omega) (by show _ = nI (wbT tn ow κ pl d k i + if 0 < sumT tn i 3 ∧ aft ow κ (pl d) k i = pl (d + 1) then 1 else 0); first | rw [if_neg hno, hacc, Nat.add_zero] | (rw [if_pos hyes, hacc]; exact nI_1 _))
        have h40 := mt (nI_leI (a := sumT tn i 3) (b := 0) (by omega) (by decide)).mpr h40
        refine V_aload_n (pc := 43) dX6_waysBy_43 rfl rfl ?_
        refine V_aload_n (pc := 44) dX6_waysBy_44 rfl rfl ?_
        refine V_getI (pc := 45) (ci := 6) (j := 2) dX6_waysBy_45 fl_X6_19 (fun _ _ _ _ => rfl) (by decide) rfl ?_
        rw [w2]
        refine V_iload (pc := 48) dX6_waysBy_48 rfl ?_
        refine V_iload_n (pc := 50) dX6_waysBy_50 rfl rfl ?_
        refine V_iload (pc := 51) dX6_waysBy_51 rfl ?_
        refine V_ins5 (pc := 53) dX6_waysBy_53 ml_X6_36 (by decide) (Nat.le_of_ble_eq_true rfl) (c_X7_placeAfter μ hb hB w3 wb hk (show i ≤ 4 by omega)) ?_
        rintro _ μ2 ⟨rfl, hμ⟩
        obtain rfl := hμ.symm
        refine V_aload_n (pc := 56) dX6_waysBy_56 rfl rfl ?_
        refine V_getR (pc := 57) (ci := 6) (j := 0) (k2 := 32) dX6_waysBy_57 fl_X6_9 (fun _ _ _ _ => rfl) (by decide) rfl (rf_6_0 rfl) ?_
        refine V_iload_n (pc := 60) dX6_waysBy_60 rfl rfl ?_
        refine V_iconst (pc := 61) (v := 1) dX6_waysBy_61 (by decide) ?_
        refine V_iadd (pc := 62) dX6_waysBy_62 ?_
        refine V_iald (pc := 63) (j := (d + 1)) dX6_waysBy_63 (by decide) rfl (nI_1 d) (by show d + 1 < 7; omega) ?_
        refine V_icmpne (pc := 64) (tgt := 70) dX6_waysBy_64 (by decide) (fun h64 => ?_) (fun h64 => ?_)
        · rw [wc] at h64; have h64 := mt (nI_eq (a := aft ow κ (pl d) k i) (b := pl (d + 1)) (by have := aft_le (ow := ow) (κ := κ) (k := k) (w := i) wb; omega) (by omega)).mpr h64; have hno : ¬ (0 < sumT tn i 3 ∧ aft ow κ (pl d) k i = pl (d + 1)) := fun q => h64 q.2
          refine V_iinc6 (pc := 70) (v := nI (i + 1)) dX6_waysBy_70 (nI_1 i) (by decide) rfl ?_
          refine V_goto (pc := 73) (tgt := 28) dX6_waysBy_73 (by decide) ?_
          exact ih (i + 1) _ (by omega) (by omega) (by show _ = nI (wbT tn ow κ pl d k i + if 0 < sumT tn i 3 ∧ aft ow κ (pl d) k i = pl (d + 1) then 1 else 0); first | rw [if_neg hno, hacc, Nat.add_zero] | (rw [if_pos hyes, hacc]; exact nI_1 _))
        rw [wc] at h64; have h64 := (nI_eq (a := aft ow κ (pl d) k i) (b := pl (d + 1)) (by have := aft_le (ow := ow) (κ := κ) (k := k) (w := i) wb; omega) (by omega)).mp h64; have hyes : 0 < sumT tn i 3 ∧ aft ow κ (pl d) k i = pl (d + 1) := ⟨by omega, h64⟩
        refine V_iinc5 (pc := 67) dX6_waysBy_67 rfl (by decide) rfl ?_
        refine V_iinc6 (pc := 70) (v := nI (i + 1)) dX6_waysBy_70 (nI_1 i) (by decide) rfl ?_
        refine V_goto (pc := 73) (tgt := 28) dX6_waysBy_73 (by decide) ?_
        exact ih (i + 1) _ (by omega) (by omega) (by show _ = nI (wbT tn ow κ pl d k i + if 0 < sumT tn i 3 ∧ aft ow κ (pl d) k i = pl (d + 1) then 1 else 0); first | rw [if_neg hno, hacc, Nat.add_zero] | (rw [if_pos hyes, hacc]; exact nI_1 _))
    exact loop (5 + 1) 0 _ (by omega) (by omega) rfl
  refine V_iload (pc := 8) dX6_waysBy_8 rfl ?_
  refine V_bipush (pc := 10) (v := 9) dX6_waysBy_10 (by decide) ?_
  refine V_icmpne (pc := 12) (tgt := 22) dX6_waysBy_12 (by decide) (fun h12 => ?_) (fun h12 => ?_)
  · have h12 := mt (nI_eq (a := pl d) (b := 9) (by omega) (by decide)).mpr h12; exact J (by omega)
  have h12 := (nI_eq (a := pl d) (b := 9) (by omega) (by decide)).mp h12
  refine V_iload_n (pc := 15) dX6_waysBy_15 rfl rfl ?_
  refine V_iconst (pc := 16) (v := (-1)) dX6_waysBy_16 (by decide) ?_
  refine V_icmpeq (pc := 17) (tgt := 22) dX6_waysBy_17 (by decide) (fun h17 => ?_) (fun h17 => ?_)
  · have h17 := (cI_m1 (a := k) (by omega)).mp h17; exact J (by omega)
  have h17 := mt (cI_m1 (a := k) (by omega)).mpr h17
  refine V_iconst (pc := 20) (v := 0) dX6_waysBy_20 (by decide) ?_
  refine V_iret (pc := 21) dX6_waysBy_21 rfl ?_
  exact ⟨by rw [show wdT tn ow κ pl d k = 0 from if_pos ⟨h12, h17⟩]; rfl, rfl⟩
theorem cI_int {a : Nat} (ha : a < 2 ^ 31) : (cI a).toInt = (a : Int) - 1 := by
  cases a with
  | zero => rfl
  | succ a => rw [cI_s, nI_toInt (by omega)]; omega
theorem cI_le {a b : Nat} (ha : a < 2 ^ 31) (hb : b < 2 ^ 31) (h : cI a ≤ cI b) : a ≤ b := by
  rw [Int32.le_iff_toInt_le, cI_int ha, cI_int hb] at h; omega
theorem cI_le2 {a b : Nat} (ha : a < 2 ^ 31) (hb : b < 2 ^ 31) (h : a ≤ b) : cI a ≤ cI b := by
  rw [Int32.le_iff_toInt_le, cI_int ha, cI_int hb]; omega
theorem dX6_ways_0 : decode cX6_ways 0 = .ok (.iconst 1, 1) := by decide +kernel
theorem dX6_ways_1 : decode cX6_ways 1 = .ok (.istore_n 2, 1) := by decide +kernel
theorem dX6_ways_2 : decode cX6_ways 2 = .ok (.iconst 0, 1) := by decide +kernel
theorem dX6_ways_3 : decode cX6_ways 3 = .ok (.istore_n 3, 1) := by decide +kernel
theorem dX6_ways_4 : decode cX6_ways 4 = .ok (.iload_n 3, 1) := by decide +kernel
theorem dX6_ways_5 : decode cX6_ways 5 = .ok (.aload_n 0, 1) := by decide +kernel
theorem dX6_ways_6 : decode cX6_ways 6 = .ok (.getfield 23, 3) := by decide +kernel
theorem dX6_ways_9 : decode cX6_ways 9 = .ok (.if_icmp .ge 46, 3) := by decide +kernel
theorem dX6_ways_12 : decode cX6_ways 12 = .ok (.iconst 0, 1) := by decide +kernel
theorem dX6_ways_13 : decode cX6_ways 13 = .ok (.istore 4, 2) := by decide +kernel
theorem dX6_ways_15 : decode cX6_ways 15 = .ok (.iconst (-1), 1) := by decide +kernel
theorem dX6_ways_16 : decode cX6_ways 16 = .ok (.istore 5, 2) := by decide +kernel
theorem dX6_ways_18 : decode cX6_ways 18 = .ok (.iload 5, 2) := by decide +kernel
theorem dX6_ways_20 : decode cX6_ways 20 = .ok (.bipush 6, 2) := by decide +kernel
theorem dX6_ways_22 : decode cX6_ways 22 = .ok (.if_icmp .ge 22, 3) := by decide +kernel
theorem dX6_ways_25 : decode cX6_ways 25 = .ok (.iload 4, 2) := by decide +kernel
theorem dX6_ways_27 : decode cX6_ways 27 = .ok (.aload_n 0, 1) := by decide +kernel
theorem dX6_ways_28 : decode cX6_ways 28 = .ok (.aload_n 1, 1) := by decide +kernel
theorem dX6_ways_29 : decode cX6_ways 29 = .ok (.iload_n 3, 1) := by decide +kernel
theorem dX6_ways_30 : decode cX6_ways 30 = .ok (.iload 5, 2) := by decide +kernel
theorem dX6_ways_32 : decode cX6_ways 32 = .ok (.invokevirtual 26, 3) := by decide +kernel
theorem dX6_ways_35 : decode cX6_ways 35 = .ok (.iadd, 1) := by decide +kernel
theorem dX6_ways_36 : decode cX6_ways 36 = .ok (.istore 4, 2) := by decide +kernel
theorem dX6_ways_38 : decode cX6_ways 38 = .ok (.iinc 5 1, 3) := by decide +kernel
theorem dX6_ways_41 : decode cX6_ways 41 = .ok (.goto (-23), 3) := by decide +kernel
theorem dX6_ways_44 : decode cX6_ways 44 = .ok (.iload_n 2, 1) := by decide +kernel
theorem dX6_ways_45 : decode cX6_ways 45 = .ok (.iload 4, 2) := by decide +kernel
theorem dX6_ways_47 : decode cX6_ways 47 = .ok (.imul, 1) := by decide +kernel
theorem dX6_ways_48 : decode cX6_ways 48 = .ok (.istore_n 2, 1) := by decide +kernel
theorem dX6_ways_49 : decode cX6_ways 49 = .ok (.iinc 3 1, 3) := by decide +kernel
theorem dX6_ways_52 : decode cX6_ways 52 = .ok (.goto (-48), 3) := by decide +kernel
theorem dX6_ways_55 : decode cX6_ways 55 = .ok (.iload_n 2, 1) := by decide +kernel
theorem dX6_ways_56 : decode cX6_ways 56 = .ok (.ireturn, 1) := by decide +kernel
set_option maxHeartbeats 4000000 in
set_option maxRecDepth 100000 in
theorem c_X6_ways {l : Launch} {g : GW} {b : Nat} {tn : Nat → Nat → Nat} {ow : Nat → Nat} {bg : Bool} {κ n : Nat} {pl : Nat → Nat} (μ : Mm) (hb : b = 49 ∨ b = 57) (hB : BkR μ b tn ow) (hW : WkR μ bg κ n pl) : Con l g yX6_ways cX6_ways 6 (some .int) 4 [.ref 31, .ref b] μ (fun r μ' => r = some (.int (nI (wyT tn ow κ pl n))) ∧ μ' = μ) := by
  obtain ⟨hb1, hb2, hb3, hb4, hb5, hb6, hrow⟩ := bkF hb
  obtain ⟨w1, w2, w3, w4, w5, w6⟩ := id hW
  refine Con.of [.ref 31, .ref b, .null, .null, .null, .null] 4 (by decide +kernel) (Nat.le_of_ble_eq_true rfl) rfl ?_
  refine V_iconst (pc := 0) (v := 1) dX6_ways_0 (by decide) ?_
  refine V_istore2 (pc := 1) dX6_ways_1 (by decide) rfl ?_
  refine V_iconst (pc := 2) (v := 0) dX6_ways_2 (by decide) ?_
  refine V_istore3 (pc := 3) dX6_ways_3 (by decide) rfl ?_
  have loopA : ∀ (nA d : Nat) (acc : Int32) (y4 y5 : Value), d ≤ n → n < d + nA → (acc = nI (wyT tn ow κ pl d)) → V l g RX6 cX6_ways 6 (some .int) 4 4 [.ref 31, .ref b, .int acc, .int (nI d), y4, y5] [] μ (fun r μ' => r = some (.int (nI (wyT tn ow κ pl n))) ∧ μ' = μ) := by
    intro nA
    induction nA with
    | zero => intro d acc y4 y5 h1 h2; exact absurd h2 (by omega)
    | succ nA ihA =>
      intro d acc y4 y5 hleA hfuA hacc
      refine V_iload_n (pc := 4) dX6_ways_4 rfl rfl ?_
      refine V_aload_n (pc := 5) dX6_ways_5 rfl rfl ?_
      refine V_getI (pc := 6) (ci := 6) (j := 3) dX6_ways_6 fl_X6_23 (fun _ _ _ _ => rfl) (by decide) rfl ?_
      refine V_icmpge (pc := 9) (tgt := 55) dX6_ways_9 (by decide) (fun h9 => ?_) (fun h9 => ?_)
      · rw [w4, nI_leI (by omega) (by omega)] at h9; obtain rfl : d = n := by omega
        refine V_iload_n (pc := 55) dX6_ways_55 rfl rfl ?_
        refine V_iret (pc := 56) dX6_ways_56 rfl ?_
        exact ⟨by rw [hacc], rfl⟩
      rw [w4, nI_leI (by omega) (by omega)] at h9; have hlt : d < n := by omega
      refine V_iconst (pc := 12) (v := 0) dX6_ways_12 (by decide) ?_
      refine V_istore4 (pc := 13) dX6_ways_13 (by decide) rfl ?_
      refine V_iconst (pc := 15) (v := (-1)) dX6_ways_15 (by decide) ?_
      refine V_istore5 (pc := 16) dX6_ways_16 (by decide) rfl ?_
      have loopB : ∀ (nB k : Nat) (ac2 : Int32), k ≤ 7 → 7 < k + nB → (ac2 = nI (dsT tn ow κ pl d k)) → V l g RX6 cX6_ways 6 (some .int) 4 18 [.ref 31, .ref b, .int acc, .int (nI d), .int ac2, .int (cI k)] [] μ (fun r μ' => r = some (.int (nI (wyT tn ow κ pl n))) ∧ μ' = μ) := by
        intro nB
        induction nB with
        | zero => intro k ac2 h1 h2; exact absurd h2 (by omega)
        | succ nB ihB =>
          intro k ac2 hleB hfuB hac2
          refine V_iload (pc := 18) dX6_ways_18 rfl ?_
          refine V_bipush (pc := 20) (v := 6) dX6_ways_20 (by decide) ?_
          refine V_icmpge (pc := 22) (tgt := 44) dX6_ways_22 (by decide) (fun h22 => ?_) (fun h22 => ?_)
          · rw [show (6 : Int32) = cI 7 from rfl] at h22; have h22 : 7 ≤ k := cI_le (by omega) (by omega) h22; obtain rfl : k = 7 := by omega
            refine V_iload_n (pc := 44) dX6_ways_44 rfl rfl ?_
            refine V_iload (pc := 45) dX6_ways_45 rfl ?_
            refine V_imul (pc := 47) dX6_ways_47 ?_
            refine V_istore2 (pc := 48) dX6_ways_48 (by decide) rfl ?_
            refine V_iinc3 (pc := 49) (v := nI (d + 1)) dX6_ways_49 (nI_1 d) (by decide) rfl ?_
            refine V_goto (pc := 52) (tgt := 4) dX6_ways_52 (by decide) ?_
            exact ihA (d + 1) _ _ _ (by omega) (by omega) (by rw [hacc, hac2, pk_mul]; rfl)
          have hltk : k < 7 := by rcases Nat.lt_or_ge k 7 with q | q; exact q; exact absurd (cI_le2 (a := 7) (b := k) (by omega) (by omega) q) h22
          refine V_iload (pc := 25) dX6_ways_25 rfl ?_
          refine V_aload_n (pc := 27) dX6_ways_27 rfl rfl ?_
          refine V_aload_n (pc := 28) dX6_ways_28 rfl rfl ?_
          refine V_iload_n (pc := 29) dX6_ways_29 rfl rfl ?_
          refine V_iload (pc := 30) dX6_ways_30 rfl ?_
          refine V_inv3 (pc := 32) (ci := 6) dX6_ways_32 ml_X6_26 (by decide) rfl ⟨by decide, rfl⟩ (by decide) (Nat.le_of_ble_eq_true rfl) (c_X6_waysBy μ hb hB hW (show d < 6 by omega) (show k ≤ 6 by omega)) ?_
          rintro _ μ2 ⟨rfl, hμ⟩
          obtain rfl := hμ.symm
          refine V_iadd (pc := 35) dX6_ways_35 ?_
          refine V_istore4 (pc := 36) dX6_ways_36 (by decide) rfl ?_
          refine V_iinc5 (pc := 38) (v := cI (k + 1)) dX6_ways_38 (cI_n k) (by decide) rfl ?_
          refine V_goto (pc := 41) (tgt := 18) dX6_ways_41 (by decide) ?_
          exact ihB (k + 1) _ (by omega) (by omega) (by rw [hac2, nI_add]; rfl)
      exact loopB (7 + 1) 0 _ (by omega) (by omega) rfl
  exact loopA (n + 1) 0 _ _ _ (by omega) (by omega) rfl
theorem dX6_callOn_0 : decode cX6_callOn 0 = .ok (.aload_n 0, 1) := by decide +kernel
theorem dX6_callOn_1 : decode cX6_callOn 1 = .ok (.aload_n 1, 1) := by decide +kernel
theorem dX6_callOn_2 : decode cX6_callOn 2 = .ok (.invokevirtual 40, 3) := by decide +kernel
theorem dX6_callOn_5 : decode cX6_callOn 5 = .ok (.ifCond .ne 6, 3) := by decide +kernel
theorem dX6_callOn_8 : decode cX6_callOn 8 = .ok (.bipush 6, 2) := by decide +kernel
theorem dX6_callOn_10 : decode cX6_callOn 10 = .ok (.ireturn, 1) := by decide +kernel
theorem dX6_callOn_11 : decode cX6_callOn 11 = .ok (.bipush 6, 2) := by decide +kernel
theorem dX6_callOn_13 : decode cX6_callOn 13 = .ok (.istore_n 3, 1) := by decide +kernel
theorem dX6_callOn_14 : decode cX6_callOn 14 = .ok (.iconst 0, 1) := by decide +kernel
theorem dX6_callOn_15 : decode cX6_callOn 15 = .ok (.istore 4, 2) := by decide +kernel
theorem dX6_callOn_17 : decode cX6_callOn 17 = .ok (.iconst (-1), 1) := by decide +kernel
theorem dX6_callOn_18 : decode cX6_callOn 18 = .ok (.istore 5, 2) := by decide +kernel
theorem dX6_callOn_20 : decode cX6_callOn 20 = .ok (.iload 5, 2) := by decide +kernel
theorem dX6_callOn_22 : decode cX6_callOn 22 = .ok (.bipush 6, 2) := by decide +kernel
theorem dX6_callOn_24 : decode cX6_callOn 24 = .ok (.if_icmp .ge 26, 3) := by decide +kernel
theorem dX6_callOn_27 : decode cX6_callOn 27 = .ok (.aload_n 0, 1) := by decide +kernel
theorem dX6_callOn_28 : decode cX6_callOn 28 = .ok (.aload_n 1, 1) := by decide +kernel
theorem dX6_callOn_29 : decode cX6_callOn 29 = .ok (.iload_n 2, 1) := by decide +kernel
theorem dX6_callOn_30 : decode cX6_callOn 30 = .ok (.iload 5, 2) := by decide +kernel
theorem dX6_callOn_32 : decode cX6_callOn 32 = .ok (.invokevirtual 26, 3) := by decide +kernel
theorem dX6_callOn_35 : decode cX6_callOn 35 = .ok (.ifCond .le 9, 3) := by decide +kernel
theorem dX6_callOn_38 : decode cX6_callOn 38 = .ok (.iload 5, 2) := by decide +kernel
theorem dX6_callOn_40 : decode cX6_callOn 40 = .ok (.istore_n 3, 1) := by decide +kernel
theorem dX6_callOn_41 : decode cX6_callOn 41 = .ok (.iinc 4 1, 3) := by decide +kernel
theorem dX6_callOn_44 : decode cX6_callOn 44 = .ok (.iinc 5 1, 3) := by decide +kernel
theorem dX6_callOn_47 : decode cX6_callOn 47 = .ok (.goto (-27), 3) := by decide +kernel
theorem dX6_callOn_50 : decode cX6_callOn 50 = .ok (.iload 4, 2) := by decide +kernel
theorem dX6_callOn_52 : decode cX6_callOn 52 = .ok (.iconst 1, 1) := by decide +kernel
theorem dX6_callOn_53 : decode cX6_callOn 53 = .ok (.if_icmp .ne 7, 3) := by decide +kernel
theorem dX6_callOn_56 : decode cX6_callOn 56 = .ok (.iload_n 3, 1) := by decide +kernel
theorem dX6_callOn_57 : decode cX6_callOn 57 = .ok (.goto 5, 3) := by decide +kernel
theorem dX6_callOn_60 : decode cX6_callOn 60 = .ok (.bipush 6, 2) := by decide +kernel
theorem dX6_callOn_62 : decode cX6_callOn 62 = .ok (.ireturn, 1) := by decide +kernel
set_option maxHeartbeats 4000000 in
set_option maxRecDepth 100000 in
theorem c_X6_callOn {l : Launch} {g : GW} {b d : Nat} {tn : Nat → Nat → Nat} {ow : Nat → Nat} {bg : Bool} {κ n : Nat} {pl : Nat → Nat} (μ : Mm) (hb : b = 49 ∨ b = 57) (hB : BkR μ b tn ow) (hW : WkR μ bg κ n pl) (hd : d < 6) : Con l g yX6_callOn cX6_callOn 6 (some .int) 5 [.ref 31, .ref b, .int (nI d)] μ (fun r μ' => r = some (.int (cI (byT tn ow κ pl n d))) ∧ μ' = μ) := by
  obtain ⟨hb1, hb2, hb3, hb4, hb5, hb6, hrow⟩ := bkF hb
  obtain ⟨w1, w2, w3, w4, w5, w6⟩ := id hW
  refine Con.of [.ref 31, .ref b, .int (nI d), .null, .null, .null] 3 (by decide +kernel) (Nat.le_of_ble_eq_true rfl) rfl ?_
  refine V_aload_n (pc := 0) dX6_callOn_0 rfl rfl ?_
  refine V_aload_n (pc := 1) dX6_callOn_1 rfl rfl ?_
  refine V_inv1 (pc := 2) (ci := 6) dX6_callOn_2 ml_X6_40 (by decide) rfl ⟨by decide, rfl⟩ (by decide) (Nat.le_of_ble_eq_true rfl) (c_X6_ways μ hb hB hW) ?_
  rintro _ μ2 ⟨rfl, hμ⟩
  obtain rfl := hμ.symm
  refine V_ifne (pc := 5) (tgt := 11) dX6_callOn_5 (by decide) (fun h5 => ?_) (fun h5 => ?_)
  · have h5 := mt (nI_eq (a := wyT tn ow κ pl n) (b := 0) (wyT_lt w5) (by decide)).mpr h5
    refine V_bipush (pc := 11) (v := 6) dX6_callOn_11 (by decide) ?_
    refine V_istore3 (pc := 13) dX6_callOn_13 (by decide) rfl ?_
    refine V_iconst (pc := 14) (v := 0) dX6_callOn_14 (by decide) ?_
    refine V_istore4 (pc := 15) dX6_callOn_15 (by decide) rfl ?_
    refine V_iconst (pc := 17) (v := (-1)) dX6_callOn_17 (by decide) ?_
    refine V_istore5 (pc := 18) dX6_callOn_18 (by decide) rfl ?_
    have loopB : ∀ (nB k : Nat) (o q : Nat), k ≤ 7 → 7 < k + nB → ((o, q) = onT tn ow κ pl d k) → V l g RX6 cX6_callOn 6 (some .int) 5 20 [.ref 31, .ref b, .int (nI d), .int (cI o), .int (nI q), .int (cI k)] [] μ (fun r μ' => r = some (.int (cI (byT tn ow κ pl n d))) ∧ μ' = μ) := by
      intro nB
      induction nB with
      | zero => intro k o q h1 h2; exact absurd h2 (by omega)
      | succ nB ihB =>
        intro k o q hleB hfuB hoq
        refine V_iload (pc := 20) dX6_callOn_20 rfl ?_
        refine V_bipush (pc := 22) (v := 6) dX6_callOn_22 (by decide) ?_
        refine V_icmpge (pc := 24) (tgt := 50) dX6_callOn_24 (by decide) (fun h24 => ?_) (fun h24 => ?_)
        · rw [show (6 : Int32) = cI 7 from rfl] at h24; have h24 : 7 ≤ k := cI_le (by omega) (by omega) h24; obtain rfl : k = 7 := by omega
          have hq7 : q ≤ 7 := by have := (onT_le (tn := tn) (ow := ow) (κ := κ) (pl := pl) (d := d) 7 (by omega)).2; rw [← hoq] at this; exact this
          refine V_iload (pc := 50) dX6_callOn_50 rfl ?_
          refine V_iconst (pc := 52) (v := 1) dX6_callOn_52 (by decide) ?_
          refine V_icmpne (pc := 53) (tgt := 60) dX6_callOn_53 (by decide) (fun h53 => ?_) (fun h53 => ?_)
          · have h53 := mt (nI_eq (a := q) (b := 1) (by omega) (by decide)).mpr h53
            refine V_bipush (pc := 60) (v := 6) dX6_callOn_60 (by decide) ?_
            refine V_iret (pc := 62) dX6_callOn_62 rfl ?_
            exact ⟨by unfold byT; rw [if_neg h5, ← hoq]; simp only; first | (rw [if_pos h53]) | (rw [if_neg h53]; rfl), rfl⟩
          have h53 := (nI_eq (a := q) (b := 1) (by omega) (by decide)).mp h53
          refine V_iload_n (pc := 56) dX6_callOn_56 rfl rfl ?_
          refine V_goto (pc := 57) (tgt := 62) dX6_callOn_57 (by decide) ?_
          refine V_iret (pc := 62) dX6_callOn_62 rfl ?_
          exact ⟨by unfold byT; rw [if_neg h5, ← hoq]; simp only; first | (rw [if_pos h53]) | (rw [if_neg h53]; rfl), rfl⟩
        have hltk : k < 7 := by rcases Nat.lt_or_ge k 7 with q | q; exact q; exact absurd (cI_le2 (a := 7) (b := k) (by omega) (by omega) q) h24
        refine V_aload_n (pc := 27) dX6_callOn_27 rfl rfl ?_
        refine V_aload_n (pc := 28) dX6_callOn_28 rfl rfl ?_
        refine V_iload_n (pc := 29) dX6_callOn_29 rfl rfl ?_
        refine V_iload (pc := 30) dX6_callOn_30 rfl ?_
        refine V_inv3 (pc := 32) (ci := 6) dX6_callOn_32 ml_X6_26 (by decide) rfl ⟨by decide, rfl⟩ (by decide) (Nat.le_of_ble_eq_true rfl) (c_X6_waysBy μ hb hB hW hd (show k ≤ 6 by omega)) ?_
        rintro _ μ2 ⟨rfl, hμ⟩
        obtain rfl := hμ.symm
        refine V_ifle (pc := 35) (tgt := 44) dX6_callOn_35 (by decide) (fun h35 => ?_) (fun h35 => ?_)
        · have h35 : ¬ 0 < wdT tn ow κ pl d k := (by have := (nI_leI (a := wdT tn ow κ pl d k) (b := 0) (by have := wdT_le (tn := tn) (ow := ow) (κ := κ) (pl := pl) (d := d) (k := k); omega) (by decide)).mp h35; omega)
          refine V_iinc5 (pc := 44) (v := cI (k + 1)) dX6_callOn_44 (cI_n k) (by decide) rfl ?_
          refine V_goto (pc := 47) (tgt := 20) dX6_callOn_47 (by decide) ?_
          first | exact ihB (k + 1) o q (by omega) (by omega) (by show _ = (let q := onT tn ow κ pl d k; if 0 < wdT tn ow κ pl d k then (k, q.2 + 1) else q); rw [← hoq]; simp only; rw [if_neg h35]) | exact ihB (k + 1) k (q + 1) (by omega) (by omega) (by show _ = (let q := onT tn ow κ pl d k; if 0 < wdT tn ow κ pl d k then (k, q.2 + 1) else q); rw [← hoq]; simp only; rw [if_pos h35])
        have h35 : 0 < wdT tn ow κ pl d k := (by have := mt (nI_leI (a := wdT tn ow κ pl d k) (b := 0) (by have := wdT_le (tn := tn) (ow := ow) (κ := κ) (pl := pl) (d := d) (k := k); omega) (by decide)).mpr h35; omega)
        refine V_iload (pc := 38) dX6_callOn_38 rfl ?_
        refine V_istore3 (pc := 40) dX6_callOn_40 (by decide) rfl ?_
        refine V_iinc4 (pc := 41) (v := nI (q + 1)) dX6_callOn_41 (nI_1 q) (by decide) rfl ?_
        refine V_iinc5 (pc := 44) (v := cI (k + 1)) dX6_callOn_44 (cI_n k) (by decide) rfl ?_
        refine V_goto (pc := 47) (tgt := 20) dX6_callOn_47 (by decide) ?_
        first | exact ihB (k + 1) o q (by omega) (by omega) (by show _ = (let q := onT tn ow κ pl d k; if 0 < wdT tn ow κ pl d k then (k, q.2 + 1) else q); rw [← hoq]; simp only; rw [if_neg h35]) | exact ihB (k + 1) k (q + 1) (by omega) (by omega) (by show _ = (let q := onT tn ow κ pl d k; if 0 < wdT tn ow κ pl d k then (k, q.2 + 1) else q); rw [← hoq]; simp only; rw [if_pos h35])
    exact loopB (7 + 1) 0 7 0 (by omega) (by omega) rfl
  have h5 := (nI_eq (a := wyT tn ow κ pl n) (b := 0) (wyT_lt w5) (by decide)).mp h5
  refine V_bipush (pc := 8) (v := 6) dX6_callOn_8 (by decide) ?_
  refine V_iret (pc := 10) dX6_callOn_10 rfl ?_
  exact ⟨by rw [show byT tn ow κ pl n d = 7 from if_pos h5]; rfl, rfl⟩
