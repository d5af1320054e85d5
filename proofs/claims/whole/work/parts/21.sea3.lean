theorem dX5_begin_0 : decode cX5_begin 0 = .ok (.aload_n 0, 1) := by decide +kernel
theorem dX5_begin_1 : decode cX5_begin 1 = .ok (.iload_n 1, 1) := by decide +kernel
theorem dX5_begin_2 : decode cX5_begin 2 = .ok (.putfield 15, 3) := by decide +kernel
theorem dX5_begin_5 : decode cX5_begin 5 = .ok (.aload_n 0, 1) := by decide +kernel
theorem dX5_begin_6 : decode cX5_begin 6 = .ok (.iload_n 2, 1) := by decide +kernel
theorem dX5_begin_7 : decode cX5_begin 7 = .ok (.putfield 18, 3) := by decide +kernel
theorem dX5_begin_10 : decode cX5_begin 10 = .ok (.aload_n 0, 1) := by decide +kernel
theorem dX5_begin_11 : decode cX5_begin 11 = .ok (.iconst (-1), 1) := by decide +kernel
theorem dX5_begin_12 : decode cX5_begin 12 = .ok (.putfield 9, 3) := by decide +kernel
theorem dX5_begin_15 : decode cX5_begin 15 = .ok (.aload_n 0, 1) := by decide +kernel
theorem dX5_begin_16 : decode cX5_begin 16 = .ok (.iconst 0, 1) := by decide +kernel
theorem dX5_begin_17 : decode cX5_begin 17 = .ok (.putfield 21, 3) := by decide +kernel
theorem dX5_begin_20 : decode cX5_begin 20 = .ok (.aload_n 0, 1) := by decide +kernel
theorem dX5_begin_21 : decode cX5_begin 21 = .ok (.iconst 0, 1) := by decide +kernel
theorem dX5_begin_22 : decode cX5_begin 22 = .ok (.putfield 24, 3) := by decide +kernel
theorem dX5_begin_25 : decode cX5_begin 25 = .ok (.return_, 1) := by decide +kernel
set_option maxHeartbeats 4000000 in
set_option maxRecDepth 100000 in
theorem c_X5_begin {l : Launch} {g : GW} {z κ p : Nat} (μ : Mm) (hz : z < 88) (hzt : kt z = 5) (hκ : κ ≤ 4) (hp : p ≤ 9) : Con l g yX5_begin cX5_begin 3 none 0 [.ref z, .int (nI κ), .int (nI p)] μ (fun r μ' => r = none ∧ ShR μ' z κ p 0 0 0 ∧ FrM (fun k => k = z) μ μ') := by
  refine Con.of [.ref z, .int (nI κ), .int (nI p)] 0 (by decide +kernel) (Nat.le_of_ble_eq_true rfl) rfl ?_
  refine V_aload_n (pc := 0) dX5_begin_0 rfl rfl ?_
  refine V_iload_n (pc := 1) dX5_begin_1 rfl rfl ?_
  refine V_putI (pc := 2) (ci := 5) (j := 0) dX5_begin_2 fl_X5_15 (fun _ _ _ _ _ => rfl) rfl rfl (by first | decide | omega) (by first | rfl | assumption | decide) ?_
  refine V_aload_n (pc := 5) dX5_begin_5 rfl rfl ?_
  refine V_iload_n (pc := 6) dX5_begin_6 rfl rfl ?_
  refine V_putI (pc := 7) (ci := 5) (j := 1) dX5_begin_7 fl_X5_18 (fun _ _ _ _ _ => rfl) rfl rfl (by first | decide | omega) (by first | rfl | assumption | decide) ?_
  refine V_aload_n (pc := 10) dX5_begin_10 rfl rfl ?_
  refine V_iconst (pc := 11) (v := (-1)) dX5_begin_11 (by decide) ?_
  refine V_putI (pc := 12) (ci := 5) (j := 2) dX5_begin_12 fl_X5_9 (fun _ _ _ _ _ => rfl) rfl rfl (by first | decide | omega) (by first | rfl | assumption | decide) ?_
  refine V_aload_n (pc := 15) dX5_begin_15 rfl rfl ?_
  refine V_iconst (pc := 16) (v := 0) dX5_begin_16 (by decide) ?_
  refine V_putI (pc := 17) (ci := 5) (j := 3) dX5_begin_17 fl_X5_21 (fun _ _ _ _ _ => rfl) rfl rfl (by first | decide | omega) (by first | rfl | assumption | decide) ?_
  refine V_aload_n (pc := 20) dX5_begin_20 rfl rfl ?_
  refine V_iconst (pc := 21) (v := 0) dX5_begin_21 (by decide) ?_
  refine V_putI (pc := 22) (ci := 5) (j := 4) dX5_begin_22 fl_X5_24 (fun _ _ _ _ _ => rfl) rfl rfl (by first | decide | omega) (by first | rfl | assumption | decide) ?_
  refine V_vret (pc := 25) dX5_begin_25 rfl ?_
  refine ⟨rfl, ⟨?_, hκ, ?_, hp, ?_, by omega, ?_, ?_⟩, (((((FrM.rf (S := fun k => k = z)).set rfl).set rfl).set rfl).set rfl).set rfl⟩
  · rw [get_ne (by omega), get_ne (by omega), get_ne (by omega), get_ne (by omega), get_eq]
  · rw [get_ne (by omega), get_ne (by omega), get_ne (by omega), get_eq]
  · rw [get_ne (by omega), get_ne (by omega), get_eq]; rfl
  · rw [get_ne (by omega), get_eq]
  · rw [get_eq]
theorem dX5_copyFrom_0 : decode cX5_copyFrom 0 = .ok (.aload_n 0, 1) := by decide +kernel
theorem dX5_copyFrom_1 : decode cX5_copyFrom 1 = .ok (.aload_n 1, 1) := by decide +kernel
theorem dX5_copyFrom_2 : decode cX5_copyFrom 2 = .ok (.getfield 15, 3) := by decide +kernel
theorem dX5_copyFrom_5 : decode cX5_copyFrom 5 = .ok (.putfield 15, 3) := by decide +kernel
theorem dX5_copyFrom_8 : decode cX5_copyFrom 8 = .ok (.aload_n 0, 1) := by decide +kernel
theorem dX5_copyFrom_9 : decode cX5_copyFrom 9 = .ok (.aload_n 1, 1) := by decide +kernel
theorem dX5_copyFrom_10 : decode cX5_copyFrom 10 = .ok (.getfield 18, 3) := by decide +kernel
theorem dX5_copyFrom_13 : decode cX5_copyFrom 13 = .ok (.putfield 18, 3) := by decide +kernel
theorem dX5_copyFrom_16 : decode cX5_copyFrom 16 = .ok (.aload_n 0, 1) := by decide +kernel
theorem dX5_copyFrom_17 : decode cX5_copyFrom 17 = .ok (.iconst (-1), 1) := by decide +kernel
theorem dX5_copyFrom_18 : decode cX5_copyFrom 18 = .ok (.putfield 9, 3) := by decide +kernel
theorem dX5_copyFrom_21 : decode cX5_copyFrom 21 = .ok (.aload_n 0, 1) := by decide +kernel
theorem dX5_copyFrom_22 : decode cX5_copyFrom 22 = .ok (.aload_n 1, 1) := by decide +kernel
theorem dX5_copyFrom_23 : decode cX5_copyFrom 23 = .ok (.getfield 21, 3) := by decide +kernel
theorem dX5_copyFrom_26 : decode cX5_copyFrom 26 = .ok (.putfield 21, 3) := by decide +kernel
theorem dX5_copyFrom_29 : decode cX5_copyFrom 29 = .ok (.aload_n 0, 1) := by decide +kernel
theorem dX5_copyFrom_30 : decode cX5_copyFrom 30 = .ok (.aload_n 1, 1) := by decide +kernel
theorem dX5_copyFrom_31 : decode cX5_copyFrom 31 = .ok (.getfield 24, 3) := by decide +kernel
theorem dX5_copyFrom_34 : decode cX5_copyFrom 34 = .ok (.putfield 24, 3) := by decide +kernel
theorem dX5_copyFrom_37 : decode cX5_copyFrom 37 = .ok (.return_, 1) := by decide +kernel
set_option maxHeartbeats 4000000 in
set_option maxRecDepth 100000 in
theorem c_X5_copyFrom {l : Launch} {g : GW} {z y κ p c : Nat} {v t : Int32} (μ : Mm) (hz : z < 88) (hzt : kt z = 5) (hy : y < 88) (hyt : kt y = 5) (hne : y ≠ z) (hY : ShR μ y κ p c v t) : Con l g yX5_copyFrom cX5_copyFrom 2 none 0 [.ref z, .ref y] μ (fun r μ' => r = none ∧ ShR μ' z κ p 0 v t ∧ FrM (fun k => k = z) μ μ') := by
  obtain ⟨y1, y2, y3, y4, y5, y6, y7, y8⟩ := hY
  refine Con.of [.ref z, .ref y] 0 (by decide +kernel) (Nat.le_of_ble_eq_true rfl) rfl ?_
  refine V_aload_n (pc := 0) dX5_copyFrom_0 rfl rfl ?_
  refine V_aload_n (pc := 1) dX5_copyFrom_1 rfl rfl ?_
  refine V_getI (pc := 2) (ci := 5) (j := 0) dX5_copyFrom_2 fl_X5_15 (fun _ _ _ _ => rfl) (by first | decide | omega) (by first | rfl | assumption | decide) ?_
  refine V_putI (pc := 5) (ci := 5) (j := 0) dX5_copyFrom_5 fl_X5_15 (fun _ _ _ _ _ => rfl) rfl rfl (by first | decide | omega) (by first | rfl | assumption | decide) ?_
  refine V_aload_n (pc := 8) dX5_copyFrom_8 rfl rfl ?_
  refine V_aload_n (pc := 9) dX5_copyFrom_9 rfl rfl ?_
  refine V_getI (pc := 10) (ci := 5) (j := 1) dX5_copyFrom_10 fl_X5_18 (fun _ _ _ _ => rfl) (by first | decide | omega) (by first | rfl | assumption | decide) ?_
  refine V_putI (pc := 13) (ci := 5) (j := 1) dX5_copyFrom_13 fl_X5_18 (fun _ _ _ _ _ => rfl) rfl rfl (by first | decide | omega) (by first | rfl | assumption | decide) ?_
  refine V_aload_n (pc := 16) dX5_copyFrom_16 rfl rfl ?_
  refine V_iconst (pc := 17) (v := (-1)) dX5_copyFrom_17 (by decide) ?_
  refine V_putI (pc := 18) (ci := 5) (j := 2) dX5_copyFrom_18 fl_X5_9 (fun _ _ _ _ _ => rfl) rfl rfl (by first | decide | omega) (by first | rfl | assumption | decide) ?_
  refine V_aload_n (pc := 21) dX5_copyFrom_21 rfl rfl ?_
  refine V_aload_n (pc := 22) dX5_copyFrom_22 rfl rfl ?_
  refine V_getI (pc := 23) (ci := 5) (j := 3) dX5_copyFrom_23 fl_X5_21 (fun _ _ _ _ => rfl) (by first | decide | omega) (by first | rfl | assumption | decide) ?_
  refine V_putI (pc := 26) (ci := 5) (j := 3) dX5_copyFrom_26 fl_X5_21 (fun _ _ _ _ _ => rfl) rfl rfl (by first | decide | omega) (by first | rfl | assumption | decide) ?_
  refine V_aload_n (pc := 29) dX5_copyFrom_29 rfl rfl ?_
  refine V_aload_n (pc := 30) dX5_copyFrom_30 rfl rfl ?_
  refine V_getI (pc := 31) (ci := 5) (j := 4) dX5_copyFrom_31 fl_X5_24 (fun _ _ _ _ => rfl) (by first | decide | omega) (by first | rfl | assumption | decide) ?_
  refine V_putI (pc := 34) (ci := 5) (j := 4) dX5_copyFrom_34 fl_X5_24 (fun _ _ _ _ _ => rfl) rfl rfl (by first | decide | omega) (by first | rfl | assumption | decide) ?_
  refine V_vret (pc := 37) dX5_copyFrom_37 rfl ?_
  refine ⟨rfl, ⟨?_, y2, ?_, y4, ?_, by omega, ?_, ?_⟩, (((((FrM.rf (S := fun k => k = z)).set rfl).set rfl).set rfl).set rfl).set rfl⟩
  · rw [get_ne (by omega), get_ne (by omega), get_ne (by omega), get_ne (by omega), get_eq]; exact y1
  · rw [get_ne (by omega), get_ne (by omega), get_ne (by omega), get_eq, get_ne (by omega)]; exact y3
  · rw [get_ne (by omega), get_ne (by omega), get_eq]; rfl
  · rw [get_ne (by omega), get_eq, get_ne (by omega), get_ne (by omega), get_ne (by omega)]; exact y7
  · rw [get_eq, get_ne (by omega), get_ne (by omega), get_ne (by omega), get_ne (by omega)]; exact y8
theorem dX4_add_0 : decode cX4_add 0 = .ok (.aload_n 0, 1) := by decide +kernel
theorem dX4_add_1 : decode cX4_add 1 = .ok (.getfield 31, 3) := by decide +kernel
theorem dX4_add_4 : decode cX4_add 4 = .ok (.bipush 6, 2) := by decide +kernel
theorem dX4_add_6 : decode cX4_add 6 = .ok (.if_icmp .lt 6, 3) := by decide +kernel
theorem dX4_add_9 : decode cX4_add 9 = .ok (.bipush (-104), 2) := by decide +kernel
theorem dX4_add_11 : decode cX4_add 11 = .ok (.ireturn, 1) := by decide +kernel
theorem dX4_add_12 : decode cX4_add 12 = .ok (.aload_n 0, 1) := by decide +kernel
theorem dX4_add_13 : decode cX4_add 13 = .ok (.getfield 11, 3) := by decide +kernel
theorem dX4_add_16 : decode cX4_add 16 = .ok (.aload_n 0, 1) := by decide +kernel
theorem dX4_add_17 : decode cX4_add 17 = .ok (.getfield 31, 3) := by decide +kernel
theorem dX4_add_20 : decode cX4_add 20 = .ok (.aaload, 1) := by decide +kernel
theorem dX4_add_21 : decode cX4_add 21 = .ok (.iload_n 1, 1) := by decide +kernel
theorem dX4_add_22 : decode cX4_add 22 = .ok (.iload_n 2, 1) := by decide +kernel
theorem dX4_add_23 : decode cX4_add 23 = .ok (.invokevirtual 54, 3) := by decide +kernel
theorem dX4_add_26 : decode cX4_add 26 = .ok (.aload_n 0, 1) := by decide +kernel
theorem dX4_add_27 : decode cX4_add 27 = .ok (.dup, 1) := by decide +kernel
theorem dX4_add_28 : decode cX4_add 28 = .ok (.getfield 31, 3) := by decide +kernel
theorem dX4_add_31 : decode cX4_add 31 = .ok (.iconst 1, 1) := by decide +kernel
theorem dX4_add_32 : decode cX4_add 32 = .ok (.iadd, 1) := by decide +kernel
theorem dX4_add_33 : decode cX4_add 33 = .ok (.putfield 31, 3) := by decide +kernel
theorem dX4_add_36 : decode cX4_add 36 = .ok (.aload_n 0, 1) := by decide +kernel
theorem dX4_add_37 : decode cX4_add 37 = .ok (.getfield 31, 3) := by decide +kernel
theorem dX4_add_40 : decode cX4_add 40 = .ok (.iconst 1, 1) := by decide +kernel
theorem dX4_add_41 : decode cX4_add 41 = .ok (.isub, 1) := by decide +kernel
theorem dX4_add_42 : decode cX4_add 42 = .ok (.ireturn, 1) := by decide +kernel
set_option maxHeartbeats 4000000 in
set_option maxRecDepth 100000 in
theorem c_X4_add {l : Launch} {g : GW} {s κ p : Nat} {σ : SeaT} (μ : Mm) (hs : s = 4 ∨ s = 13 ∨ s = 22) (hS : SeaR μ s σ) (hκ : κ ≤ 4) (hp : p ≤ 9) : Con l g yX4_add cX4_add 3 (some .int) 1 [.ref s, .int (nI κ), .int (nI p)] μ (fun r μ' => if sN σ = 6 then r = some (.int (-104)) ∧ μ' = μ else r = some (.int (nI (sN σ))) ∧ SeaR μ' s (wN (wShip σ (sN σ) κ p 0 0 0) (sN σ + 1)) ∧ FrM (seaS s) μ μ') := by
  have hS0 := hS
  obtain ⟨hs1, hs2, hs3, hs4, hs5, hs6, hrow⟩ := seaF hs
  obtain ⟨r1, r2, r3, r4, r5, r6, r7, r8, r9⟩ := hS
  refine Con.of [.ref s, .int (nI κ), .int (nI p)] 0 (by decide +kernel) (Nat.le_of_ble_eq_true rfl) rfl ?_
  refine V_aload_n (pc := 0) dX4_add_0 rfl rfl ?_
  refine V_getI (pc := 1) (ci := 4) (j := 2) dX4_add_1 fl_X4_31 (fun _ _ _ _ => rfl) (by first | decide | omega) (by first | rfl | assumption | exact (hrow _ (by omega)).2 | decide) ?_
  refine V_bipush (pc := 4) (v := 6) dX4_add_4 (by decide) ?_
  refine V_icmplt (pc := 6) (tgt := 12) dX4_add_6 (by decide) (fun h6 => ?_) (fun h6 => ?_)
  · rw [r1] at h6; have h6 := (nI_ltI (a := sN σ) (b := 6) (by omega) (by decide)).mp h6
    refine V_aload_n (pc := 12) dX4_add_12 rfl rfl ?_
    refine V_getR (pc := 13) (ci := 4) (j := 0) (k2 := (s + 1)) dX4_add_13 fl_X4_11 (fun _ _ _ _ => rfl) (by first | decide | omega) (by first | rfl | assumption | exact (hrow _ (by omega)).2 | decide) (rf_4_0 (by first | rfl | assumption | exact (hrow _ (by omega)).2 | decide)) ?_
    refine V_aload_n (pc := 16) dX4_add_16 rfl rfl ?_
    refine V_getI (pc := 17) (ci := 4) (j := 2) dX4_add_17 fl_X4_31 (fun _ _ _ _ => rfl) (by first | decide | omega) (by first | rfl | assumption | exact (hrow _ (by omega)).2 | decide) ?_
    refine V_aald14 (pc := 20) (j := (sN σ)) dX4_add_20 (by first | decide | omega) (by first | rfl | assumption | exact (hrow _ (by omega)).2 | decide) r1 (by omega) ?_
    refine V_iload_n (pc := 21) dX4_add_21 rfl rfl ?_
    refine V_iload_n (pc := 22) dX4_add_22 rfl rfl ?_
    refine V_inv2 (pc := 23) (ci := 5) dX4_add_23 ml_X4_54 (by first | decide | omega) (by first | rfl | assumption | exact (hrow _ (by omega)).2 | decide) ⟨by decide, rfl⟩ (by decide) (Nat.le_of_ble_eq_true rfl) (c_X5_begin μ (by omega) (hrow _ h6).2 hκ hp) ?_
    rintro _ μ1 ⟨rfl, g1, g2⟩
    have hS1 := hS0.ship h6 g1 (fun k hk => g2.1 k hk)
    have e1 := hS1.1
    refine V_aload_n (pc := 26) dX4_add_26 rfl rfl ?_
    refine V_dup (pc := 27) dX4_add_27 rfl ?_
    refine V_getI (pc := 28) (ci := 4) (j := 2) dX4_add_28 fl_X4_31 (fun _ _ _ _ => rfl) (by first | decide | omega) (by first | rfl | assumption | exact (hrow _ (by omega)).2 | decide) ?_
    refine V_iconst (pc := 31) (v := 1) dX4_add_31 (by decide) ?_
    refine V_iadd (pc := 32) dX4_add_32 ?_
    refine V_putI (pc := 33) (ci := 4) (j := 2) dX4_add_33 fl_X4_31 (fun _ _ _ _ _ => rfl) rfl rfl (by first | decide | omega) (by first | rfl | assumption | exact (hrow _ (by omega)).2 | decide) ?_
    refine V_aload_n (pc := 36) dX4_add_36 rfl rfl ?_
    refine V_getI (pc := 37) (ci := 4) (j := 2) dX4_add_37 fl_X4_31 (fun _ _ _ _ => rfl) (by first | decide | omega) (by first | rfl | assumption | exact (hrow _ (by omega)).2 | decide) ?_
    refine V_iconst (pc := 40) (v := 1) dX4_add_40 (by decide) ?_
    refine V_isub (pc := 41) dX4_add_41 ?_
    refine V_iret (pc := 42) dX4_add_42 rfl ?_
    rw [if_neg (by omega)]
    have e2 : μ1.1 s 2 + 1 = nI (sN σ + 1) := by rw [e1]; exact nI_1 _
    refine ⟨by rw [get_eq, e2, nI_m1], hS1.setN (by omega) e2, ((FrM.rf.tr g2 (fun k hk => Or.inr (by have : k = s + 1 + 1 + sN σ := hk; omega))).set (Or.inl rfl))⟩
  rw [r1] at h6; have h6 := mt (nI_ltI (a := sN σ) (b := 6) (by omega) (by decide)).mpr h6
  refine V_bipush (pc := 9) (v := (-104)) dX4_add_9 (by decide) ?_
  refine V_iret (pc := 11) dX4_add_11 rfl ?_
  rw [if_pos (by omega)]
  exact ⟨rfl, rfl⟩
theorem dX4_clear_0 : decode cX4_clear 0 = .ok (.aload_n 0, 1) := by decide +kernel
theorem dX4_clear_1 : decode cX4_clear 1 = .ok (.getfield 17, 3) := by decide +kernel
theorem dX4_clear_4 : decode cX4_clear 4 = .ok (.bipush 31, 2) := by decide +kernel
theorem dX4_clear_6 : decode cX4_clear 6 = .ok (.invokestatic 25, 3) := by decide +kernel
theorem dX4_clear_9 : decode cX4_clear 9 = .ok (.aload_n 0, 1) := by decide +kernel
theorem dX4_clear_10 : decode cX4_clear 10 = .ok (.iconst 0, 1) := by decide +kernel
theorem dX4_clear_11 : decode cX4_clear 11 = .ok (.putfield 31, 3) := by decide +kernel
theorem dX4_clear_14 : decode cX4_clear 14 = .ok (.aload_n 0, 1) := by decide +kernel
theorem dX4_clear_15 : decode cX4_clear 15 = .ok (.iconst 0, 1) := by decide +kernel
theorem dX4_clear_16 : decode cX4_clear 16 = .ok (.putfield 35, 3) := by decide +kernel
theorem dX4_clear_19 : decode cX4_clear 19 = .ok (.aload_n 0, 1) := by decide +kernel
theorem dX4_clear_20 : decode cX4_clear 20 = .ok (.iconst 0, 1) := by decide +kernel
theorem dX4_clear_21 : decode cX4_clear 21 = .ok (.putfield 38, 3) := by decide +kernel
theorem dX4_clear_24 : decode cX4_clear 24 = .ok (.aload_n 0, 1) := by decide +kernel
theorem dX4_clear_25 : decode cX4_clear 25 = .ok (.iconst 0, 1) := by decide +kernel
theorem dX4_clear_26 : decode cX4_clear 26 = .ok (.putfield 41, 3) := by decide +kernel
theorem dX4_clear_29 : decode cX4_clear 29 = .ok (.return_, 1) := by decide +kernel
set_option maxHeartbeats 4000000 in
set_option maxRecDepth 100000 in
theorem c_X4_clear {l : Launch} {g : GW} {s : Nat} {σ : SeaT} (μ : Mm) (hs : s = 4 ∨ s = 13 ∨ s = 22) (hS : SeaR μ s σ) : Con l g yX4_clear cX4_clear 1 none 1 [.ref s] μ (fun r μ' => r = none ∧ SeaR μ' s (mkSea 0 (sK σ) (sP σ) (sC σ) (sV σ) (sT σ) 0 0 0 (fun _ => 31)) ∧ FrM (seaS s) μ μ') := by
  obtain ⟨hs1, hs2, hs3, hs4, hs5, hs6, hrow⟩ := seaF hs
  obtain ⟨r1, r2, r3, r4, r5, r6, r7, r8, r9⟩ := hS
  refine Con.of [.ref s] 0 (by decide +kernel) (Nat.le_of_ble_eq_true rfl) rfl ?_
  refine V_aload_n (pc := 0) dX4_clear_0 rfl rfl ?_
  refine V_getR (pc := 1) (ci := 4) (j := 1) (k2 := (s + 8)) dX4_clear_1 fl_X4_17 (fun _ _ _ _ => rfl) (by first | decide | omega) (by first | rfl | assumption | decide) (rf_4_1 (by first | rfl | assumption | decide)) ?_
  refine V_bipush (pc := 4) (v := 31) dX4_clear_4 (by decide) ?_
  refine V_ins2 (pc := 6) dX4_clear_6 ml_X4_25 (by first | decide | omega) (Nat.le_of_ble_eq_true rfl) (c_J7_fill_53178 μ (by omega) hs5) ?_
  rintro _ μ1 ⟨rfl, g1, g2⟩
  refine V_aload_n (pc := 9) dX4_clear_9 rfl rfl ?_
  refine V_iconst (pc := 10) (v := 0) dX4_clear_10 (by decide) ?_
  refine V_putI (pc := 11) (ci := 4) (j := 2) dX4_clear_11 fl_X4_31 (fun _ _ _ _ _ => rfl) rfl rfl (by first | decide | omega) (by first | rfl | assumption | decide) ?_
  refine V_aload_n (pc := 14) dX4_clear_14 rfl rfl ?_
  refine V_iconst (pc := 15) (v := 0) dX4_clear_15 (by decide) ?_
  refine V_putI (pc := 16) (ci := 4) (j := 3) dX4_clear_16 fl_X4_35 (fun _ _ _ _ _ => rfl) rfl rfl (by first | decide | omega) (by first | rfl | assumption | decide) ?_
  refine V_aload_n (pc := 19) dX4_clear_19 rfl rfl ?_
  refine V_iconst (pc := 20) (v := 0) dX4_clear_20 (by decide) ?_
  refine V_putI (pc := 21) (ci := 4) (j := 4) dX4_clear_21 fl_X4_38 (fun _ _ _ _ _ => rfl) rfl rfl (by first | decide | omega) (by first | rfl | assumption | decide) ?_
  refine V_aload_n (pc := 24) dX4_clear_24 rfl rfl ?_
  refine V_iconst (pc := 25) (v := 0) dX4_clear_25 (by decide) ?_
  refine V_putI (pc := 26) (ci := 4) (j := 5) dX4_clear_26 fl_X4_41 (fun _ _ _ _ _ => rfl) rfl rfl (by first | decide | omega) (by first | rfl | assumption | decide) ?_
  refine V_vret (pc := 29) dX4_clear_29 rfl ?_
  refine ⟨rfl, ⟨?_, by show 0 ≤ 6; omega, ?_, by show 0 < 64; omega, ?_, get_eq, by show 0 ≤ 40; omega, fun i hi => ?_, fun n hn => ?_⟩, (((((FrM.rf (S := seaS s)).tr g2 (fun k hk => Or.inr (by have : k = s + 8 := hk; omega))).set (Or.inl rfl)).set (Or.inl rfl)).set (Or.inl rfl)).set (Or.inl rfl)⟩
  · rw [get_ne (by omega), get_ne (by omega), get_ne (by omega), get_eq]; rfl
  · rw [get_ne (by omega), get_ne (by omega), get_eq]; rfl
  · rw [get_ne (by omega), get_eq]; rfl
  · exact (r8 i hi).kept (fun j => by rw [get_ne (by omega), get_ne (by omega), get_ne (by omega), get_ne (by omega), g2.1 _ (fun q => by have : s + 1 + 1 + i = s + 8 := q; omega)])
  · rw [get_ne (by omega), get_ne (by omega), get_ne (by omega), get_ne (by omega)]; exact g1 n (by omega)
