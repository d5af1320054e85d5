theorem dX8_takesName_0 : decode cX8_takesName 0 = .ok (.iload_n 1, 1) := by decide +kernel
theorem dX8_takesName_1 : decode cX8_takesName 1 = .ok (.bipush 48, 2) := by decide +kernel
theorem dX8_takesName_3 : decode cX8_takesName 3 = .ok (.isub, 1) := by decide +kernel
theorem dX8_takesName_4 : decode cX8_takesName 4 = .ok (.istore_n 2, 1) := by decide +kernel
theorem dX8_takesName_5 : decode cX8_takesName 5 = .ok (.iload_n 2, 1) := by decide +kernel
theorem dX8_takesName_6 : decode cX8_takesName 6 = .ok (.iconst 0, 1) := by decide +kernel
theorem dX8_takesName_7 : decode cX8_takesName 7 = .ok (.iconst 5, 1) := by decide +kernel
theorem dX8_takesName_8 : decode cX8_takesName 8 = .ok (.invokestatic 88, 3) := by decide +kernel
theorem dX8_takesName_11 : decode cX8_takesName 11 = .ok (.ifCond .eq 13, 3) := by decide +kernel
theorem dX8_takesName_14 : decode cX8_takesName 14 = .ok (.aload_n 0, 1) := by decide +kernel
theorem dX8_takesName_15 : decode cX8_takesName 15 = .ok (.getfield 48, 3) := by decide +kernel
theorem dX8_takesName_18 : decode cX8_takesName 18 = .ok (.iload_n 2, 1) := by decide +kernel
theorem dX8_takesName_19 : decode cX8_takesName 19 = .ok (.iaload, 1) := by decide +kernel
theorem dX8_takesName_20 : decode cX8_takesName 20 = .ok (.iconst (-1), 1) := by decide +kernel
theorem dX8_takesName_21 : decode cX8_takesName 21 = .ok (.if_icmp .eq 5, 3) := by decide +kernel
theorem dX8_takesName_24 : decode cX8_takesName 24 = .ok (.iconst 0, 1) := by decide +kernel
theorem dX8_takesName_25 : decode cX8_takesName 25 = .ok (.ireturn, 1) := by decide +kernel
theorem dX8_takesName_26 : decode cX8_takesName 26 = .ok (.aload_n 0, 1) := by decide +kernel
theorem dX8_takesName_27 : decode cX8_takesName 27 = .ok (.getfield 48, 3) := by decide +kernel
theorem dX8_takesName_30 : decode cX8_takesName 30 = .ok (.iload_n 2, 1) := by decide +kernel
theorem dX8_takesName_31 : decode cX8_takesName 31 = .ok (.aload_n 0, 1) := by decide +kernel
theorem dX8_takesName_32 : decode cX8_takesName 32 = .ok (.getfield 92, 3) := by decide +kernel
theorem dX8_takesName_35 : decode cX8_takesName 35 = .ok (.iastore, 1) := by decide +kernel
theorem dX8_takesName_36 : decode cX8_takesName 36 = .ok (.aload_n 0, 1) := by decide +kernel
theorem dX8_takesName_37 : decode cX8_takesName 37 = .ok (.dup, 1) := by decide +kernel
theorem dX8_takesName_38 : decode cX8_takesName 38 = .ok (.getfield 95, 3) := by decide +kernel
theorem dX8_takesName_41 : decode cX8_takesName 41 = .ok (.iconst 1, 1) := by decide +kernel
theorem dX8_takesName_42 : decode cX8_takesName 42 = .ok (.iadd, 1) := by decide +kernel
theorem dX8_takesName_43 : decode cX8_takesName 43 = .ok (.putfield 95, 3) := by decide +kernel
theorem dX8_takesName_46 : decode cX8_takesName 46 = .ok (.iconst 1, 1) := by decide +kernel
theorem dX8_takesName_47 : decode cX8_takesName 47 = .ok (.ireturn, 1) := by decide +kernel
set_option maxHeartbeats 4000000 in
set_option maxRecDepth 100000 in
theorem c_X8_takesName {l : Launch} {g : GW} {c w : Nat} {tn : Nat → Nat → Nat} {ow : Nat → Nat} (μ : Mm) (hc : c < 127) (hR : RdM μ w tn ow) : Con l g yX8_takesName cX8_takesName 3 (some .boolean) 1 [.ref 65, .int (nI c)] μ (fun r μ' => if 48 ≤ c ∧ c < 54 ∧ ow (c - 48) = 0 then r = some (.int 1) ∧ RdM μ' w tn (up1 ow (c - 48) (w + 1)) ∧ FrR μ μ' else r = some (.int 0) ∧ μ' = μ) := by
  obtain ⟨r1, r2, r3, r4, r5, r6, r7⟩ := id hR
  refine Con.of [.ref 65, .int (nI c), .null] 1 (by decide +kernel) (Nat.le_of_ble_eq_true rfl) rfl ?_
  refine V_iload_n (pc := 0) dX8_takesName_0 rfl rfl ?_
  refine V_bipush (pc := 1) (v := 48) dX8_takesName_1 (by decide) ?_
  refine V_isub (pc := 3) dX8_takesName_3 ?_
  refine V_istore2 (pc := 4) dX8_takesName_4 (by decide) rfl ?_
  refine V_iload_n (pc := 5) dX8_takesName_5 rfl rfl ?_
  refine V_iconst (pc := 6) (v := 0) dX8_takesName_6 (by decide) ?_
  refine V_iconst (pc := 7) (v := 5) dX8_takesName_7 (by decide) ?_
  refine V_ins3 (pc := 8) dX8_takesName_8 ml_X8_88 (by first | decide | omega) (Nat.le_of_ble_eq_true rfl) (c_X8_within μ) ?_
  rintro _ μ2 ⟨rfl, hμ⟩
  obtain rfl := hμ.symm
  rw [sub48p c hc]
  refine V_ifeq (pc := 11) (tgt := 24) dX8_takesName_11 (by decide) (fun h11 => ?_) (fun h11 => ?_)
  · have h11 := of_decide_eq_false (bI_e h11)
    refine V_iconst (pc := 24) (v := 0) dX8_takesName_24 (by decide) ?_
    refine V_zret (pc := 25) dX8_takesName_25 rfl (by first | exact Or.inl rfl | exact Or.inr rfl | assumption) ?_
    first
    | (rw [if_neg (by omega)]; exact ⟨rfl, rfl⟩)
    | (rw [if_neg (fun q => h21 q.2.2)]; exact ⟨rfl, rfl⟩)
  have h11 := of_decide_eq_true (bI_ne h11)
  rw [sub48 c hc h11.1]
  refine V_aload_n (pc := 14) dX8_takesName_14 rfl rfl ?_
  refine V_getR (pc := 15) (ci := 8) (j := 25) (k2 := 77) dX8_takesName_15 fl_X8_48 (fun _ _ _ _ => rfl) (by decide) rfl (rf_8_25 rfl) ?_
  refine V_iload_n (pc := 18) dX8_takesName_18 rfl rfl ?_
  refine V_iald (pc := 19) (j := (c - 48)) dX8_takesName_19 (by decide) rfl rfl (by show c - 48 < 6; omega) ?_
  rw [r5 (c - 48) (by omega)]
  have ho := r6 (c - 48) (by omega)
  refine V_iconst (pc := 20) (v := (-1)) dX8_takesName_20 (by decide) ?_
  refine V_icmpeq (pc := 21) (tgt := 26) dX8_takesName_21 (by decide) (fun h21 => ?_) (fun h21 => ?_)
  · have h21 := (cI_m1 (a := ow (c - 48)) (by omega)).mp h21
    refine V_aload_n (pc := 26) dX8_takesName_26 rfl rfl ?_
    refine V_getR (pc := 27) (ci := 8) (j := 25) (k2 := 77) dX8_takesName_27 fl_X8_48 (fun _ _ _ _ => rfl) (by decide) rfl (rf_8_25 rfl) ?_
    refine V_iload_n (pc := 30) dX8_takesName_30 rfl rfl ?_
    refine V_aload_n (pc := 31) dX8_takesName_31 rfl rfl ?_
    refine V_getI (pc := 32) (ci := 8) (j := 22) dX8_takesName_32 fl_X8_92 (fun _ _ _ _ => rfl) (by decide) rfl ?_
    refine V_iast (pc := 35) (j := (c - 48)) dX8_takesName_35 (by decide) rfl rfl (by show c - 48 < 6; omega) ?_
    refine V_aload_n (pc := 36) dX8_takesName_36 rfl rfl ?_
    refine V_dup (pc := 37) dX8_takesName_37 rfl ?_
    refine V_getI (pc := 38) (ci := 8) (j := 23) dX8_takesName_38 fl_X8_95 (fun _ _ _ _ => rfl) (by decide) rfl ?_
    refine V_iconst (pc := 41) (v := 1) dX8_takesName_41 (by decide) ?_
    refine V_iadd (pc := 42) dX8_takesName_42 ?_
    refine V_putI (pc := 43) (ci := 8) (j := 23) dX8_takesName_43 fl_X8_95 (fun _ _ _ _ _ => rfl) rfl rfl (by decide) rfl ?_
    refine V_iconst (pc := 46) (v := 1) dX8_takesName_46 (by decide) ?_
    refine V_zret (pc := 47) dX8_takesName_47 rfl (by first | exact Or.inl rfl | exact Or.inr rfl | assumption) ?_
    rw [if_pos ⟨h11.1, h11.2, h21⟩]
    exact ⟨rfl, hR.own (by omega) h21 r1 (by rw [get_ne (by omega), r3]; exact nI_1 _), (FrR.rf.set (by omega)).set (by omega)⟩
  have h21 := mt (cI_m1 (a := ow (c - 48)) (by omega)).mpr h21
  refine V_iconst (pc := 24) (v := 0) dX8_takesName_24 (by decide) ?_
  refine V_zret (pc := 25) dX8_takesName_25 rfl (by first | exact Or.inl rfl | exact Or.inr rfl | assumption) ?_
  first
  | (rw [if_neg (by omega)]; exact ⟨rfl, rfl⟩)
  | (rw [if_neg (fun q => h21 q.2.2)]; exact ⟨rfl, rfl⟩)
theorem dX8_takesTenths_0 : decode cX8_takesTenths 0 = .ok (.iload_n 1, 1) := by decide +kernel
theorem dX8_takesTenths_1 : decode cX8_takesTenths 1 = .ok (.bipush 48, 2) := by decide +kernel
theorem dX8_takesTenths_3 : decode cX8_takesTenths 3 = .ok (.isub, 1) := by decide +kernel
theorem dX8_takesTenths_4 : decode cX8_takesTenths 4 = .ok (.istore_n 3, 1) := by decide +kernel
theorem dX8_takesTenths_5 : decode cX8_takesTenths 5 = .ok (.aload_n 0, 1) := by decide +kernel
theorem dX8_takesTenths_6 : decode cX8_takesTenths 6 = .ok (.getfield 45, 3) := by decide +kernel
theorem dX8_takesTenths_9 : decode cX8_takesTenths 9 = .ok (.bipush 12, 2) := by decide +kernel
theorem dX8_takesTenths_11 : decode cX8_takesTenths 11 = .ok (.iload_n 2, 1) := by decide +kernel
theorem dX8_takesTenths_12 : decode cX8_takesTenths 12 = .ok (.iadd, 1) := by decide +kernel
theorem dX8_takesTenths_13 : decode cX8_takesTenths 13 = .ok (.iaload, 1) := by decide +kernel
theorem dX8_takesTenths_14 : decode cX8_takesTenths 14 = .ok (.istore 4, 2) := by decide +kernel
theorem dX8_takesTenths_16 : decode cX8_takesTenths 16 = .ok (.iload_n 3, 1) := by decide +kernel
theorem dX8_takesTenths_17 : decode cX8_takesTenths 17 = .ok (.iconst 0, 1) := by decide +kernel
theorem dX8_takesTenths_18 : decode cX8_takesTenths 18 = .ok (.bipush 9, 2) := by decide +kernel
theorem dX8_takesTenths_20 : decode cX8_takesTenths 20 = .ok (.invokestatic 88, 3) := by decide +kernel
theorem dX8_takesTenths_23 : decode cX8_takesTenths 23 = .ok (.ifCond .eq 9, 3) := by decide +kernel
theorem dX8_takesTenths_26 : decode cX8_takesTenths 26 = .ok (.iload_n 3, 1) := by decide +kernel
theorem dX8_takesTenths_27 : decode cX8_takesTenths 27 = .ok (.iload 4, 2) := by decide +kernel
theorem dX8_takesTenths_29 : decode cX8_takesTenths 29 = .ok (.if_icmp .le 5, 3) := by decide +kernel
theorem dX8_takesTenths_32 : decode cX8_takesTenths 32 = .ok (.iconst 0, 1) := by decide +kernel
theorem dX8_takesTenths_33 : decode cX8_takesTenths 33 = .ok (.ireturn, 1) := by decide +kernel
theorem dX8_takesTenths_34 : decode cX8_takesTenths 34 = .ok (.aload_n 0, 1) := by decide +kernel
theorem dX8_takesTenths_35 : decode cX8_takesTenths 35 = .ok (.getfield 45, 3) := by decide +kernel
theorem dX8_takesTenths_38 : decode cX8_takesTenths 38 = .ok (.iconst 3, 1) := by decide +kernel
theorem dX8_takesTenths_39 : decode cX8_takesTenths 39 = .ok (.aload_n 0, 1) := by decide +kernel
theorem dX8_takesTenths_40 : decode cX8_takesTenths 40 = .ok (.getfield 92, 3) := by decide +kernel
theorem dX8_takesTenths_43 : decode cX8_takesTenths 43 = .ok (.imul, 1) := by decide +kernel
theorem dX8_takesTenths_44 : decode cX8_takesTenths 44 = .ok (.iload_n 2, 1) := by decide +kernel
theorem dX8_takesTenths_45 : decode cX8_takesTenths 45 = .ok (.iadd, 1) := by decide +kernel
theorem dX8_takesTenths_46 : decode cX8_takesTenths 46 = .ok (.iload_n 3, 1) := by decide +kernel
theorem dX8_takesTenths_47 : decode cX8_takesTenths 47 = .ok (.iastore, 1) := by decide +kernel
theorem dX8_takesTenths_48 : decode cX8_takesTenths 48 = .ok (.aload_n 0, 1) := by decide +kernel
theorem dX8_takesTenths_49 : decode cX8_takesTenths 49 = .ok (.getfield 45, 3) := by decide +kernel
theorem dX8_takesTenths_52 : decode cX8_takesTenths 52 = .ok (.bipush 12, 2) := by decide +kernel
theorem dX8_takesTenths_54 : decode cX8_takesTenths 54 = .ok (.iload_n 2, 1) := by decide +kernel
theorem dX8_takesTenths_55 : decode cX8_takesTenths 55 = .ok (.iadd, 1) := by decide +kernel
theorem dX8_takesTenths_56 : decode cX8_takesTenths 56 = .ok (.iload 4, 2) := by decide +kernel
theorem dX8_takesTenths_58 : decode cX8_takesTenths 58 = .ok (.iload_n 3, 1) := by decide +kernel
theorem dX8_takesTenths_59 : decode cX8_takesTenths 59 = .ok (.isub, 1) := by decide +kernel
theorem dX8_takesTenths_60 : decode cX8_takesTenths 60 = .ok (.iastore, 1) := by decide +kernel
theorem dX8_takesTenths_61 : decode cX8_takesTenths 61 = .ok (.iconst 1, 1) := by decide +kernel
theorem dX8_takesTenths_62 : decode cX8_takesTenths 62 = .ok (.ireturn, 1) := by decide +kernel
set_option maxHeartbeats 4000000 in
set_option maxRecDepth 100000 in
theorem c_X8_takesTenths {l : Launch} {g : GW} {s : Nat} {c w : Nat} {tn : Nat → Nat → Nat} {ow : Nat → Nat} (μ : Mm) (hc : c < 127) (hs : s < 3) (h0 : tn w s = 0) (hR : RdM μ w tn ow) : Con l g yX8_takesTenths cX8_takesTenths 5 (some .boolean) 1 [.ref 65, .int (nI c), .int (nI s)] μ (fun r μ' => if 48 ≤ c ∧ c ≤ 57 ∧ c - 48 ≤ tn 4 s then r = some (.int 1) ∧ RdM μ' w (up2N (up2N tn w s (c - 48)) 4 s (tn 4 s - (c - 48))) ow ∧ FrR μ μ' else r = some (.int 0) ∧ μ' = μ) := by
  obtain ⟨r1, r2, r3, r4, r5, r6, r7⟩ := id hR
  have ht4 := r7.le (w := 4) (s := s) (by omega) hs
  refine Con.of [.ref 65, .int (nI c), .int (nI s), .null, .null] 2 (by decide +kernel) (Nat.le_of_ble_eq_true rfl) rfl ?_
  refine V_iload_n (pc := 0) dX8_takesTenths_0 rfl rfl ?_
  refine V_bipush (pc := 1) (v := 48) dX8_takesTenths_1 (by decide) ?_
  refine V_isub (pc := 3) dX8_takesTenths_3 ?_
  refine V_istore3 (pc := 4) dX8_takesTenths_4 (by decide) rfl ?_
  refine V_aload_n (pc := 5) dX8_takesTenths_5 rfl rfl ?_
  refine V_getR (pc := 6) (ci := 8) (j := 24) (k2 := 76) dX8_takesTenths_6 fl_X8_45 (fun _ _ _ _ => rfl) (by decide) rfl (rf_8_24 rfl) ?_
  refine V_bipush (pc := 9) (v := 12) dX8_takesTenths_9 (by decide) ?_
  refine V_iload_n (pc := 11) dX8_takesTenths_11 rfl rfl ?_
  refine V_iadd (pc := 12) dX8_takesTenths_12 ?_
  refine V_iald (pc := 13) (j := (12 + s)) dX8_takesTenths_13 (by decide) rfl (by rw [show (12 : Int32) = nI 12 from rfl, nI_add]) (by show 12 + s < 15; omega) ?_
  rw [show μ.1 76 (12 + s) = nI (tn 4 s) from by have e := r4 4 s (by omega) hs; rw [show 3 * 4 + s = 12 + s by omega] at e; exact e]
  refine V_istore4 (pc := 14) dX8_takesTenths_14 (by decide) rfl ?_
  refine V_iload_n (pc := 16) dX8_takesTenths_16 rfl rfl ?_
  refine V_iconst (pc := 17) (v := 0) dX8_takesTenths_17 (by decide) ?_
  refine V_bipush (pc := 18) (v := 9) dX8_takesTenths_18 (by decide) ?_
  refine V_ins3 (pc := 20) dX8_takesTenths_20 ml_X8_88 (by first | decide | omega) (Nat.le_of_ble_eq_true rfl) (c_X8_within μ) ?_
  rintro _ μ2 ⟨rfl, hμ⟩
  obtain rfl := hμ.symm
  rw [sub48t c hc]
  refine V_ifeq (pc := 23) (tgt := 32) dX8_takesTenths_23 (by decide) (fun h23 => ?_) (fun h23 => ?_)
  · have h23 := of_decide_eq_false (bI_e h23)
    refine V_iconst (pc := 32) (v := 0) dX8_takesTenths_32 (by decide) ?_
    refine V_zret (pc := 33) dX8_takesTenths_33 rfl (by first | exact Or.inl rfl | exact Or.inr rfl | assumption) ?_
    first
    | (rw [if_neg (by omega)]; exact ⟨rfl, rfl⟩)
  have h23 := of_decide_eq_true (bI_ne h23)
  rw [sub48 c hc h23.1]
  refine V_iload_n (pc := 26) dX8_takesTenths_26 rfl rfl ?_
  refine V_iload (pc := 27) dX8_takesTenths_27 rfl ?_
  refine V_icmple (pc := 29) (tgt := 34) dX8_takesTenths_29 (by decide) (fun h29 => ?_) (fun h29 => ?_)
  · have h29 := (nI_leI (a := c - 48) (b := tn 4 s) (by omega) (by omega)).mp h29
    refine V_aload_n (pc := 34) dX8_takesTenths_34 rfl rfl ?_
    refine V_getR (pc := 35) (ci := 8) (j := 24) (k2 := 76) dX8_takesTenths_35 fl_X8_45 (fun _ _ _ _ => rfl) (by decide) rfl (rf_8_24 rfl) ?_
    refine V_iconst (pc := 38) (v := 3) dX8_takesTenths_38 (by decide) ?_
    refine V_aload_n (pc := 39) dX8_takesTenths_39 rfl rfl ?_
    refine V_getI (pc := 40) (ci := 8) (j := 22) dX8_takesTenths_40 fl_X8_92 (fun _ _ _ _ => rfl) (by decide) rfl ?_
    refine V_imul (pc := 43) dX8_takesTenths_43 ?_
    refine V_iload_n (pc := 44) dX8_takesTenths_44 rfl rfl ?_
    refine V_iadd (pc := 45) dX8_takesTenths_45 ?_
    refine V_iload_n (pc := 46) dX8_takesTenths_46 rfl rfl ?_
    refine V_iast (pc := 47) (j := (3 * w + s)) dX8_takesTenths_47 (by decide) rfl (by rw [r1, show (3 : Int32) = nI 3 from rfl, pk_mul, nI_add]) (by show 3 * w + s < 15; omega) ?_
    refine V_aload_n (pc := 48) dX8_takesTenths_48 rfl rfl ?_
    refine V_getR (pc := 49) (ci := 8) (j := 24) (k2 := 76) dX8_takesTenths_49 fl_X8_45 (fun _ _ _ _ => rfl) (by decide) rfl (rf_8_24 rfl) ?_
    refine V_bipush (pc := 52) (v := 12) dX8_takesTenths_52 (by decide) ?_
    refine V_iload_n (pc := 54) dX8_takesTenths_54 rfl rfl ?_
    refine V_iadd (pc := 55) dX8_takesTenths_55 ?_
    refine V_iload (pc := 56) dX8_takesTenths_56 rfl ?_
    refine V_iload_n (pc := 58) dX8_takesTenths_58 rfl rfl ?_
    refine V_isub (pc := 59) dX8_takesTenths_59 ?_
    refine V_iast (pc := 60) (j := (12 + s)) dX8_takesTenths_60 (by decide) rfl (by rw [show (12 : Int32) = nI 12 from rfl, nI_add]) (by show 12 + s < 15; omega) ?_
    refine V_iconst (pc := 61) (v := 1) dX8_takesTenths_61 (by decide) ?_
    refine V_zret (pc := 62) dX8_takesTenths_62 rfl (by first | exact Or.inl rfl | exact Or.inr rfl | assumption) ?_
    rw [if_pos ⟨h23.1, h23.2, h29⟩]
    exact ⟨rfl, hR.ten hs h0 h29 rfl (by rw [pk_sub (by omega)]), (FrR.rf.set (by omega)).set (by omega)⟩
  have h29 := mt (nI_leI (a := c - 48) (b := tn 4 s) (by omega) (by omega)).mpr h29
  refine V_iconst (pc := 32) (v := 0) dX8_takesTenths_32 (by decide) ?_
  refine V_zret (pc := 33) dX8_takesTenths_33 rfl (by first | exact Or.inl rfl | exact Or.inr rfl | assumption) ?_
  first
  | (rw [if_neg (by omega)]; exact ⟨rfl, rfl⟩)
theorem dX8_nextState_0 : decode cX8_nextState 0 = .ok (.iload_n 1, 1) := by decide +kernel
theorem dX8_nextState_1 : decode cX8_nextState 1 = .ok (.tableswitch 131 0 6 #[43, 67, 91, 131, 131, 131, 103], 43) := by decide +kernel
theorem dX8_nextState_44 : decode cX8_nextState 44 = .ok (.iload_n 2, 1) := by decide +kernel
theorem dX8_nextState_45 : decode cX8_nextState 45 = .ok (.bipush 45, 2) := by decide +kernel
theorem dX8_nextState_47 : decode cX8_nextState 47 = .ok (.if_icmp .ne 7, 3) := by decide +kernel
theorem dX8_nextState_50 : decode cX8_nextState 50 = .ok (.iconst 2, 1) := by decide +kernel
theorem dX8_nextState_51 : decode cX8_nextState 51 = .ok (.goto 16, 3) := by decide +kernel
theorem dX8_nextState_54 : decode cX8_nextState 54 = .ok (.aload_n 0, 1) := by decide +kernel
theorem dX8_nextState_55 : decode cX8_nextState 55 = .ok (.iload_n 2, 1) := by decide +kernel
theorem dX8_nextState_56 : decode cX8_nextState 56 = .ok (.invokevirtual 98, 3) := by decide +kernel
theorem dX8_nextState_59 : decode cX8_nextState 59 = .ok (.ifCond .eq 7, 3) := by decide +kernel
theorem dX8_nextState_62 : decode cX8_nextState 62 = .ok (.iconst 1, 1) := by decide +kernel
theorem dX8_nextState_63 : decode cX8_nextState 63 = .ok (.goto 4, 3) := by decide +kernel
theorem dX8_nextState_66 : decode cX8_nextState 66 = .ok (.iconst (-1), 1) := by decide +kernel
theorem dX8_nextState_67 : decode cX8_nextState 67 = .ok (.ireturn, 1) := by decide +kernel
theorem dX8_nextState_68 : decode cX8_nextState 68 = .ok (.iload_n 2, 1) := by decide +kernel
theorem dX8_nextState_69 : decode cX8_nextState 69 = .ok (.bipush 58, 2) := by decide +kernel
theorem dX8_nextState_71 : decode cX8_nextState 71 = .ok (.if_icmp .ne 7, 3) := by decide +kernel
theorem dX8_nextState_74 : decode cX8_nextState 74 = .ok (.iconst 3, 1) := by decide +kernel
theorem dX8_nextState_75 : decode cX8_nextState 75 = .ok (.goto 16, 3) := by decide +kernel
theorem dX8_nextState_78 : decode cX8_nextState 78 = .ok (.aload_n 0, 1) := by decide +kernel
theorem dX8_nextState_79 : decode cX8_nextState 79 = .ok (.iload_n 2, 1) := by decide +kernel
theorem dX8_nextState_80 : decode cX8_nextState 80 = .ok (.invokevirtual 98, 3) := by decide +kernel
theorem dX8_nextState_83 : decode cX8_nextState 83 = .ok (.ifCond .eq 7, 3) := by decide +kernel
theorem dX8_nextState_86 : decode cX8_nextState 86 = .ok (.iconst 2, 1) := by decide +kernel
theorem dX8_nextState_87 : decode cX8_nextState 87 = .ok (.goto 4, 3) := by decide +kernel
theorem dX8_nextState_90 : decode cX8_nextState 90 = .ok (.iconst (-1), 1) := by decide +kernel
theorem dX8_nextState_91 : decode cX8_nextState 91 = .ok (.ireturn, 1) := by decide +kernel
theorem dX8_nextState_92 : decode cX8_nextState 92 = .ok (.iload_n 2, 1) := by decide +kernel
theorem dX8_nextState_93 : decode cX8_nextState 93 = .ok (.bipush 58, 2) := by decide +kernel
theorem dX8_nextState_95 : decode cX8_nextState 95 = .ok (.if_icmp .ne 7, 3) := by decide +kernel
theorem dX8_nextState_98 : decode cX8_nextState 98 = .ok (.iconst 3, 1) := by decide +kernel
theorem dX8_nextState_99 : decode cX8_nextState 99 = .ok (.goto 4, 3) := by decide +kernel
theorem dX8_nextState_102 : decode cX8_nextState 102 = .ok (.iconst (-1), 1) := by decide +kernel
theorem dX8_nextState_103 : decode cX8_nextState 103 = .ok (.ireturn, 1) := by decide +kernel
theorem dX8_nextState_104 : decode cX8_nextState 104 = .ok (.iload_n 2, 1) := by decide +kernel
theorem dX8_nextState_105 : decode cX8_nextState 105 = .ok (.bipush 47, 2) := by decide +kernel
theorem dX8_nextState_107 : decode cX8_nextState 107 = .ok (.if_icmp .ne 11, 3) := by decide +kernel
theorem dX8_nextState_110 : decode cX8_nextState 110 = .ok (.aload_n 0, 1) := by decide +kernel
theorem dX8_nextState_111 : decode cX8_nextState 111 = .ok (.getfield 92, 3) := by decide +kernel
theorem dX8_nextState_114 : decode cX8_nextState 114 = .ok (.iconst 3, 1) := by decide +kernel
theorem dX8_nextState_115 : decode cX8_nextState 115 = .ok (.if_icmp .ne 5, 3) := by decide +kernel
theorem dX8_nextState_118 : decode cX8_nextState 118 = .ok (.iconst (-1), 1) := by decide +kernel
theorem dX8_nextState_119 : decode cX8_nextState 119 = .ok (.ireturn, 1) := by decide +kernel
theorem dX8_nextState_120 : decode cX8_nextState 120 = .ok (.aload_n 0, 1) := by decide +kernel
theorem dX8_nextState_121 : decode cX8_nextState 121 = .ok (.dup, 1) := by decide +kernel
theorem dX8_nextState_122 : decode cX8_nextState 122 = .ok (.getfield 92, 3) := by decide +kernel
theorem dX8_nextState_125 : decode cX8_nextState 125 = .ok (.iconst 1, 1) := by decide +kernel
theorem dX8_nextState_126 : decode cX8_nextState 126 = .ok (.iadd, 1) := by decide +kernel
theorem dX8_nextState_127 : decode cX8_nextState 127 = .ok (.putfield 92, 3) := by decide +kernel
theorem dX8_nextState_130 : decode cX8_nextState 130 = .ok (.iconst 0, 1) := by decide +kernel
theorem dX8_nextState_131 : decode cX8_nextState 131 = .ok (.ireturn, 1) := by decide +kernel
theorem dX8_nextState_132 : decode cX8_nextState 132 = .ok (.aload_n 0, 1) := by decide +kernel
theorem dX8_nextState_133 : decode cX8_nextState 133 = .ok (.iload_n 2, 1) := by decide +kernel
theorem dX8_nextState_134 : decode cX8_nextState 134 = .ok (.iload_n 1, 1) := by decide +kernel
theorem dX8_nextState_135 : decode cX8_nextState 135 = .ok (.iconst 3, 1) := by decide +kernel
theorem dX8_nextState_136 : decode cX8_nextState 136 = .ok (.isub, 1) := by decide +kernel
theorem dX8_nextState_137 : decode cX8_nextState 137 = .ok (.invokevirtual 102, 3) := by decide +kernel
theorem dX8_nextState_140 : decode cX8_nextState 140 = .ok (.ifCond .eq 9, 3) := by decide +kernel
theorem dX8_nextState_143 : decode cX8_nextState 143 = .ok (.iload_n 1, 1) := by decide +kernel
theorem dX8_nextState_144 : decode cX8_nextState 144 = .ok (.iconst 1, 1) := by decide +kernel
theorem dX8_nextState_145 : decode cX8_nextState 145 = .ok (.iadd, 1) := by decide +kernel
theorem dX8_nextState_146 : decode cX8_nextState 146 = .ok (.goto 4, 3) := by decide +kernel
theorem dX8_nextState_149 : decode cX8_nextState 149 = .ok (.iconst (-1), 1) := by decide +kernel
theorem dX8_nextState_150 : decode cX8_nextState 150 = .ok (.ireturn, 1) := by decide +kernel
set_option maxHeartbeats 4000000 in
set_option maxRecDepth 100000 in
theorem c_X8_nextState {l : Launch} {g : GW} {x : Nat} {c w : Nat} {tn : Nat → Nat → Nat} {ow : Nat → Nat} (μ : Mm) (hc : c < 127) (hok : PsOK (x, w, tn, ow)) (hR : RdM μ w tn ow) : Con l g yX8_nextState cX8_nextState 3 (some .int) 2 [.ref 65, .int (nI x), .int (nI c)] μ (nsQ c (x, w, tn, ow) μ) := by
  obtain ⟨r1, r2, r3, r4, r5, r6, r7⟩ := id hR
  have hx6 : x ≤ 6 := hok.1
  have hw3 : w ≤ 3 := hok.2.1
  refine Con.of [.ref 65, .int (nI x), .int (nI c)] 0 (by decide +kernel) (Nat.le_of_ble_eq_true rfl) rfl ?_
  have J132 : 3 ≤ x → x ≤ 5 → V l g RX8 cX8_nextState 3 (some .int) 2 132 [.ref 65, .int (nI x), .int (nI c)] [] μ (nsQ c (x, w, tn, ow) μ) := by
    intro h3 h5
    have h0t : tn w (x - 3) = 0 := hok.2.2 w (x - 3) (by omega) (Or.inr ⟨rfl, by show x ≤ x - 3 + 3; omega⟩)
    have ep := pst_t (c := c) (x := x) (w := w) (tn := tn) (ow := ow) (by omega) (by omega) (by omega) (by omega)
    refine V_aload_n (pc := 132) dX8_nextState_132 rfl rfl ?_
    refine V_iload_n (pc := 133) dX8_nextState_133 rfl rfl ?_
    refine V_iload_n (pc := 134) dX8_nextState_134 rfl rfl ?_
    refine V_iconst (pc := 135) (v := 3) dX8_nextState_135 (by decide) ?_
    refine V_isub (pc := 136) dX8_nextState_136 ?_
    rw [show (nI x - 3 : Int32) = nI (x - 3) from pk_sub (a := x) (b := 3) h3]
    refine V_inv2 (pc := 137) (ci := 8) dX8_nextState_137 ml_X8_102 (by decide) rfl ⟨by decide, rfl⟩ (by first | decide | omega) (Nat.le_of_ble_eq_true rfl) (c_X8_takesTenths μ hc (show x - 3 < 3 by omega) h0t hR) ?_
    skip
    intro r μ1 hq
    by_cases hm : 48 ≤ c ∧ c ≤ 57 ∧ c - 48 ≤ tn 4 (x - 3)
    · rw [if_pos hm] at hq
      obtain ⟨rfl, hR1, hF1⟩ := hq
      refine V_ifeq (pc := 140) (tgt := 149) dX8_nextState_140 (by decide) (fun h140 => ?_) (fun h140 => ?_)
      · exact absurd h140 (by decide)
      refine V_iload_n (pc := 143) dX8_nextState_143 rfl rfl ?_
      refine V_iconst (pc := 144) (v := 1) dX8_nextState_144 (by decide) ?_
      refine V_iadd (pc := 145) dX8_nextState_145 ?_
      refine V_goto (pc := 146) (tgt := 150) dX8_nextState_146 (by decide) ?_
      refine V_iret (pc := 150) dX8_nextState_150 rfl ?_
      exact nsQ_yes hF1 (by rw [ep, if_pos hm]) hR1 (nI_1 x)
    rw [if_neg hm] at hq
    obtain ⟨rfl, hμ⟩ := hq
    obtain rfl := hμ.symm
    refine V_ifeq (pc := 140) (tgt := 149) dX8_nextState_140 (by decide) (fun h140 => ?_) (fun h140 => ?_)
    · refine V_iconst (pc := 149) (v := (-1)) dX8_nextState_149 (by decide) ?_
      refine V_iret (pc := 150) dX8_nextState_150 rfl ?_
      exact nsQ_no FrR.rf (by rw [ep, if_neg hm]) hR
    exact absurd rfl h140
  refine V_iload_n (pc := 0) dX8_nextState_0 rfl rfl ?_
  have hsel : x = 0 ∨ x = 1 ∨ x = 2 ∨ x = 3 ∨ x = 4 ∨ x = 5 ∨ x = 6 := by omega
  rcases hsel with hs1 | hs1 | hs1 | hs1 | hs1 | hs1 | hs1
  · subst hs1
    refine V_tsIn (pc := 1) (off := 43) (tgt := 44) dX8_nextState_1 (by decide) (by decide) (by decide) (by decide) ?_
    refine V_iload_n (pc := 44) dX8_nextState_44 rfl rfl ?_
    refine V_bipush (pc := 45) (v := 45) dX8_nextState_45 (by decide) ?_
    refine V_icmpne (pc := 47) (tgt := 54) dX8_nextState_47 (by decide) (fun h47 => ?_) (fun h47 => ?_)
    · have h47 := mt (nI_eq (a := c) (b := 45) (by omega) (by omega)).mpr h47
      refine V_aload_n (pc := 54) dX8_nextState_54 rfl rfl ?_
      refine V_iload_n (pc := 55) dX8_nextState_55 rfl rfl ?_
      refine V_inv1 (pc := 56) (ci := 8) dX8_nextState_56 ml_X8_98 (by decide) rfl ⟨by decide, rfl⟩ (by first | decide | omega) (Nat.le_of_ble_eq_true rfl) (c_X8_takesName μ hc hR) ?_
      skip
      intro r μ1 hq
      by_cases hm : 48 ≤ c ∧ c < 54 ∧ ow (c - 48) = 0
      · rw [if_pos hm] at hq
        obtain ⟨rfl, hR1, hF1⟩ := hq
        refine V_ifeq (pc := 59) (tgt := 66) dX8_nextState_59 (by decide) (fun h59 => ?_) (fun h59 => ?_)
        · exact absurd h59 (by decide)
        refine V_iconst (pc := 62) (v := 1) dX8_nextState_62 (by decide) ?_
        refine V_goto (pc := 63) (tgt := 67) dX8_nextState_63 (by decide) ?_
        refine V_iret (pc := 67) dX8_nextState_67 rfl ?_
        exact nsQ_yes hF1 (by rw [pst_0, if_neg h47, nmP_y hm]) hR1 rfl
      rw [if_neg hm] at hq
      obtain ⟨rfl, hμ⟩ := hq
      obtain rfl := hμ.symm
      refine V_ifeq (pc := 59) (tgt := 66) dX8_nextState_59 (by decide) (fun h59 => ?_) (fun h59 => ?_)
      · refine V_iconst (pc := 66) (v := (-1)) dX8_nextState_66 (by decide) ?_
        refine V_iret (pc := 67) dX8_nextState_67 rfl ?_
        exact nsQ_no FrR.rf (by rw [pst_0, if_neg h47, nmP_n hm]) hR
      exact absurd rfl h59
    have h47 := (nI_eq (a := c) (b := 45) (by omega) (by omega)).mp h47
    refine V_iconst (pc := 50) (v := 2) dX8_nextState_50 (by decide) ?_
    refine V_goto (pc := 51) (tgt := 67) dX8_nextState_51 (by decide) ?_
    refine V_iret (pc := 67) dX8_nextState_67 rfl ?_
    exact nsQ_yes FrR.rf (by rw [pst_0, if_pos h47]) hR rfl
  · subst hs1
    refine V_tsIn (pc := 1) (off := 67) (tgt := 68) dX8_nextState_1 (by decide) (by decide) (by decide) (by decide) ?_
    refine V_iload_n (pc := 68) dX8_nextState_68 rfl rfl ?_
    refine V_bipush (pc := 69) (v := 58) dX8_nextState_69 (by decide) ?_
    refine V_icmpne (pc := 71) (tgt := 78) dX8_nextState_71 (by decide) (fun h71 => ?_) (fun h71 => ?_)
    · have h71 := mt (nI_eq (a := c) (b := 58) (by omega) (by omega)).mpr h71
      refine V_aload_n (pc := 78) dX8_nextState_78 rfl rfl ?_
      refine V_iload_n (pc := 79) dX8_nextState_79 rfl rfl ?_
      refine V_inv1 (pc := 80) (ci := 8) dX8_nextState_80 ml_X8_98 (by decide) rfl ⟨by decide, rfl⟩ (by first | decide | omega) (Nat.le_of_ble_eq_true rfl) (c_X8_takesName μ hc hR) ?_
      skip
      intro r μ1 hq
      by_cases hm : 48 ≤ c ∧ c < 54 ∧ ow (c - 48) = 0
      · rw [if_pos hm] at hq
        obtain ⟨rfl, hR1, hF1⟩ := hq
        refine V_ifeq (pc := 83) (tgt := 90) dX8_nextState_83 (by decide) (fun h83 => ?_) (fun h83 => ?_)
        · exact absurd h83 (by decide)
        refine V_iconst (pc := 86) (v := 2) dX8_nextState_86 (by decide) ?_
        refine V_goto (pc := 87) (tgt := 91) dX8_nextState_87 (by decide) ?_
        refine V_iret (pc := 91) dX8_nextState_91 rfl ?_
        exact nsQ_yes hF1 (by rw [pst_1, if_neg h71, nmP_y hm]) hR1 rfl
      rw [if_neg hm] at hq
      obtain ⟨rfl, hμ⟩ := hq
      obtain rfl := hμ.symm
      refine V_ifeq (pc := 83) (tgt := 90) dX8_nextState_83 (by decide) (fun h83 => ?_) (fun h83 => ?_)
      · refine V_iconst (pc := 90) (v := (-1)) dX8_nextState_90 (by decide) ?_
        refine V_iret (pc := 91) dX8_nextState_91 rfl ?_
        exact nsQ_no FrR.rf (by rw [pst_1, if_neg h71, nmP_n hm]) hR
      exact absurd rfl h83
    have h71 := (nI_eq (a := c) (b := 58) (by omega) (by omega)).mp h71
    refine V_iconst (pc := 74) (v := 3) dX8_nextState_74 (by decide) ?_
    refine V_goto (pc := 75) (tgt := 91) dX8_nextState_75 (by decide) ?_
    refine V_iret (pc := 91) dX8_nextState_91 rfl ?_
    exact nsQ_yes FrR.rf (by rw [pst_1, if_pos h71]) hR rfl
  · subst hs1
    refine V_tsIn (pc := 1) (off := 91) (tgt := 92) dX8_nextState_1 (by decide) (by decide) (by decide) (by decide) ?_
    refine V_iload_n (pc := 92) dX8_nextState_92 rfl rfl ?_
    refine V_bipush (pc := 93) (v := 58) dX8_nextState_93 (by decide) ?_
    refine V_icmpne (pc := 95) (tgt := 102) dX8_nextState_95 (by decide) (fun h95 => ?_) (fun h95 => ?_)
    · have h95 := mt (nI_eq (a := c) (b := 58) (by omega) (by omega)).mpr h95
      refine V_iconst (pc := 102) (v := (-1)) dX8_nextState_102 (by decide) ?_
      refine V_iret (pc := 103) dX8_nextState_103 rfl ?_
      exact nsQ_no FrR.rf (by rw [pst_2, if_neg h95]) hR
    have h95 := (nI_eq (a := c) (b := 58) (by omega) (by omega)).mp h95
    refine V_iconst (pc := 98) (v := 3) dX8_nextState_98 (by decide) ?_
    refine V_goto (pc := 99) (tgt := 103) dX8_nextState_99 (by decide) ?_
    refine V_iret (pc := 103) dX8_nextState_103 rfl ?_
    exact nsQ_yes FrR.rf (by rw [pst_2, if_pos h95]) hR rfl
  · subst hs1
    refine V_tsIn (pc := 1) (off := 131) (tgt := 132) dX8_nextState_1 (by decide) (by decide) (by decide) (by decide) ?_
    exact J132 (by decide) (by decide)
  · subst hs1
    refine V_tsIn (pc := 1) (off := 131) (tgt := 132) dX8_nextState_1 (by decide) (by decide) (by decide) (by decide) ?_
    exact J132 (by decide) (by decide)
  · subst hs1
    refine V_tsIn (pc := 1) (off := 131) (tgt := 132) dX8_nextState_1 (by decide) (by decide) (by decide) (by decide) ?_
    exact J132 (by decide) (by decide)
  · subst hs1
    refine V_tsIn (pc := 1) (off := 103) (tgt := 104) dX8_nextState_1 (by decide) (by decide) (by decide) (by decide) ?_
    refine V_iload_n (pc := 104) dX8_nextState_104 rfl rfl ?_
    refine V_bipush (pc := 105) (v := 47) dX8_nextState_105 (by decide) ?_
    refine V_icmpne (pc := 107) (tgt := 118) dX8_nextState_107 (by decide) (fun h107 => ?_) (fun h107 => ?_)
    · have h107 := mt (nI_eq (a := c) (b := 47) (by omega) (by omega)).mpr h107
      refine V_iconst (pc := 118) (v := (-1)) dX8_nextState_118 (by decide) ?_
      refine V_iret (pc := 119) dX8_nextState_119 rfl ?_
      first
      | exact nsQ_no FrR.rf (by rw [pst_6, if_neg (fun q => h107 q.2)]) hR
      | exact nsQ_no FrR.rf (by rw [pst_6, if_neg (fun q => by omega)]) hR
    have h107 := (nI_eq (a := c) (b := 47) (by omega) (by omega)).mp h107
    refine V_aload_n (pc := 110) dX8_nextState_110 rfl rfl ?_
    refine V_getI (pc := 111) (ci := 8) (j := 22) dX8_nextState_111 fl_X8_92 (fun _ _ _ _ => rfl) (by decide) rfl ?_
    rw [r1]
    refine V_iconst (pc := 114) (v := 3) dX8_nextState_114 (by decide) ?_
    refine V_icmpne (pc := 115) (tgt := 120) dX8_nextState_115 (by decide) (fun h115 => ?_) (fun h115 => ?_)
    · have h115 := mt (nI_eq (a := w) (b := 3) (by omega) (by omega)).mpr h115
      refine V_aload_n (pc := 120) dX8_nextState_120 rfl rfl ?_
      refine V_dup (pc := 121) dX8_nextState_121 rfl ?_
      refine V_getI (pc := 122) (ci := 8) (j := 22) dX8_nextState_122 fl_X8_92 (fun _ _ _ _ => rfl) (by decide) rfl ?_
      refine V_iconst (pc := 125) (v := 1) dX8_nextState_125 (by decide) ?_
      refine V_iadd (pc := 126) dX8_nextState_126 ?_
      refine V_putI (pc := 127) (ci := 8) (j := 22) dX8_nextState_127 fl_X8_92 (fun _ _ _ _ _ => rfl) rfl rfl (by decide) rfl ?_
      refine V_iconst (pc := 130) (v := 0) dX8_nextState_130 (by decide) ?_
      refine V_iret (pc := 131) dX8_nextState_131 rfl ?_
      exact nsQ_yes (FrR.rf.set (by omega)) (by rw [pst_6, if_pos ⟨by omega, h107⟩]) (hR.wind (by omega) (by rw [r1]; exact nI_1 w)) rfl
    have h115 := (nI_eq (a := w) (b := 3) (by omega) (by omega)).mp h115
    refine V_iconst (pc := 118) (v := (-1)) dX8_nextState_118 (by decide) ?_
    refine V_iret (pc := 119) dX8_nextState_119 rfl ?_
    first
    | exact nsQ_no FrR.rf (by rw [pst_6, if_neg (fun q => h107 q.2)]) hR
    | exact nsQ_no FrR.rf (by rw [pst_6, if_neg (fun q => by omega)]) hR
theorem dX8_readBook_0 : decode cX8_readBook 0 = .ok (.aload_n 0, 1) := by decide +kernel
theorem dX8_readBook_1 : decode cX8_readBook 1 = .ok (.iconst 0, 1) := by decide +kernel
theorem dX8_readBook_2 : decode cX8_readBook 2 = .ok (.putfield 92, 3) := by decide +kernel
theorem dX8_readBook_5 : decode cX8_readBook 5 = .ok (.aload_n 0, 1) := by decide +kernel
theorem dX8_readBook_6 : decode cX8_readBook 6 = .ok (.iconst 0, 1) := by decide +kernel
theorem dX8_readBook_7 : decode cX8_readBook 7 = .ok (.putfield 95, 3) := by decide +kernel
theorem dX8_readBook_10 : decode cX8_readBook 10 = .ok (.iconst 0, 1) := by decide +kernel
theorem dX8_readBook_11 : decode cX8_readBook 11 = .ok (.istore_n 1, 1) := by decide +kernel
theorem dX8_readBook_12 : decode cX8_readBook 12 = .ok (.iload_n 1, 1) := by decide +kernel
theorem dX8_readBook_13 : decode cX8_readBook 13 = .ok (.bipush 15, 2) := by decide +kernel
theorem dX8_readBook_15 : decode cX8_readBook 15 = .ok (.if_icmp .ge 27, 3) := by decide +kernel
theorem dX8_readBook_18 : decode cX8_readBook 18 = .ok (.aload_n 0, 1) := by decide +kernel
theorem dX8_readBook_19 : decode cX8_readBook 19 = .ok (.getfield 45, 3) := by decide +kernel
theorem dX8_readBook_22 : decode cX8_readBook 22 = .ok (.iload_n 1, 1) := by decide +kernel
theorem dX8_readBook_23 : decode cX8_readBook 23 = .ok (.iload_n 1, 1) := by decide +kernel
theorem dX8_readBook_24 : decode cX8_readBook 24 = .ok (.bipush 12, 2) := by decide +kernel
theorem dX8_readBook_26 : decode cX8_readBook 26 = .ok (.if_icmp .ge 7, 3) := by decide +kernel
theorem dX8_readBook_29 : decode cX8_readBook 29 = .ok (.iconst 0, 1) := by decide +kernel
theorem dX8_readBook_30 : decode cX8_readBook 30 = .ok (.goto 5, 3) := by decide +kernel
theorem dX8_readBook_33 : decode cX8_readBook 33 = .ok (.bipush 10, 2) := by decide +kernel
theorem dX8_readBook_35 : decode cX8_readBook 35 = .ok (.iastore, 1) := by decide +kernel
theorem dX8_readBook_36 : decode cX8_readBook 36 = .ok (.iinc 1 1, 3) := by decide +kernel
theorem dX8_readBook_39 : decode cX8_readBook 39 = .ok (.goto (-27), 3) := by decide +kernel
theorem dX8_readBook_42 : decode cX8_readBook 42 = .ok (.iconst 0, 1) := by decide +kernel
theorem dX8_readBook_43 : decode cX8_readBook 43 = .ok (.istore_n 1, 1) := by decide +kernel
theorem dX8_readBook_44 : decode cX8_readBook 44 = .ok (.iload_n 1, 1) := by decide +kernel
theorem dX8_readBook_45 : decode cX8_readBook 45 = .ok (.bipush 6, 2) := by decide +kernel
theorem dX8_readBook_47 : decode cX8_readBook 47 = .ok (.if_icmp .ge 16, 3) := by decide +kernel
theorem dX8_readBook_50 : decode cX8_readBook 50 = .ok (.aload_n 0, 1) := by decide +kernel
theorem dX8_readBook_51 : decode cX8_readBook 51 = .ok (.getfield 48, 3) := by decide +kernel
theorem dX8_readBook_54 : decode cX8_readBook 54 = .ok (.iload_n 1, 1) := by decide +kernel
theorem dX8_readBook_55 : decode cX8_readBook 55 = .ok (.iconst (-1), 1) := by decide +kernel
theorem dX8_readBook_56 : decode cX8_readBook 56 = .ok (.iastore, 1) := by decide +kernel
theorem dX8_readBook_57 : decode cX8_readBook 57 = .ok (.iinc 1 1, 3) := by decide +kernel
theorem dX8_readBook_60 : decode cX8_readBook 60 = .ok (.goto (-16), 3) := by decide +kernel
theorem dX8_readBook_63 : decode cX8_readBook 63 = .ok (.iconst 0, 1) := by decide +kernel
theorem dX8_readBook_64 : decode cX8_readBook 64 = .ok (.istore_n 1, 1) := by decide +kernel
theorem dX8_readBook_65 : decode cX8_readBook 65 = .ok (.iconst 0, 1) := by decide +kernel
theorem dX8_readBook_66 : decode cX8_readBook 66 = .ok (.istore_n 2, 1) := by decide +kernel
theorem dX8_readBook_67 : decode cX8_readBook 67 = .ok (.iconst 1, 1) := by decide +kernel
theorem dX8_readBook_68 : decode cX8_readBook 68 = .ok (.istore_n 3, 1) := by decide +kernel
theorem dX8_readBook_69 : decode cX8_readBook 69 = .ok (.iload_n 2, 1) := by decide +kernel
theorem dX8_readBook_70 : decode cX8_readBook 70 = .ok (.aload_n 0, 1) := by decide +kernel
theorem dX8_readBook_71 : decode cX8_readBook 71 = .ok (.getfield 85, 3) := by decide +kernel
theorem dX8_readBook_74 : decode cX8_readBook 74 = .ok (.if_icmp .ge 58, 3) := by decide +kernel
theorem dX8_readBook_77 : decode cX8_readBook 77 = .ok (.iload_n 3, 1) := by decide +kernel
theorem dX8_readBook_78 : decode cX8_readBook 78 = .ok (.ifCond .eq 54, 3) := by decide +kernel
theorem dX8_readBook_81 : decode cX8_readBook 81 = .ok (.aload_n 0, 1) := by decide +kernel
theorem dX8_readBook_82 : decode cX8_readBook 82 = .ok (.iload_n 1, 1) := by decide +kernel
theorem dX8_readBook_83 : decode cX8_readBook 83 = .ok (.aload_n 0, 1) := by decide +kernel
theorem dX8_readBook_84 : decode cX8_readBook 84 = .ok (.getfield 41, 3) := by decide +kernel
theorem dX8_readBook_87 : decode cX8_readBook 87 = .ok (.iload_n 2, 1) := by decide +kernel
theorem dX8_readBook_88 : decode cX8_readBook 88 = .ok (.baload, 1) := by decide +kernel
theorem dX8_readBook_89 : decode cX8_readBook 89 = .ok (.invokevirtual 106, 3) := by decide +kernel
theorem dX8_readBook_92 : decode cX8_readBook 92 = .ok (.istore 4, 2) := by decide +kernel
theorem dX8_readBook_94 : decode cX8_readBook 94 = .ok (.iload 4, 2) := by decide +kernel
theorem dX8_readBook_96 : decode cX8_readBook 96 = .ok (.iconst (-1), 1) := by decide +kernel
theorem dX8_readBook_97 : decode cX8_readBook 97 = .ok (.if_icmp .eq 7, 3) := by decide +kernel
theorem dX8_readBook_100 : decode cX8_readBook 100 = .ok (.iconst 1, 1) := by decide +kernel
theorem dX8_readBook_101 : decode cX8_readBook 101 = .ok (.goto 4, 3) := by decide +kernel
theorem dX8_readBook_104 : decode cX8_readBook 104 = .ok (.iconst 0, 1) := by decide +kernel
theorem dX8_readBook_105 : decode cX8_readBook 105 = .ok (.istore_n 3, 1) := by decide +kernel
theorem dX8_readBook_106 : decode cX8_readBook 106 = .ok (.iload_n 3, 1) := by decide +kernel
theorem dX8_readBook_107 : decode cX8_readBook 107 = .ok (.ifCond .eq 8, 3) := by decide +kernel
theorem dX8_readBook_110 : decode cX8_readBook 110 = .ok (.iload 4, 2) := by decide +kernel
theorem dX8_readBook_112 : decode cX8_readBook 112 = .ok (.goto 4, 3) := by decide +kernel
theorem dX8_readBook_115 : decode cX8_readBook 115 = .ok (.iload_n 1, 1) := by decide +kernel
theorem dX8_readBook_116 : decode cX8_readBook 116 = .ok (.istore_n 1, 1) := by decide +kernel
theorem dX8_readBook_117 : decode cX8_readBook 117 = .ok (.iload_n 2, 1) := by decide +kernel
theorem dX8_readBook_118 : decode cX8_readBook 118 = .ok (.iload_n 3, 1) := by decide +kernel
theorem dX8_readBook_119 : decode cX8_readBook 119 = .ok (.ifCond .eq 7, 3) := by decide +kernel
theorem dX8_readBook_122 : decode cX8_readBook 122 = .ok (.iconst 1, 1) := by decide +kernel
theorem dX8_readBook_123 : decode cX8_readBook 123 = .ok (.goto 4, 3) := by decide +kernel
theorem dX8_readBook_126 : decode cX8_readBook 126 = .ok (.iconst 0, 1) := by decide +kernel
theorem dX8_readBook_127 : decode cX8_readBook 127 = .ok (.iadd, 1) := by decide +kernel
theorem dX8_readBook_128 : decode cX8_readBook 128 = .ok (.istore_n 2, 1) := by decide +kernel
theorem dX8_readBook_129 : decode cX8_readBook 129 = .ok (.goto (-60), 3) := by decide +kernel
theorem dX8_readBook_132 : decode cX8_readBook 132 = .ok (.aload_n 0, 1) := by decide +kernel
theorem dX8_readBook_133 : decode cX8_readBook 133 = .ok (.iload_n 2, 1) := by decide +kernel
theorem dX8_readBook_134 : decode cX8_readBook 134 = .ok (.putfield 110, 3) := by decide +kernel
theorem dX8_readBook_137 : decode cX8_readBook 137 = .ok (.aload_n 0, 1) := by decide +kernel
theorem dX8_readBook_138 : decode cX8_readBook 138 = .ok (.iload_n 2, 1) := by decide +kernel
theorem dX8_readBook_139 : decode cX8_readBook 139 = .ok (.aload_n 0, 1) := by decide +kernel
theorem dX8_readBook_140 : decode cX8_readBook 140 = .ok (.getfield 85, 3) := by decide +kernel
theorem dX8_readBook_143 : decode cX8_readBook 143 = .ok (.if_icmp .ne 21, 3) := by decide +kernel
theorem dX8_readBook_146 : decode cX8_readBook 146 = .ok (.iload_n 1, 1) := by decide +kernel
theorem dX8_readBook_147 : decode cX8_readBook 147 = .ok (.bipush 6, 2) := by decide +kernel
theorem dX8_readBook_149 : decode cX8_readBook 149 = .ok (.if_icmp .ne 15, 3) := by decide +kernel
theorem dX8_readBook_152 : decode cX8_readBook 152 = .ok (.aload_n 0, 1) := by decide +kernel
theorem dX8_readBook_153 : decode cX8_readBook 153 = .ok (.getfield 92, 3) := by decide +kernel
theorem dX8_readBook_156 : decode cX8_readBook 156 = .ok (.iconst 3, 1) := by decide +kernel
theorem dX8_readBook_157 : decode cX8_readBook 157 = .ok (.if_icmp .ne 7, 3) := by decide +kernel
theorem dX8_readBook_160 : decode cX8_readBook 160 = .ok (.iconst 1, 1) := by decide +kernel
theorem dX8_readBook_161 : decode cX8_readBook 161 = .ok (.goto 4, 3) := by decide +kernel
theorem dX8_readBook_164 : decode cX8_readBook 164 = .ok (.iconst 0, 1) := by decide +kernel
theorem dX8_readBook_165 : decode cX8_readBook 165 = .ok (.putfield 113, 3) := by decide +kernel
theorem dX8_readBook_168 : decode cX8_readBook 168 = .ok (.return_, 1) := by decide +kernel
set_option maxHeartbeats 4000000 in
set_option maxRecDepth 100000 in
theorem c_X8_readBook {l : Launch} {g : GW} {a : AT}  (μ : Mm) (hO : AOK a) (hM : RM μ a)  : Con l g yX8_readBook cX8_readBook 5 none 3 [.ref 65] μ (rbQ (aPc a) (aPn a) μ) := by
  obtain ⟨m1, m2, m3, m4, m5, m6, m7, m8, m9, m10, m11, m12, m13⟩ := id hM
  obtain ⟨o1, o2, o3, o4, o5, ⟨s1, s2, s3, s4⟩, oK, o8, o9, o10⟩ := id hO
  refine Con.of [.ref 65, .null, .null, .null, .null] 4 (by decide +kernel) (Nat.le_of_ble_eq_true rfl) rfl ?_
  have J132 : ∀ (μ1 : Mm) (k x w : Nat) (tn : Nat → Nat → Nat) (ow : Nat → Nat) (y3 y4 : Value), FrR μ μ1 → RdM μ1 w tn ow → x ≤ 6 → w ≤ 3 → k ≤ aPn a → prT (aPc a) k = some (x, w, tn, ow) → (k < aPn a → prT (aPc a) (k + 1) = none) → V l g RX8 cX8_readBook 5 none 3 132 [.ref 65, .int (nI x), .int (nI k), y3, y4] [] μ1 (rbQ (aPc a) (aPn a) μ) := by
    intro μ1 k x w tn ow y3 y4 hF hR hx6 hw3 hk hp hno
    refine V_aload_n (pc := 132) dX8_readBook_132 rfl rfl ?_
    refine V_iload_n (pc := 133) dX8_readBook_133 rfl rfl ?_
    have e18 : μ1.1 65 18 = nI (aPn a) := (hF.2.1 18 (by omega)).trans m12.1
    refine V_putI (pc := 134) (ci := 8) (j := 20) dX8_readBook_134 fl_X8_110 (fun _ _ _ _ _ => rfl) rfl rfl (by decide) rfl ?_
    refine V_aload_n (pc := 137) dX8_readBook_137 rfl rfl ?_
    refine V_iload_n (pc := 138) dX8_readBook_138 rfl rfl ?_
    refine V_aload_n (pc := 139) dX8_readBook_139 rfl rfl ?_
    refine V_getI (pc := 140) (ci := 8) (j := 18) dX8_readBook_140 fl_X8_85 (fun _ _ _ _ => rfl) (by decide) rfl ?_
    rw [show (setI μ1 65 20 (nI k)).1 65 18 = nI (aPn a) from by rw [get_ne (by omega)]; exact e18]
    refine V_icmpne (pc := 143) (tgt := 164) dX8_readBook_143 (by decide) (fun h143 => ?_) (fun h143 => ?_)
    · have h143 := mt (nI_eq (a := k) (b := aPn a) (by omega) (by omega)).mpr h143
      refine V_iconst (pc := 164) (v := 0) dX8_readBook_164 (by decide) ?_
      refine V_putZ (pc := 165) (ci := 8) (j := 21) dX8_readBook_165 fl_X8_113 (fun _ _ _ _ _ => rfl) rfl rfl (by decide) rfl (by first | exact Or.inl rfl | exact Or.inr rfl | assumption) ?_
      refine V_vret (pc := 168) dX8_readBook_168 rfl ?_
      unfold rbQ
      refine ⟨rfl, (hF.set (by omega)).set (by omega), ?_, ?_⟩
      · rw [get_ne (by omega), get_eq]
        rcases Nat.lt_or_ge k (aPn a) with q | q
        · rw [faT_at hp (hno q) _ (by omega)]
        · have e : k = aPn a := (by omega)
          rw [e, faT_all (e ▸ hp)]
      · rcases Nat.lt_or_ge k (aPn a) with q | q
        · rw [prT_none (k + 1) (aPn a) (hno q) (by omega)]
          first
          | exact get_eq
          | (exfalso; omega)
        · have e : k = aPn a := (by omega)
          subst e
          rw [hp]
          refine ⟨?_, (hR.keep (Or.inl rfl)).keep (Or.inr rfl)⟩
          rw [get_eq]
          first
          | (exfalso; exact h143 rfl)
          | (show _ = bI (decide (w = 3 ∧ x = 6)); rw [decide_eq_true (by omega)]; rfl)
          | (show _ = bI (decide (w = 3 ∧ x = 6)); rw [decide_eq_false (by omega)]; rfl)
    have h143 := (nI_eq (a := k) (b := aPn a) (by omega) (by omega)).mp h143
    refine V_iload_n (pc := 146) dX8_readBook_146 rfl rfl ?_
    refine V_bipush (pc := 147) (v := 6) dX8_readBook_147 (by decide) ?_
    refine V_icmpne (pc := 149) (tgt := 164) dX8_readBook_149 (by decide) (fun h149 => ?_) (fun h149 => ?_)
    · have h149 := mt (nI_eq (a := x) (b := 6) (by omega) (by omega)).mpr h149
      refine V_iconst (pc := 164) (v := 0) dX8_readBook_164 (by decide) ?_
      refine V_putZ (pc := 165) (ci := 8) (j := 21) dX8_readBook_165 fl_X8_113 (fun _ _ _ _ _ => rfl) rfl rfl (by decide) rfl (by first | exact Or.inl rfl | exact Or.inr rfl | assumption) ?_
      refine V_vret (pc := 168) dX8_readBook_168 rfl ?_
      unfold rbQ
      refine ⟨rfl, (hF.set (by omega)).set (by omega), ?_, ?_⟩
      · rw [get_ne (by omega), get_eq]
        rcases Nat.lt_or_ge k (aPn a) with q | q
        · rw [faT_at hp (hno q) _ (by omega)]
        · have e : k = aPn a := (by omega)
          rw [e, faT_all (e ▸ hp)]
      · rcases Nat.lt_or_ge k (aPn a) with q | q
        · rw [prT_none (k + 1) (aPn a) (hno q) (by omega)]
          first
          | exact get_eq
          | (exfalso; omega)
        · have e : k = aPn a := (by omega)
          subst e
          rw [hp]
          refine ⟨?_, (hR.keep (Or.inl rfl)).keep (Or.inr rfl)⟩
          rw [get_eq]
          first
          | (exfalso; exact h143 rfl)
          | (show _ = bI (decide (w = 3 ∧ x = 6)); rw [decide_eq_true (by omega)]; rfl)
          | (show _ = bI (decide (w = 3 ∧ x = 6)); rw [decide_eq_false (by omega)]; rfl)
    have h149 := (nI_eq (a := x) (b := 6) (by omega) (by omega)).mp h149
    refine V_aload_n (pc := 152) dX8_readBook_152 rfl rfl ?_
    refine V_getI (pc := 153) (ci := 8) (j := 22) dX8_readBook_153 fl_X8_92 (fun _ _ _ _ => rfl) (by decide) rfl ?_
    rw [show (setI μ1 65 20 (nI k)).1 65 22 = nI w from by rw [get_ne (by omega)]; exact hR.1]
    refine V_iconst (pc := 156) (v := 3) dX8_readBook_156 (by decide) ?_
    refine V_icmpne (pc := 157) (tgt := 164) dX8_readBook_157 (by decide) (fun h157 => ?_) (fun h157 => ?_)
    · have h157 := mt (nI_eq (a := w) (b := 3) (by omega) (by omega)).mpr h157
      refine V_iconst (pc := 164) (v := 0) dX8_readBook_164 (by decide) ?_
      refine V_putZ (pc := 165) (ci := 8) (j := 21) dX8_readBook_165 fl_X8_113 (fun _ _ _ _ _ => rfl) rfl rfl (by decide) rfl (by first | exact Or.inl rfl | exact Or.inr rfl | assumption) ?_
      refine V_vret (pc := 168) dX8_readBook_168 rfl ?_
      unfold rbQ
      refine ⟨rfl, (hF.set (by omega)).set (by omega), ?_, ?_⟩
      · rw [get_ne (by omega), get_eq]
        rcases Nat.lt_or_ge k (aPn a) with q | q
        · rw [faT_at hp (hno q) _ (by omega)]
        · have e : k = aPn a := (by omega)
          rw [e, faT_all (e ▸ hp)]
      · rcases Nat.lt_or_ge k (aPn a) with q | q
        · rw [prT_none (k + 1) (aPn a) (hno q) (by omega)]
          first
          | exact get_eq
          | (exfalso; omega)
        · have e : k = aPn a := (by omega)
          subst e
          rw [hp]
          refine ⟨?_, (hR.keep (Or.inl rfl)).keep (Or.inr rfl)⟩
          rw [get_eq]
          first
          | (exfalso; exact h143 rfl)
          | (show _ = bI (decide (w = 3 ∧ x = 6)); rw [decide_eq_true (by omega)]; rfl)
          | (show _ = bI (decide (w = 3 ∧ x = 6)); rw [decide_eq_false (by omega)]; rfl)
    have h157 := (nI_eq (a := w) (b := 3) (by omega) (by omega)).mp h157
    refine V_iconst (pc := 160) (v := 1) dX8_readBook_160 (by decide) ?_
    refine V_goto (pc := 161) (tgt := 165) dX8_readBook_161 (by decide) ?_
    refine V_putZ (pc := 165) (ci := 8) (j := 21) dX8_readBook_165 fl_X8_113 (fun _ _ _ _ _ => rfl) rfl rfl (by decide) rfl (by first | exact Or.inl rfl | exact Or.inr rfl | assumption) ?_
    refine V_vret (pc := 168) dX8_readBook_168 rfl ?_
    unfold rbQ
    refine ⟨rfl, (hF.set (by omega)).set (by omega), ?_, ?_⟩
    · rw [get_ne (by omega), get_eq]
      rcases Nat.lt_or_ge k (aPn a) with q | q
      · rw [faT_at hp (hno q) _ (by omega)]
      · have e : k = aPn a := (by omega)
        rw [e, faT_all (e ▸ hp)]
    · rcases Nat.lt_or_ge k (aPn a) with q | q
      · rw [prT_none (k + 1) (aPn a) (hno q) (by omega)]
        first
        | exact get_eq
        | (exfalso; omega)
      · have e : k = aPn a := (by omega)
        subst e
        rw [hp]
        refine ⟨?_, (hR.keep (Or.inl rfl)).keep (Or.inr rfl)⟩
        rw [get_eq]
        first
        | (exfalso; exact h143 rfl)
        | (show _ = bI (decide (w = 3 ∧ x = 6)); rw [decide_eq_true (by omega)]; rfl)
        | (show _ = bI (decide (w = 3 ∧ x = 6)); rw [decide_eq_false (by omega)]; rfl)
  have J69 : ∀ (μ1 : Mm) (k x w : Nat) (tn : Nat → Nat → Nat) (ow : Nat → Nat) (y4 : Value), FrR μ μ1 → RdM μ1 w tn ow → x ≤ 6 → w ≤ 3 → k < aPn a → prT (aPc a) k = some (x, w, tn, ow) → (k < aPn a → prT (aPc a) (k + 1) = none) → V l g RX8 cX8_readBook 5 none 3 69 [.ref 65, .int (nI x), .int (nI k), .int 0, y4] [] μ1 (rbQ (aPc a) (aPn a) μ) := by
    intro μ1 k x w tn ow y4 hF hR hx6 hw3 hk hp hno
    refine V_iload_n (pc := 69) dX8_readBook_69 rfl rfl ?_
    refine V_aload_n (pc := 70) dX8_readBook_70 rfl rfl ?_
    refine V_getI (pc := 71) (ci := 8) (j := 18) dX8_readBook_71 fl_X8_85 (fun _ _ _ _ => rfl) (by decide) rfl ?_
    refine V_icmpge (pc := 74) (tgt := 132) dX8_readBook_74 (by decide) (fun h74 => ?_) (fun h74 => ?_)
    · rw [hF.2.1 18 (by omega), m12.1, nI_leI (by omega) (by omega)] at h74; exact absurd h74 (by omega)
    refine V_iload_n (pc := 77) dX8_readBook_77 rfl rfl ?_
    refine V_ifeq (pc := 78) (tgt := 132) dX8_readBook_78 (by decide) (fun h78 => ?_) (fun h78 => ?_)
    · exact J132 _ _ _ _ _ _ _ _ hF hR hx6 hw3 (by omega) hp hno
    exact absurd rfl h78
  refine V_aload_n (pc := 0) dX8_readBook_0 rfl rfl ?_
  refine V_iconst (pc := 1) (v := 0) dX8_readBook_1 (by decide) ?_
  refine V_putI (pc := 2) (ci := 8) (j := 22) dX8_readBook_2 fl_X8_92 (fun _ _ _ _ _ => rfl) rfl rfl (by decide) rfl ?_
  refine V_aload_n (pc := 5) dX8_readBook_5 rfl rfl ?_
  refine V_iconst (pc := 6) (v := 0) dX8_readBook_6 (by decide) ?_
  refine V_putI (pc := 7) (ci := 8) (j := 23) dX8_readBook_7 fl_X8_95 (fun _ _ _ _ _ => rfl) rfl rfl (by decide) rfl ?_
  refine V_iconst (pc := 10) (v := 0) dX8_readBook_10 (by decide) ?_
  refine V_istore1 (pc := 11) dX8_readBook_11 (by decide) rfl ?_
  have loopA : ∀ (nA i : Nat) (μ1 : Mm), i ≤ 15 → 15 < i + nA → (FrR μ μ1) → (μ1.1 65 22 = nI 0) → (μ1.1 65 23 = nI 0) → (∀ k, k < i → μ1.1 76 k = nI (if k < 12 then 0 else 10)) → V l g RX8 cX8_readBook 5 none 3 12 [.ref 65, .int (nI i), .null, .null, .null] [] μ1 (rbQ (aPc a) (aPn a) μ) := by
    intro nA
    induction nA with
    | zero => intro i μ1 h1 h2; exact absurd h2 (by omega)
    | succ nA ihA =>
      intro i μ1 hleA hfuA hF h22 h23 h76
      refine V_iload_n (pc := 12) dX8_readBook_12 rfl rfl ?_
      refine V_bipush (pc := 13) (v := 15) dX8_readBook_13 (by decide) ?_
      refine V_icmpge (pc := 15) (tgt := 42) dX8_readBook_15 (by decide) (fun h15 => ?_) (fun h15 => ?_)
      · have h15 := (nI_leI (a := 15) (b := i) (by decide) (by omega)).mp h15; obtain rfl : i = 15 := by omega
        refine V_iconst (pc := 42) (v := 0) dX8_readBook_42 (by decide) ?_
        refine V_istore1 (pc := 43) dX8_readBook_43 (by decide) rfl ?_
        have loopB : ∀ (nB j : Nat) (μ2 : Mm), j ≤ 6 → 6 < j + nB → (FrR μ μ2) → (μ2.1 65 22 = nI 0) → (μ2.1 65 23 = nI 0) → (∀ k, k < 15 → μ2.1 76 k = nI (if k < 12 then 0 else 10)) → (∀ k, k < j → μ2.1 77 k = -1) → V l g RX8 cX8_readBook 5 none 3 44 [.ref 65, .int (nI j), .null, .null, .null] [] μ2 (rbQ (aPc a) (aPn a) μ) := by
          intro nB
          induction nB with
          | zero => intro j μ2 h1 h2; exact absurd h2 (by omega)
          | succ nB ihB =>
            intro j μ2 hleB hfuB hF2 g22 g23 g76 g77
            refine V_iload_n (pc := 44) dX8_readBook_44 rfl rfl ?_
            refine V_bipush (pc := 45) (v := 6) dX8_readBook_45 (by decide) ?_
            refine V_icmpge (pc := 47) (tgt := 63) dX8_readBook_47 (by decide) (fun h47 => ?_) (fun h47 => ?_)
            · have h47 := (nI_leI (a := 6) (b := j) (by decide) (by omega)).mp h47; obtain rfl : j = 6 := by omega
              have hR0 : RdM μ2 0 (fun w _ => if w = 4 then 10 else 0) (fun _ => 0) := ⟨g22, by omega, by rw [nmT_zero]; exact g23, fun w s hw hs => by
                rw [g76 _ (by omega)]
                show _ = nI (if w = 4 then 10 else 0)
                by_cases e : w = 4
                · rw [if_pos e, if_neg (by omega)]
                · rw [if_neg e, if_pos (by omega)], fun n hn => (g77 n hn).trans cI_0.symm, fun n hn => Nat.zero_le _, fun s hs => rfl⟩
              refine V_iconst (pc := 63) (v := 0) dX8_readBook_63 (by decide) ?_
              refine V_istore1 (pc := 64) dX8_readBook_64 (by decide) rfl ?_
              refine V_iconst (pc := 65) (v := 0) dX8_readBook_65 (by decide) ?_
              refine V_istore2 (pc := 66) dX8_readBook_66 (by decide) rfl ?_
              refine V_iconst (pc := 67) (v := 1) dX8_readBook_67 (by decide) ?_
              refine V_istore3 (pc := 68) dX8_readBook_68 (by decide) rfl ?_
              have loopC : ∀ (n k : Nat) (μ3 : Mm) (x w : Nat) (tn : Nat → Nat → Nat) (ow : Nat → Nat) (y4 : Value), k ≤ aPn a → aPn a < k + n → FrR μ μ3 → RdM μ3 w tn ow → prT (aPc a) k = some (x, w, tn, ow) → V l g RX8 cX8_readBook 5 none 3 69 [.ref 65, .int (nI x), .int (nI k), .int 1, y4] [] μ3 (rbQ (aPc a) (aPn a) μ) := by
                intro n
                induction n with
                | zero => intro k μ3 x w tn ow y4 h1 h2; exact absurd h2 (by omega)
                | succ n ihC =>
                  intro k μ3 x w tn ow y4 hk hn hF3 hR3 hp
                  have hok := prT_ok hp
                  have hx6 : x ≤ 6 := hok.1
                  have hw3 : w ≤ 3 := hok.2.1
                  have e18 : μ3.1 65 18 = nI (aPn a) := (hF3.2.1 18 (by omega)).trans m12.1
                  refine V_iload_n (pc := 69) dX8_readBook_69 rfl rfl ?_
                  refine V_aload_n (pc := 70) dX8_readBook_70 rfl rfl ?_
                  refine V_getI (pc := 71) (ci := 8) (j := 18) dX8_readBook_71 fl_X8_85 (fun _ _ _ _ => rfl) (by decide) rfl ?_
                  refine V_icmpge (pc := 74) (tgt := 132) dX8_readBook_74 (by decide) (fun h74 => ?_) (fun h74 => ?_)
                  · rw [e18, nI_leI (by omega) (by omega)] at h74; exact J132 _ _ _ _ _ _ _ _ hF3 hR3 hx6 hw3 hk hp (fun q => absurd q (by omega))
                  rw [e18, nI_leI (by omega) (by omega)] at h74; have hlt : k < aPn a := by omega
                  refine V_iload_n (pc := 77) dX8_readBook_77 rfl rfl ?_
                  refine V_ifeq (pc := 78) (tgt := 132) dX8_readBook_78 (by decide) (fun h78 => ?_) (fun h78 => ?_)
                  · exact absurd h78 (by decide)
                  refine V_aload_n (pc := 81) dX8_readBook_81 rfl rfl ?_
                  refine V_iload_n (pc := 82) dX8_readBook_82 rfl rfl ?_
                  refine V_aload_n (pc := 83) dX8_readBook_83 rfl rfl ?_
                  refine V_getR (pc := 84) (ci := 8) (j := 19) (k2 := 75) dX8_readBook_84 fl_X8_41 (fun _ _ _ _ => rfl) (by decide) rfl (rf_8_19 rfl) ?_
                  refine V_iload_n (pc := 87) dX8_readBook_87 rfl rfl ?_
                  refine V_bald (pc := 88) (j := k) dX8_readBook_88 (by decide) rfl rfl (by show k < 30; omega) ?_
                  rw [show μ3.1 75 k = nI (aPc a k) from by rw [hF3.1 75 (by omega) (by omega) (by omega)]; exact m12.2 k (by omega)]
                  have hcd := o2 k (by omega)
                  refine V_inv2 (pc := 89) (ci := 8) dX8_readBook_89 ml_X8_106 (by decide) rfl ⟨by decide, rfl⟩ (by first | decide | omega) (Nat.le_of_ble_eq_true rfl) (c_X8_nextState μ3 (show aPc a k < 127 by omega) hok hR3) ?_
                  intro r μ4 hq
                  obtain ⟨hF4, hq⟩ := hq
                  cases hst : pst (aPc a k) (x, w, tn, ow) with
                  | none =>
                    rw [hst] at hq
                    obtain ⟨rfl, hR4⟩ := hq
                    refine V_istore4 (pc := 92) dX8_readBook_92 (by decide) rfl ?_
                    refine V_iload (pc := 94) dX8_readBook_94 rfl ?_
                    refine V_iconst (pc := 96) (v := (-1)) dX8_readBook_96 (by decide) ?_
                    refine V_icmpeq (pc := 97) (tgt := 104) dX8_readBook_97 (by decide) (fun h97 => ?_) (fun h97 => ?_)
                    · refine V_iconst (pc := 104) (v := 0) dX8_readBook_104 (by decide) ?_
                      refine V_istore3 (pc := 105) dX8_readBook_105 (by decide) rfl ?_
                      refine V_iload_n (pc := 106) dX8_readBook_106 rfl rfl ?_
                      refine V_ifeq (pc := 107) (tgt := 115) dX8_readBook_107 (by decide) (fun h107 => ?_) (fun h107 => ?_)
                      · refine V_iload_n (pc := 115) dX8_readBook_115 rfl rfl ?_
                        refine V_istore1 (pc := 116) dX8_readBook_116 (by decide) rfl ?_
                        refine V_iload_n (pc := 117) dX8_readBook_117 rfl rfl ?_
                        refine V_iload_n (pc := 118) dX8_readBook_118 rfl rfl ?_
                        refine V_ifeq (pc := 119) (tgt := 126) dX8_readBook_119 (by decide) (fun h119 => ?_) (fun h119 => ?_)
                        · refine V_iconst (pc := 126) (v := 0) dX8_readBook_126 (by decide) ?_
                          refine V_iadd (pc := 127) dX8_readBook_127 ?_
                          refine V_istore2 (pc := 128) dX8_readBook_128 (by decide) rfl ?_
                          refine V_goto (pc := 129) (tgt := 69) dX8_readBook_129 (by decide) ?_
                          rw [show nI k + 0 = nI k from nI_add k 0]
                          exact J69 _ _ _ _ _ _ _ (hF3.tr hF4) hR4 hx6 hw3 hlt hp (fun _ => by rw [prT_s hp, hst])
                        exact absurd rfl h119
                      exact absurd rfl h107
                    exact absurd rfl h97
                  | some q4 =>
                    obtain ⟨x4, w4, tn4, ow4⟩ := q4
                    rw [hst] at hq
                    obtain ⟨rfl, hR4⟩ := hq
                    have hx4 : x4 ≤ 6 := (pst_ok hok hst).1
                    refine V_istore4 (pc := 92) dX8_readBook_92 (by decide) rfl ?_
                    refine V_iload (pc := 94) dX8_readBook_94 rfl ?_
                    refine V_iconst (pc := 96) (v := (-1)) dX8_readBook_96 (by decide) ?_
                    refine V_icmpeq (pc := 97) (tgt := 104) dX8_readBook_97 (by decide) (fun h97 => ?_) (fun h97 => ?_)
                    · exact absurd h97 (nI_m1ne (by omega))
                    refine V_iconst (pc := 100) (v := 1) dX8_readBook_100 (by decide) ?_
                    refine V_goto (pc := 101) (tgt := 105) dX8_readBook_101 (by decide) ?_
                    refine V_istore3 (pc := 105) dX8_readBook_105 (by decide) rfl ?_
                    refine V_iload_n (pc := 106) dX8_readBook_106 rfl rfl ?_
                    refine V_ifeq (pc := 107) (tgt := 115) dX8_readBook_107 (by decide) (fun h107 => ?_) (fun h107 => ?_)
                    · exact absurd h107 (by decide)
                    refine V_iload (pc := 110) dX8_readBook_110 rfl ?_
                    refine V_goto (pc := 112) (tgt := 116) dX8_readBook_112 (by decide) ?_
                    refine V_istore1 (pc := 116) dX8_readBook_116 (by decide) rfl ?_
                    refine V_iload_n (pc := 117) dX8_readBook_117 rfl rfl ?_
                    refine V_iload_n (pc := 118) dX8_readBook_118 rfl rfl ?_
                    refine V_ifeq (pc := 119) (tgt := 126) dX8_readBook_119 (by decide) (fun h119 => ?_) (fun h119 => ?_)
                    · exact absurd h119 (by decide)
                    refine V_iconst (pc := 122) (v := 1) dX8_readBook_122 (by decide) ?_
                    refine V_goto (pc := 123) (tgt := 127) dX8_readBook_123 (by decide) ?_
                    refine V_iadd (pc := 127) dX8_readBook_127 ?_
                    refine V_istore2 (pc := 128) dX8_readBook_128 (by decide) rfl ?_
                    refine V_goto (pc := 129) (tgt := 69) dX8_readBook_129 (by decide) ?_
                    rw [nI_1 k]
                    exact ihC (k + 1) _ _ _ _ _ _ (by omega) (by omega) (hF3.tr hF4) hR4 (by rw [prT_s hp, hst])
              exact loopC (aPn a + 1) 0 _ 0 0 _ _ _ (by omega) (by omega) hF2 hR0 rfl
            have hlt : j < 6 := nI_l3 (a := 6) (by decide) (by omega) h47
            refine V_aload_n (pc := 50) dX8_readBook_50 rfl rfl ?_
            refine V_getR (pc := 51) (ci := 8) (j := 25) (k2 := 77) dX8_readBook_51 fl_X8_48 (fun _ _ _ _ => rfl) (by decide) rfl (rf_8_25 rfl) ?_
            refine V_iload_n (pc := 54) dX8_readBook_54 rfl rfl ?_
            refine V_iconst (pc := 55) (v := (-1)) dX8_readBook_55 (by decide) ?_
            refine V_iast (pc := 56) (j := j) dX8_readBook_56 (by decide) rfl rfl (by show j < 6; omega) ?_
            refine V_iinc1 (pc := 57) (v := nI (j + 1)) dX8_readBook_57 (nI_1 j) (by decide) rfl ?_
            refine V_goto (pc := 60) (tgt := 44) dX8_readBook_60 (by decide) ?_
            refine ihB (j + 1) _ (by omega) (by omega) (hF2.set (by omega)) (by rw [get_ne (by omega)]; exact g22) (by rw [get_ne (by omega)]; exact g23) (fun k hk => by rw [get_ne (by omega)]; exact g76 k hk) (fun k hk => ?_)
            by_cases e : k = j
            · subst e
              rw [get_eq]
            · rw [get_ne (by omega)]
              exact g77 k (by omega)
        exact loopB (6 + 1) 0 _ (by omega) (by omega) hF h22 h23 h76 (fun k hk => absurd hk (Nat.not_lt_zero k))
      have hlt : i < 15 := nI_l3 (a := 15) (by decide) (by omega) h15
      refine V_aload_n (pc := 18) dX8_readBook_18 rfl rfl ?_
      refine V_getR (pc := 19) (ci := 8) (j := 24) (k2 := 76) dX8_readBook_19 fl_X8_45 (fun _ _ _ _ => rfl) (by decide) rfl (rf_8_24 rfl) ?_
      refine V_iload_n (pc := 22) dX8_readBook_22 rfl rfl ?_
      refine V_iload_n (pc := 23) dX8_readBook_23 rfl rfl ?_
      refine V_bipush (pc := 24) (v := 12) dX8_readBook_24 (by decide) ?_
      refine V_icmpge (pc := 26) (tgt := 33) dX8_readBook_26 (by decide) (fun h26 => ?_) (fun h26 => ?_)
      · rw [show (12 : Int32) = nI 12 from rfl, nI_leI (by omega) (by omega)] at h26
        refine V_bipush (pc := 33) (v := 10) dX8_readBook_33 (by decide) ?_
        refine V_iast (pc := 35) (j := i) dX8_readBook_35 (by decide) rfl rfl (by show i < 15; omega) ?_
        refine V_iinc1 (pc := 36) (v := nI (i + 1)) dX8_readBook_36 (nI_1 i) (by decide) rfl ?_
        refine V_goto (pc := 39) (tgt := 12) dX8_readBook_39 (by decide) ?_
        refine ihA (i + 1) _ (by omega) (by omega) (hF.set (by omega)) (by rw [get_ne (by omega)]; exact h22) (by rw [get_ne (by omega)]; exact h23) (fun k hk => ?_)
        by_cases e : k = i
        · subst e
          rw [get_eq]
          first
          | (rw [if_neg (by omega)]; rfl)
          | (rw [if_pos (by omega)]; rfl)
        · rw [get_ne (by omega)]
          exact h76 k (by omega)
      rw [show (12 : Int32) = nI 12 from rfl, nI_leI (by omega) (by omega)] at h26
      refine V_iconst (pc := 29) (v := 0) dX8_readBook_29 (by decide) ?_
      refine V_goto (pc := 30) (tgt := 35) dX8_readBook_30 (by decide) ?_
      refine V_iast (pc := 35) (j := i) dX8_readBook_35 (by decide) rfl rfl (by show i < 15; omega) ?_
      refine V_iinc1 (pc := 36) (v := nI (i + 1)) dX8_readBook_36 (nI_1 i) (by decide) rfl ?_
      refine V_goto (pc := 39) (tgt := 12) dX8_readBook_39 (by decide) ?_
      refine ihA (i + 1) _ (by omega) (by omega) (hF.set (by omega)) (by rw [get_ne (by omega)]; exact h22) (by rw [get_ne (by omega)]; exact h23) (fun k hk => ?_)
      by_cases e : k = i
      · subst e
        rw [get_eq]
        first
        | (rw [if_neg (by omega)]; rfl)
        | (rw [if_pos (by omega)]; rfl)
      · rw [get_ne (by omega)]
        exact h76 k (by omega)
  exact loopA (15 + 1) 0 _ (by omega) (by omega) ((FrR.rf.set (by omega)).set (by omega)) (by rw [get_ne (by omega), get_eq]; rfl) (by rw [get_eq]; rfl) (fun k hk => absurd hk (Nat.not_lt_zero k))
theorem dX8_fault_0 : decode cX8_fault 0 = .ok (.aload_n 0, 1) := by decide +kernel
theorem dX8_fault_1 : decode cX8_fault 1 = .ok (.invokevirtual 117, 3) := by decide +kernel
theorem dX8_fault_4 : decode cX8_fault 4 = .ok (.aload_n 0, 1) := by decide +kernel
theorem dX8_fault_5 : decode cX8_fault 5 = .ok (.getfield 110, 3) := by decide +kernel
theorem dX8_fault_8 : decode cX8_fault 8 = .ok (.ireturn, 1) := by decide +kernel
set_option maxHeartbeats 4000000 in
set_option maxRecDepth 100000 in
theorem c_X8_fault {l : Launch} {g : GW} {a : AT}  (μ : Mm) (hO : AOK a) (hM : RM μ a)  : Con l g yX8_fault cX8_fault 1 (some .int) 4 [.ref 65] μ (fun r μ' => r = some (.int (nI (faT (aPc a) (aPn a)))) ∧ RM μ' a ∧ FrX μ μ') := by
  obtain ⟨m1, m2, m3, m4, m5, m6, m7, m8, m9, m10, m11, m12, m13⟩ := id hM
  obtain ⟨o1, o2, o3, o4, o5, ⟨s1, s2, s3, s4⟩, oK, o8, o9, o10⟩ := id hO
  refine Con.of [.ref 65] 0 (by decide +kernel) (Nat.le_of_ble_eq_true rfl) rfl ?_
  refine V_aload_n (pc := 0) dX8_fault_0 rfl rfl ?_
  refine V_inv0 (pc := 1) (ci := 8) dX8_fault_1 ml_X8_117 (by decide) rfl ⟨by decide, rfl⟩ (by first | decide | omega) (Nat.le_of_ble_eq_true rfl) (c_X8_readBook μ hO hM) ?_
  rintro _ μ1 ⟨rfl, hF, h20, hq⟩
  refine V_aload_n (pc := 4) dX8_fault_4 rfl rfl ?_
  refine V_getI (pc := 5) (ci := 8) (j := 20) dX8_fault_5 fl_X8_110 (fun _ _ _ _ => rfl) (by decide) rfl ?_
  refine V_iret (pc := 8) dX8_fault_8 rfl ?_
  exact ⟨by rw [h20], hM.rd hF, hF.X⟩
theorem dX8_book_0 : decode cX8_book 0 = .ok (.aload_n 0, 1) := by decide +kernel
theorem dX8_book_1 : decode cX8_book 1 = .ok (.invokevirtual 117, 3) := by decide +kernel
theorem dX8_book_4 : decode cX8_book 4 = .ok (.aload_n 0, 1) := by decide +kernel
theorem dX8_book_5 : decode cX8_book 5 = .ok (.getfield 113, 3) := by decide +kernel
theorem dX8_book_8 : decode cX8_book 8 = .ok (.ifCond .ne 6, 3) := by decide +kernel
theorem dX8_book_11 : decode cX8_book 11 = .ok (.bipush (-103), 2) := by decide +kernel
theorem dX8_book_13 : decode cX8_book 13 = .ok (.ireturn, 1) := by decide +kernel
theorem dX8_book_14 : decode cX8_book 14 = .ok (.iconst 0, 1) := by decide +kernel
theorem dX8_book_15 : decode cX8_book 15 = .ok (.istore_n 1, 1) := by decide +kernel
theorem dX8_book_16 : decode cX8_book 16 = .ok (.iload_n 1, 1) := by decide +kernel
theorem dX8_book_17 : decode cX8_book 17 = .ok (.bipush 15, 2) := by decide +kernel
theorem dX8_book_19 : decode cX8_book 19 = .ok (.if_icmp .ge 21, 3) := by decide +kernel
theorem dX8_book_22 : decode cX8_book 22 = .ok (.aload_n 0, 1) := by decide +kernel
theorem dX8_book_23 : decode cX8_book 23 = .ok (.getfield 7, 3) := by decide +kernel
theorem dX8_book_26 : decode cX8_book 26 = .ok (.iload_n 1, 1) := by decide +kernel
theorem dX8_book_27 : decode cX8_book 27 = .ok (.aload_n 0, 1) := by decide +kernel
theorem dX8_book_28 : decode cX8_book 28 = .ok (.getfield 45, 3) := by decide +kernel
theorem dX8_book_31 : decode cX8_book 31 = .ok (.iload_n 1, 1) := by decide +kernel
theorem dX8_book_32 : decode cX8_book 32 = .ok (.iaload, 1) := by decide +kernel
theorem dX8_book_33 : decode cX8_book 33 = .ok (.iastore, 1) := by decide +kernel
theorem dX8_book_34 : decode cX8_book 34 = .ok (.iinc 1 1, 3) := by decide +kernel
theorem dX8_book_37 : decode cX8_book 37 = .ok (.goto (-21), 3) := by decide +kernel
theorem dX8_book_40 : decode cX8_book 40 = .ok (.iconst 0, 1) := by decide +kernel
theorem dX8_book_41 : decode cX8_book 41 = .ok (.istore_n 1, 1) := by decide +kernel
theorem dX8_book_42 : decode cX8_book 42 = .ok (.iload_n 1, 1) := by decide +kernel
theorem dX8_book_43 : decode cX8_book 43 = .ok (.bipush 6, 2) := by decide +kernel
theorem dX8_book_45 : decode cX8_book 45 = .ok (.if_icmp .ge 21, 3) := by decide +kernel
theorem dX8_book_48 : decode cX8_book 48 = .ok (.aload_n 0, 1) := by decide +kernel
theorem dX8_book_49 : decode cX8_book 49 = .ok (.getfield 13, 3) := by decide +kernel
theorem dX8_book_52 : decode cX8_book 52 = .ok (.iload_n 1, 1) := by decide +kernel
theorem dX8_book_53 : decode cX8_book 53 = .ok (.aload_n 0, 1) := by decide +kernel
theorem dX8_book_54 : decode cX8_book 54 = .ok (.getfield 48, 3) := by decide +kernel
theorem dX8_book_57 : decode cX8_book 57 = .ok (.iload_n 1, 1) := by decide +kernel
theorem dX8_book_58 : decode cX8_book 58 = .ok (.iaload, 1) := by decide +kernel
theorem dX8_book_59 : decode cX8_book 59 = .ok (.iastore, 1) := by decide +kernel
theorem dX8_book_60 : decode cX8_book 60 = .ok (.iinc 1 1, 3) := by decide +kernel
theorem dX8_book_63 : decode cX8_book 63 = .ok (.goto (-21), 3) := by decide +kernel
theorem dX8_book_66 : decode cX8_book 66 = .ok (.aload_n 0, 1) := by decide +kernel
theorem dX8_book_67 : decode cX8_book 67 = .ok (.aload_n 0, 1) := by decide +kernel
theorem dX8_book_68 : decode cX8_book 68 = .ok (.getfield 95, 3) := by decide +kernel
theorem dX8_book_71 : decode cX8_book 71 = .ok (.putfield 120, 3) := by decide +kernel
theorem dX8_book_74 : decode cX8_book 74 = .ok (.aload_n 0, 1) := by decide +kernel
theorem dX8_book_75 : decode cX8_book 75 = .ok (.iconst 1, 1) := by decide +kernel
theorem dX8_book_76 : decode cX8_book 76 = .ok (.putfield 123, 3) := by decide +kernel
theorem dX8_book_79 : decode cX8_book 79 = .ok (.aload_n 0, 1) := by decide +kernel
theorem dX8_book_80 : decode cX8_book 80 = .ok (.dup, 1) := by decide +kernel
theorem dX8_book_81 : decode cX8_book 81 = .ok (.getfield 126, 3) := by decide +kernel
theorem dX8_book_84 : decode cX8_book 84 = .ok (.iconst 1, 1) := by decide +kernel
theorem dX8_book_85 : decode cX8_book 85 = .ok (.iadd, 1) := by decide +kernel
theorem dX8_book_86 : decode cX8_book 86 = .ok (.putfield 126, 3) := by decide +kernel
theorem dX8_book_89 : decode cX8_book 89 = .ok (.aload_n 0, 1) := by decide +kernel
theorem dX8_book_90 : decode cX8_book 90 = .ok (.iconst 0, 1) := by decide +kernel
theorem dX8_book_91 : decode cX8_book 91 = .ok (.putfield 129, 3) := by decide +kernel
theorem dX8_book_94 : decode cX8_book 94 = .ok (.aload_n 0, 1) := by decide +kernel
theorem dX8_book_95 : decode cX8_book 95 = .ok (.iconst 0, 1) := by decide +kernel
theorem dX8_book_96 : decode cX8_book 96 = .ok (.putfield 132, 3) := by decide +kernel
theorem dX8_book_99 : decode cX8_book 99 = .ok (.aload_n 0, 1) := by decide +kernel
theorem dX8_book_100 : decode cX8_book 100 = .ok (.iconst 0, 1) := by decide +kernel
theorem dX8_book_101 : decode cX8_book 101 = .ok (.putfield 135, 3) := by decide +kernel
theorem dX8_book_104 : decode cX8_book 104 = .ok (.aload_n 0, 1) := by decide +kernel
theorem dX8_book_105 : decode cX8_book 105 = .ok (.iconst 0, 1) := by decide +kernel
theorem dX8_book_106 : decode cX8_book 106 = .ok (.putfield 138, 3) := by decide +kernel
theorem dX8_book_109 : decode cX8_book 109 = .ok (.aload_n 0, 1) := by decide +kernel
theorem dX8_book_110 : decode cX8_book 110 = .ok (.iconst (-1), 1) := by decide +kernel
theorem dX8_book_111 : decode cX8_book 111 = .ok (.putfield 34, 3) := by decide +kernel
theorem dX8_book_114 : decode cX8_book 114 = .ok (.aload_n 0, 1) := by decide +kernel
theorem dX8_book_115 : decode cX8_book 115 = .ok (.iconst 0, 1) := by decide +kernel
theorem dX8_book_116 : decode cX8_book 116 = .ok (.putfield 141, 3) := by decide +kernel
theorem dX8_book_119 : decode cX8_book 119 = .ok (.aload_n 0, 1) := by decide +kernel
theorem dX8_book_120 : decode cX8_book 120 = .ok (.iconst 0, 1) := by decide +kernel
theorem dX8_book_121 : decode cX8_book 121 = .ok (.putfield 85, 3) := by decide +kernel
theorem dX8_book_124 : decode cX8_book 124 = .ok (.aload_n 0, 1) := by decide +kernel
theorem dX8_book_125 : decode cX8_book 125 = .ok (.getfield 120, 3) := by decide +kernel
theorem dX8_book_128 : decode cX8_book 128 = .ok (.ireturn, 1) := by decide +kernel
set_option maxHeartbeats 4000000 in
set_option maxRecDepth 100000 in
theorem c_X8_book {l : Launch} {g : GW} {a : AT}  (μ : Mm) (hO : AOK a) (hM : RM μ a)  : Con l g yX8_book cX8_book 2 (some .int) 4 [.ref 65] μ (fun r μ' => r = some (.int (fBook a).1) ∧ RM μ' (fBook a).2 ∧ FrX μ μ') := by
  obtain ⟨m1, m2, m3, m4, m5, m6, m7, m8, m9, m10, m11, m12, m13⟩ := id hM
  obtain ⟨o1, o2, o3, o4, o5, ⟨s1, s2, s3, s4⟩, oK, o8, o9, o10⟩ := id hO
  refine Con.of [.ref 65, .null] 1 (by decide +kernel) (Nat.le_of_ble_eq_true rfl) rfl ?_
  refine V_aload_n (pc := 0) dX8_book_0 rfl rfl ?_
  refine V_inv0 (pc := 1) (ci := 8) dX8_book_1 ml_X8_117 (by decide) rfl ⟨by decide, rfl⟩ (by first | decide | omega) (Nat.le_of_ble_eq_true rfl) (c_X8_readBook μ hO hM) ?_
  rintro _ μ1 ⟨rfl, hF, h20, hq⟩
  have hM1 := hM.rd hF
  cases hp : prT (aPc a) (aPn a) with
  | none =>
    rw [hp] at hq
    have e0 : fBook a = (-103, a) := by unfold fBook; rw [hp]
    rw [e0]
    refine V_aload_n (pc := 4) dX8_book_4 rfl rfl ?_
    refine V_getI (pc := 5) (ci := 8) (j := 21) dX8_book_5 fl_X8_113 (fun _ _ _ _ => rfl) (by decide) rfl ?_
    refine V_ifne (pc := 8) (tgt := 14) dX8_book_8 (by decide) (fun h8 => ?_) (fun h8 => ?_)
    · exact absurd hq h8
    refine V_bipush (pc := 11) (v := (-103)) dX8_book_11 (by decide) ?_
    refine V_iret (pc := 13) dX8_book_13 rfl ?_
    exact ⟨rfl, hM1, hF.X⟩
  | some q =>
    obtain ⟨x, w, tn, ow⟩ := q
    rw [hp] at hq
    obtain ⟨h21, hR⟩ := hq
    have e0 : fBook a = (if w = 3 ∧ x = 6 then (nI (nmT ow 6), newA a tn ow) else (-103, a)) := by unfold fBook; rw [hp]
    rw [e0]
    clear e0
    refine V_aload_n (pc := 4) dX8_book_4 rfl rfl ?_
    refine V_getI (pc := 5) (ci := 8) (j := 21) dX8_book_5 fl_X8_113 (fun _ _ _ _ => rfl) (by decide) rfl ?_
    refine V_ifne (pc := 8) (tgt := 14) dX8_book_8 (by decide) (fun h8 => ?_) (fun h8 => ?_)
    · rw [h21] at h8; have h8 := of_decide_eq_true (bI_ne h8); rw [if_pos h8]
      refine V_iconst (pc := 14) (v := 0) dX8_book_14 (by decide) ?_
      refine V_istore1 (pc := 15) dX8_book_15 (by decide) rfl ?_
      have loopA : ∀ (nA i : Nat) (μ2 : Mm), i ≤ 15 → 15 < i + nA → (∀ k j, ¬ (k = 66 ∧ j < i) → μ2.1 k j = μ1.1 k j) → (∀ j, j < i → μ2.1 66 j = μ1.1 76 j) → (μ2.2 = μ1.2) → V l g RX8 cX8_book 2 (some .int) 4 16 [.ref 65, .int (nI i)] [] μ2 (fun r μ' => r = some (.int (nI (nmT ow 6))) ∧ RM μ' (newA a tn ow) ∧ FrX μ μ') := by
        intro nA
        induction nA with
        | zero => intro i μ2 h1 h2; exact absurd h2 (by omega)
        | succ nA ihA =>
          intro i μ2 hleA hfuA hE h66 hz
          refine V_iload_n (pc := 16) dX8_book_16 rfl rfl ?_
          refine V_bipush (pc := 17) (v := 15) dX8_book_17 (by decide) ?_
          refine V_icmpge (pc := 19) (tgt := 40) dX8_book_19 (by decide) (fun h19 => ?_) (fun h19 => ?_)
          · have h19 := (nI_leI (a := 15) (b := i) (by decide) (by omega)).mp h19; obtain rfl : i = 15 := by omega
            refine V_iconst (pc := 40) (v := 0) dX8_book_40 (by decide) ?_
            refine V_istore1 (pc := 41) dX8_book_41 (by decide) rfl ?_
            have loopB : ∀ (nB j : Nat) (μ3 : Mm), j ≤ 6 → 6 < j + nB → (∀ k m, ¬ (k = 66) → ¬ (k = 67 ∧ m < j) → μ3.1 k m = μ1.1 k m) → (∀ m, m < 15 → μ3.1 66 m = μ1.1 76 m) → (∀ m, m < j → μ3.1 67 m = μ1.1 77 m) → (μ3.2 = μ1.2) → V l g RX8 cX8_book 2 (some .int) 4 42 [.ref 65, .int (nI j)] [] μ3 (fun r μ' => r = some (.int (nI (nmT ow 6))) ∧ RM μ' (newA a tn ow) ∧ FrX μ μ') := by
              intro nB
              induction nB with
              | zero => intro j μ3 h1 h2; exact absurd h2 (by omega)
              | succ nB ihB =>
                intro j μ3 hleB hfuB gE g66 g67 gz
                refine V_iload_n (pc := 42) dX8_book_42 rfl rfl ?_
                refine V_bipush (pc := 43) (v := 6) dX8_book_43 (by decide) ?_
                refine V_icmpge (pc := 45) (tgt := 66) dX8_book_45 (by decide) (fun h45 => ?_) (fun h45 => ?_)
                · have h45 := (nI_leI (a := 6) (b := j) (by decide) (by omega)).mp h45; obtain rfl : j = 6 := by omega
                  have e23 : μ3.1 65 23 = nI (nmT ow 6) := (gE 65 23 (by omega) (by omega)).trans hR.2.2.1
                  have e1b : μ3.1 65 1 = nI (aNb a) := (gE 65 1 (by omega) (by omega)).trans hM1.2.1
                  refine V_aload_n (pc := 66) dX8_book_66 rfl rfl ?_
                  refine V_aload_n (pc := 67) dX8_book_67 rfl rfl ?_
                  refine V_getI (pc := 68) (ci := 8) (j := 23) dX8_book_68 fl_X8_95 (fun _ _ _ _ => rfl) (by decide) rfl ?_
                  refine V_putI (pc := 71) (ci := 8) (j := 2) dX8_book_71 fl_X8_120 (fun _ _ _ _ _ => rfl) rfl rfl (by decide) rfl ?_
                  refine V_aload_n (pc := 74) dX8_book_74 rfl rfl ?_
                  refine V_iconst (pc := 75) (v := 1) dX8_book_75 (by decide) ?_
                  refine V_putZ (pc := 76) (ci := 8) (j := 0) dX8_book_76 fl_X8_123 (fun _ _ _ _ _ => rfl) rfl rfl (by decide) rfl (by first | exact Or.inl rfl | exact Or.inr rfl | assumption) ?_
                  refine V_aload_n (pc := 79) dX8_book_79 rfl rfl ?_
                  refine V_dup (pc := 80) dX8_book_80 rfl ?_
                  refine V_getI (pc := 81) (ci := 8) (j := 1) dX8_book_81 fl_X8_126 (fun _ _ _ _ => rfl) (by decide) rfl ?_
                  refine V_iconst (pc := 84) (v := 1) dX8_book_84 (by decide) ?_
                  refine V_iadd (pc := 85) dX8_book_85 ?_
                  refine V_putI (pc := 86) (ci := 8) (j := 1) dX8_book_86 fl_X8_126 (fun _ _ _ _ _ => rfl) rfl rfl (by decide) rfl ?_
                  refine V_aload_n (pc := 89) dX8_book_89 rfl rfl ?_
                  refine V_iconst (pc := 90) (v := 0) dX8_book_90 (by decide) ?_
                  refine V_putI (pc := 91) (ci := 8) (j := 5) dX8_book_91 fl_X8_129 (fun _ _ _ _ _ => rfl) rfl rfl (by decide) rfl ?_
                  refine V_aload_n (pc := 94) dX8_book_94 rfl rfl ?_
                  refine V_iconst (pc := 95) (v := 0) dX8_book_95 (by decide) ?_
                  refine V_putI (pc := 96) (ci := 8) (j := 11) dX8_book_96 fl_X8_132 (fun _ _ _ _ _ => rfl) rfl rfl (by decide) rfl ?_
                  refine V_aload_n (pc := 99) dX8_book_99 rfl rfl ?_
                  refine V_iconst (pc := 100) (v := 0) dX8_book_100 (by decide) ?_
                  refine V_putI (pc := 101) (ci := 8) (j := 12) dX8_book_101 fl_X8_135 (fun _ _ _ _ _ => rfl) rfl rfl (by decide) rfl ?_
                  refine V_aload_n (pc := 104) dX8_book_104 rfl rfl ?_
                  refine V_iconst (pc := 105) (v := 0) dX8_book_105 (by decide) ?_
                  refine V_putI (pc := 106) (ci := 8) (j := 13) dX8_book_106 fl_X8_138 (fun _ _ _ _ _ => rfl) rfl rfl (by decide) rfl ?_
                  refine V_aload_n (pc := 109) dX8_book_109 rfl rfl ?_
                  refine V_iconst (pc := 110) (v := (-1)) dX8_book_110 (by decide) ?_
                  refine V_putI (pc := 111) (ci := 8) (j := 15) dX8_book_111 fl_X8_34 (fun _ _ _ _ _ => rfl) rfl rfl (by decide) rfl ?_
                  refine V_aload_n (pc := 114) dX8_book_114 rfl rfl ?_
                  refine V_iconst (pc := 115) (v := 0) dX8_book_115 (by decide) ?_
                  refine V_putI (pc := 116) (ci := 8) (j := 16) dX8_book_116 fl_X8_141 (fun _ _ _ _ _ => rfl) rfl rfl (by decide) rfl ?_
                  refine V_aload_n (pc := 119) dX8_book_119 rfl rfl ?_
                  refine V_iconst (pc := 120) (v := 0) dX8_book_120 (by decide) ?_
                  refine V_putI (pc := 121) (ci := 8) (j := 18) dX8_book_121 fl_X8_85 (fun _ _ _ _ _ => rfl) rfl rfl (by decide) rfl ?_
                  refine V_aload_n (pc := 124) dX8_book_124 rfl rfl ?_
                  refine V_getI (pc := 125) (ci := 8) (j := 2) dX8_book_125 fl_X8_120 (fun _ _ _ _ => rfl) (by decide) rfl ?_
                  refine V_iret (pc := 128) dX8_book_128 rfl ?_
                  refine ⟨congrArg (fun z => some (Value.int z)) (by simp [get_set]; exact e23), hM1.book hR (fun k h1 h2 h3 => ?_) (fun j hj => ?_) (fun k hk => by simp [get_set]; exact g66 k hk) (fun k hk => by simp [get_set]; exact g67 k hk) (by simp [get_set]) (by simp [get_set]; rw [e1b]; exact nI_1 _) (by simp [get_set]; exact e23) (by simp [get_set]) (by simp [get_set]) (by simp [get_set]) (by simp [get_set]) (by simp [get_set]) (by simp [get_set]) (by simp [get_set]), ?_⟩
                  · funext m
                    simp [get_set, h1]
                    exact gE k m h2 (fun q => h3 q.1)
                  · simp [get_set, show ¬ j = 0 by omega, show ¬ j = 1 by omega, show ¬ j = 2 by omega, show ¬ j = 5 by omega, show ¬ j = 11 by omega, show ¬ j = 12 by omega, show ¬ j = 13 by omega, show ¬ j = 15 by omega, show ¬ j = 16 by omega, show ¬ j = 18 by omega]
                    exact gE 65 j (by omega) (by omega)
                  · refine hF.X.tr (μ' := μ1) ⟨fun k hk => ?_, ?_⟩
                    · funext m
                      simp [get_set, show ¬ k = 65 by omega]
                      exact gE k m (by omega) (by omega)
                    · show μ3.2.2 = _
                      rw [gz]
                have hlt : j < 6 := nI_l3 (a := 6) (by decide) (by omega) h45
                refine V_aload_n (pc := 48) dX8_book_48 rfl rfl ?_
                refine V_getR (pc := 49) (ci := 8) (j := 4) (k2 := 67) dX8_book_49 fl_X8_13 (fun _ _ _ _ => rfl) (by decide) rfl (rf_8_4 rfl) ?_
                refine V_iload_n (pc := 52) dX8_book_52 rfl rfl ?_
                refine V_aload_n (pc := 53) dX8_book_53 rfl rfl ?_
                refine V_getR (pc := 54) (ci := 8) (j := 25) (k2 := 77) dX8_book_54 fl_X8_48 (fun _ _ _ _ => rfl) (by decide) rfl (rf_8_25 rfl) ?_
                refine V_iload_n (pc := 57) dX8_book_57 rfl rfl ?_
                refine V_iald (pc := 58) (j := j) dX8_book_58 (by decide) rfl rfl (by show j < 6; omega) ?_
                refine V_iast (pc := 59) (j := j) dX8_book_59 (by decide) rfl rfl (by show j < 6; omega) ?_
                refine V_iinc1 (pc := 60) (v := nI (j + 1)) dX8_book_60 (nI_1 j) (by decide) rfl ?_
                refine V_goto (pc := 63) (tgt := 42) dX8_book_63 (by decide) ?_
                refine ihB (j + 1) _ (by omega) (by omega) (fun k m hk hm => ?_) (fun m hm => ?_) (fun m hm => ?_) gz
                · rw [get_ne (by omega)]
                  exact gE k m hk (by omega)
                · rw [get_ne (by omega)]
                  exact g66 m hm
                · by_cases e : m = j
                  · subst e
                    rw [get_eq]
                    exact gE 77 m (by omega) (by omega)
                  · rw [get_ne (by omega)]
                    exact g67 m (by omega)
            exact loopB (6 + 1) 0 _ (by omega) (by omega) (fun k m hk _ => hE k m (fun q => hk q.1)) h66 (fun j hj => absurd hj (Nat.not_lt_zero j)) hz
          have hlt : i < 15 := nI_l3 (a := 15) (by decide) (by omega) h19
          refine V_aload_n (pc := 22) dX8_book_22 rfl rfl ?_
          refine V_getR (pc := 23) (ci := 8) (j := 3) (k2 := 66) dX8_book_23 fl_X8_7 (fun _ _ _ _ => rfl) (by decide) rfl (rf_8_3 rfl) ?_
          refine V_iload_n (pc := 26) dX8_book_26 rfl rfl ?_
          refine V_aload_n (pc := 27) dX8_book_27 rfl rfl ?_
          refine V_getR (pc := 28) (ci := 8) (j := 24) (k2 := 76) dX8_book_28 fl_X8_45 (fun _ _ _ _ => rfl) (by decide) rfl (rf_8_24 rfl) ?_
          refine V_iload_n (pc := 31) dX8_book_31 rfl rfl ?_
          refine V_iald (pc := 32) (j := i) dX8_book_32 (by decide) rfl rfl (by show i < 15; omega) ?_
          refine V_iast (pc := 33) (j := i) dX8_book_33 (by decide) rfl rfl (by show i < 15; omega) ?_
          refine V_iinc1 (pc := 34) (v := nI (i + 1)) dX8_book_34 (nI_1 i) (by decide) rfl ?_
          refine V_goto (pc := 37) (tgt := 16) dX8_book_37 (by decide) ?_
          refine ihA (i + 1) _ (by omega) (by omega) (fun k j hk => ?_) (fun j hj => ?_) hz
          · rw [get_ne (by omega)]
            exact hE k j (by omega)
          · by_cases e : j = i
            · subst e
              rw [get_eq]
              exact hE 76 j (by omega)
            · rw [get_ne (by omega)]
              exact h66 j (by omega)
      exact loopA (15 + 1) 0 _ (by omega) (by omega) (fun _ _ _ => rfl) (fun j hj => absurd hj (Nat.not_lt_zero j)) rfl
    rw [h21] at h8; have h8 : ¬ (w = 3 ∧ x = 6) := of_decide_eq_false (bI_e h8); rw [if_neg h8]
    refine V_bipush (pc := 11) (v := (-103)) dX8_book_11 (by decide) ?_
    refine V_iret (pc := 13) dX8_book_13 rfl ?_
    exact ⟨rfl, hM1, hF.X⟩
