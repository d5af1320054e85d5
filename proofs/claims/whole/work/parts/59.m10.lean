theorem dX8_draw_0 : decode cX8_draw 0 = .ok (.aload_n 0, 1) := by decide +kernel
theorem dX8_draw_1 : decode cX8_draw 1 = .ok (.ldc2_w 249, 3) := by decide +kernel
theorem dX8_draw_4 : decode cX8_draw 4 = .ok (.aload_n 0, 1) := by decide +kernel
theorem dX8_draw_5 : decode cX8_draw 5 = .ok (.getfield 251, 3) := by decide +kernel
theorem dX8_draw_8 : decode cX8_draw 8 = .ok (.lmul, 1) := by decide +kernel
theorem dX8_draw_9 : decode cX8_draw 9 = .ok (.ldc2_w 255, 3) := by decide +kernel
theorem dX8_draw_12 : decode cX8_draw 12 = .ok (.ladd, 1) := by decide +kernel
theorem dX8_draw_13 : decode cX8_draw 13 = .ok (.ldc2_w 257, 3) := by decide +kernel
theorem dX8_draw_16 : decode cX8_draw 16 = .ok (.land, 1) := by decide +kernel
theorem dX8_draw_17 : decode cX8_draw 17 = .ok (.putfield 251, 3) := by decide +kernel
theorem dX8_draw_20 : decode cX8_draw 20 = .ok (.aload_n 0, 1) := by decide +kernel
theorem dX8_draw_21 : decode cX8_draw 21 = .ok (.getfield 251, 3) := by decide +kernel
theorem dX8_draw_24 : decode cX8_draw 24 = .ok (.ldc2_w 259, 3) := by decide +kernel
theorem dX8_draw_27 : decode cX8_draw 27 = .ok (.ldiv, 1) := by decide +kernel
theorem dX8_draw_28 : decode cX8_draw 28 = .ok (.iload_n 1, 1) := by decide +kernel
theorem dX8_draw_29 : decode cX8_draw 29 = .ok (.i2l, 1) := by decide +kernel
theorem dX8_draw_30 : decode cX8_draw 30 = .ok (.lrem, 1) := by decide +kernel
theorem dX8_draw_31 : decode cX8_draw 31 = .ok (.l2i, 1) := by decide +kernel
theorem dX8_draw_32 : decode cX8_draw 32 = .ok (.ireturn, 1) := by decide +kernel
set_option maxHeartbeats 4000000 in
set_option maxRecDepth 100000 in
theorem c_X8_draw {l : Launch} {g : GW} {d x : Nat} (μ : Mm) (hd : 0 < d) (hd2 : d < 2 ^ 31) (hx : x < 2 ^ 31) (h30 : μ.2.1 65 30 = lN x) : Con l g yX8_draw cX8_draw 2 (some .int) 0 [.ref 65, .int (nI d)] μ (fun r μ' => r = some (.int (nI (nxS x / 65536 % d))) ∧ μ' = setL μ 65 30 (lN (nxS x))) := by
  have hx1 := nxS_lt x
  refine Con.of [.ref 65, .int (nI d)] 0 (by decide +kernel) (Nat.le_of_ble_eq_true rfl) rfl ?_
  refine V_aload_n (pc := 0) dX8_draw_0 rfl rfl ?_
  refine V_ldc2 (pc := 1) (v := 1103515245) ct_X8_249 dX8_draw_1 ?_
  refine V_aload_n (pc := 4) dX8_draw_4 rfl rfl ?_
  refine V_getL (pc := 5) (ci := 8) (j := 30) dX8_draw_5 fl_X8_251 (fun _ _ _ _ => rfl) (by decide) rfl ?_
  rw [h30]
  refine V_lmul (pc := 8) dX8_draw_8 ?_
  refine V_ldc2 (pc := 9) (v := 12345) ct_X8_255 dX8_draw_9 ?_
  refine V_ladd (pc := 12) dX8_draw_12 ?_
  refine V_ldc2 (pc := 13) (v := 2147483647) ct_X8_257 dX8_draw_13 ?_
  refine V_land (pc := 16) dX8_draw_16 ?_
  rw [nxS_eq hx]
  refine V_putL (pc := 17) (ci := 8) (j := 30) dX8_draw_17 fl_X8_251 (fun _ _ _ _ _ => rfl) rfl rfl (by decide) rfl ?_
  refine V_aload_n (pc := 20) dX8_draw_20 rfl rfl ?_
  refine V_getL (pc := 21) (ci := 8) (j := 30) dX8_draw_21 fl_X8_251 (fun _ _ _ _ => rfl) (by decide) rfl ?_
  rw [getl_eq]
  refine V_ldc2 (pc := 24) (v := 65536) ct_X8_259 dX8_draw_24 ?_
  refine V_ldiv (pc := 27) dX8_draw_27 (by decide) ?_
  refine V_iload_n (pc := 28) dX8_draw_28 rfl rfl ?_
  refine V_i2l (pc := 29) dX8_draw_29 ?_
  refine V_lrem (pc := 30) dX8_draw_30 (fun q => by rw [nI_l hd2] at q; exact absurd ((pk_lEQ (a := d) (b := 0) (by omega) (by decide)).mp q) (by omega)) ?_
  refine V_l2i (pc := 31) dX8_draw_31 ?_
  refine V_iret (pc := 32) dX8_draw_32 rfl ?_
  exact ⟨congrArg (fun z => some (Value.int z)) (lrem_i hx1 hd hd2), rfl⟩
theorem dX8_drawnWind_0 : decode cX8_drawnWind 0 = .ok (.aload_n 0, 1) := by decide +kernel
theorem dX8_drawnWind_1 : decode cX8_drawnWind 1 = .ok (.bipush 10, 2) := by decide +kernel
theorem dX8_drawnWind_3 : decode cX8_drawnWind 3 = .ok (.invokevirtual 261, 3) := by decide +kernel
theorem dX8_drawnWind_6 : decode cX8_drawnWind 6 = .ok (.istore_n 2, 1) := by decide +kernel
theorem dX8_drawnWind_7 : decode cX8_drawnWind 7 = .ok (.iconst 0, 1) := by decide +kernel
theorem dX8_drawnWind_8 : decode cX8_drawnWind 8 = .ok (.istore_n 3, 1) := by decide +kernel
theorem dX8_drawnWind_9 : decode cX8_drawnWind 9 = .ok (.iload_n 3, 1) := by decide +kernel
theorem dX8_drawnWind_10 : decode cX8_drawnWind 10 = .ok (.iconst 4, 1) := by decide +kernel
theorem dX8_drawnWind_11 : decode cX8_drawnWind 11 = .ok (.if_icmp .ge 38, 3) := by decide +kernel
theorem dX8_drawnWind_14 : decode cX8_drawnWind 14 = .ok (.iload_n 2, 1) := by decide +kernel
theorem dX8_drawnWind_15 : decode cX8_drawnWind 15 = .ok (.aload_n 0, 1) := by decide +kernel
theorem dX8_drawnWind_16 : decode cX8_drawnWind 16 = .ok (.getfield 7, 3) := by decide +kernel
theorem dX8_drawnWind_19 : decode cX8_drawnWind 19 = .ok (.iconst 3, 1) := by decide +kernel
theorem dX8_drawnWind_20 : decode cX8_drawnWind 20 = .ok (.iload_n 3, 1) := by decide +kernel
theorem dX8_drawnWind_21 : decode cX8_drawnWind 21 = .ok (.imul, 1) := by decide +kernel
theorem dX8_drawnWind_22 : decode cX8_drawnWind 22 = .ok (.iload_n 1, 1) := by decide +kernel
theorem dX8_drawnWind_23 : decode cX8_drawnWind 23 = .ok (.iadd, 1) := by decide +kernel
theorem dX8_drawnWind_24 : decode cX8_drawnWind 24 = .ok (.iaload, 1) := by decide +kernel
theorem dX8_drawnWind_25 : decode cX8_drawnWind 25 = .ok (.if_icmp .ge 5, 3) := by decide +kernel
theorem dX8_drawnWind_28 : decode cX8_drawnWind 28 = .ok (.iload_n 3, 1) := by decide +kernel
theorem dX8_drawnWind_29 : decode cX8_drawnWind 29 = .ok (.ireturn, 1) := by decide +kernel
theorem dX8_drawnWind_30 : decode cX8_drawnWind 30 = .ok (.iload_n 2, 1) := by decide +kernel
theorem dX8_drawnWind_31 : decode cX8_drawnWind 31 = .ok (.aload_n 0, 1) := by decide +kernel
theorem dX8_drawnWind_32 : decode cX8_drawnWind 32 = .ok (.getfield 7, 3) := by decide +kernel
theorem dX8_drawnWind_35 : decode cX8_drawnWind 35 = .ok (.iconst 3, 1) := by decide +kernel
theorem dX8_drawnWind_36 : decode cX8_drawnWind 36 = .ok (.iload_n 3, 1) := by decide +kernel
theorem dX8_drawnWind_37 : decode cX8_drawnWind 37 = .ok (.imul, 1) := by decide +kernel
theorem dX8_drawnWind_38 : decode cX8_drawnWind 38 = .ok (.iload_n 1, 1) := by decide +kernel
theorem dX8_drawnWind_39 : decode cX8_drawnWind 39 = .ok (.iadd, 1) := by decide +kernel
theorem dX8_drawnWind_40 : decode cX8_drawnWind 40 = .ok (.iaload, 1) := by decide +kernel
theorem dX8_drawnWind_41 : decode cX8_drawnWind 41 = .ok (.isub, 1) := by decide +kernel
theorem dX8_drawnWind_42 : decode cX8_drawnWind 42 = .ok (.istore_n 2, 1) := by decide +kernel
theorem dX8_drawnWind_43 : decode cX8_drawnWind 43 = .ok (.iinc 3 1, 3) := by decide +kernel
theorem dX8_drawnWind_46 : decode cX8_drawnWind 46 = .ok (.goto (-37), 3) := by decide +kernel
theorem dX8_drawnWind_49 : decode cX8_drawnWind 49 = .ok (.iconst 4, 1) := by decide +kernel
theorem dX8_drawnWind_50 : decode cX8_drawnWind 50 = .ok (.ireturn, 1) := by decide +kernel
set_option maxHeartbeats 4000000 in
set_option maxRecDepth 100000 in
theorem c_X8_drawnWind {l : Launch} {g : GW} {a : AT} {s x : Nat} (μ : Mm) (hO : AOK a) (hM : RM μ a) (hnb : 0 < aNb a) (hs : s < 3) (hx : x < 2 ^ 31) (h30 : μ.2.1 65 30 = lN x) : Con l g yX8_drawnWind cX8_drawnWind 4 (some .int) 1 [.ref 65, .int (nI s)] μ (fun r μ' => r = some (.int (nI (widT (aTn a) s (nxS x / 65536 % 10)))) ∧ μ' = setL μ 65 30 (lN (nxS x))) := by
  obtain ⟨m1, m2, m3, m4, m5, m6, m7, m8, m9, m10, m11, m12, m13⟩ := id hM
  obtain ⟨o1, o2, o3, o4, o5, ⟨s1, s2, s3, s4⟩, oK, o8, o9, o10⟩ := id hO
  have hB := m4 hnb
  have hx1 := nxS_lt x
  refine Con.of [.ref 65, .int (nI s), .null, .null] 2 (by decide +kernel) (Nat.le_of_ble_eq_true rfl) rfl ?_
  refine V_aload_n (pc := 0) dX8_drawnWind_0 rfl rfl ?_
  refine V_bipush (pc := 1) (v := 10) dX8_drawnWind_1 (by decide) ?_
  refine V_inv1 (pc := 3) (ci := 8) dX8_drawnWind_3 ml_X8_261 (by decide) rfl ⟨by decide, rfl⟩ (by first | decide | omega) (Nat.le_of_ble_eq_true rfl) (c_X8_draw (d := 10) μ (by decide) (by decide) hx h30) ?_
  rintro _ _ ⟨rfl, rfl⟩
  have hX : nxS x / 65536 % 10 < 10 := Nat.mod_lt _ (by decide)
  generalize nxS x / 65536 % 10 = X at hX ⊢
  refine V_istore2 (pc := 6) dX8_drawnWind_6 (by decide) rfl ?_
  refine V_iconst (pc := 7) (v := 0) dX8_drawnWind_7 (by decide) ?_
  refine V_istore3 (pc := 8) dX8_drawnWind_8 (by decide) rfl ?_
  have loopA : ∀ (nA w : Nat) (u : Int32), w ≤ 4 → 4 < w + nA → (pfT (aTn a) s w ≤ X) → (u = nI (X - pfT (aTn a) s w)) → (∀ j, 1 ≤ j → j ≤ w → ¬ X < pfT (aTn a) s j) → V l g RX8 cX8_drawnWind 4 (some .int) 1 9 [.ref 65, .int (nI s), .int u, .int (nI w)] [] (setL μ 65 30 (lN (nxS x))) (fun r μ' => r = some (.int (nI (widT (aTn a) s X))) ∧ μ' = setL μ 65 30 (lN (nxS x))) := by
    intro nA
    induction nA with
    | zero => intro w u h1 h2; exact absurd h2 (by omega)
    | succ nA ihA =>
      intro w u hleA hfuA hle hu hno
      refine V_iload_n (pc := 9) dX8_drawnWind_9 rfl rfl ?_
      refine V_iconst (pc := 10) (v := 4) dX8_drawnWind_10 (by decide) ?_
      refine V_icmpge (pc := 11) (tgt := 49) dX8_drawnWind_11 (by decide) (fun h11 => ?_) (fun h11 => ?_)
      · have h11 := (nI_leI (a := 4) (b := w) (by decide) (by omega)).mp h11; obtain rfl : w = 4 := by omega
        refine V_iconst (pc := 49) (v := 4) dX8_drawnWind_49 (by decide) ?_
        refine V_iret (pc := 50) dX8_drawnWind_50 rfl ?_
        exact ⟨by rw [widT_no hno]; rfl, rfl⟩
      have hlt : w < 4 := nI_l3 (a := 4) (by decide) (by omega) h11
      refine V_iload_n (pc := 14) dX8_drawnWind_14 rfl rfl ?_
      refine V_aload_n (pc := 15) dX8_drawnWind_15 rfl rfl ?_
      refine V_getR (pc := 16) (ci := 8) (j := 3) (k2 := 66) dX8_drawnWind_16 fl_X8_7 (fun _ _ _ _ => rfl) (by decide) rfl (rf_8_3 rfl) ?_
      refine V_iconst (pc := 19) (v := 3) dX8_drawnWind_19 (by decide) ?_
      refine V_iload_n (pc := 20) dX8_drawnWind_20 rfl rfl ?_
      refine V_imul (pc := 21) dX8_drawnWind_21 ?_
      refine V_iload_n (pc := 22) dX8_drawnWind_22 rfl rfl ?_
      refine V_iadd (pc := 23) dX8_drawnWind_23 ?_
      refine V_iald (pc := 24) (j := (3 * w + s)) dX8_drawnWind_24 (by decide) rfl (by rw [show (3 : Int32) = nI 3 from rfl, pk_mul, nI_add]) (by show 3 * w + s < 15; omega) ?_
      have htl := o4.le (w := w) (s := s) (by omega) hs
      have epf : pfT (aTn a) s (w + 1) = pfT (aTn a) s w + aTn a w s := rfl
      rw [show (setL μ 65 30 (lN (nxS x))).1 66 (3 * w + s) = nI (aTn a w s) from hB.1 w s (by omega) hs]
      rw [hu]
      refine V_icmpge (pc := 25) (tgt := 30) dX8_drawnWind_25 (by decide) (fun h25 => ?_) (fun h25 => ?_)
      · have h25 := (nI_leI (a := aTn a w s) (b := X - pfT (aTn a) s w) (by omega) (by omega)).mp h25
        refine V_iload_n (pc := 30) dX8_drawnWind_30 rfl rfl ?_
        refine V_aload_n (pc := 31) dX8_drawnWind_31 rfl rfl ?_
        refine V_getR (pc := 32) (ci := 8) (j := 3) (k2 := 66) dX8_drawnWind_32 fl_X8_7 (fun _ _ _ _ => rfl) (by decide) rfl (rf_8_3 rfl) ?_
        refine V_iconst (pc := 35) (v := 3) dX8_drawnWind_35 (by decide) ?_
        refine V_iload_n (pc := 36) dX8_drawnWind_36 rfl rfl ?_
        refine V_imul (pc := 37) dX8_drawnWind_37 ?_
        refine V_iload_n (pc := 38) dX8_drawnWind_38 rfl rfl ?_
        refine V_iadd (pc := 39) dX8_drawnWind_39 ?_
        refine V_iald (pc := 40) (j := (3 * w + s)) dX8_drawnWind_40 (by decide) rfl (by rw [show (3 : Int32) = nI 3 from rfl, pk_mul, nI_add]) (by show 3 * w + s < 15; omega) ?_
        rw [show (setL μ 65 30 (lN (nxS x))).1 66 (3 * w + s) = nI (aTn a w s) from hB.1 w s (by omega) hs]
        refine V_isub (pc := 41) dX8_drawnWind_41 ?_
        refine V_istore2 (pc := 42) dX8_drawnWind_42 (by decide) rfl ?_
        refine V_iinc3 (pc := 43) (v := nI (w + 1)) dX8_drawnWind_43 (nI_1 w) (by decide) rfl ?_
        refine V_goto (pc := 46) (tgt := 9) dX8_drawnWind_46 (by decide) ?_
        exact ihA (w + 1) _ (by omega) (by omega) (by omega) (by rw [pk_sub (by omega), epf, Nat.sub_sub]) (widT_ex hno (by omega))
      have h25 := mt (nI_leI (a := aTn a w s) (b := X - pfT (aTn a) s w) (by omega) (by omega)).mpr h25
      refine V_iload_n (pc := 28) dX8_drawnWind_28 rfl rfl ?_
      refine V_iret (pc := 29) dX8_drawnWind_29 rfl ?_
      exact ⟨by rw [widT_at hlt hno (by omega)], rfl⟩
  exact loopA (4 + 1) 0 _ (by omega) (by omega) (Nat.zero_le _) rfl (fun j h1 h2 => absurd h1 (by omega))
theorem dX8_goYearDay_0 : decode cX8_goYearDay 0 = .ok (.aload_n 0, 1) := by decide +kernel
theorem dX8_goYearDay_1 : decode cX8_goYearDay 1 = .ok (.iconst 3, 1) := by decide +kernel
theorem dX8_goYearDay_2 : decode cX8_goYearDay 2 = .ok (.invokevirtual 261, 3) := by decide +kernel
theorem dX8_goYearDay_5 : decode cX8_goYearDay 5 = .ok (.istore_n 1, 1) := by decide +kernel
theorem dX8_goYearDay_6 : decode cX8_goYearDay 6 = .ok (.iconst 0, 1) := by decide +kernel
theorem dX8_goYearDay_7 : decode cX8_goYearDay 7 = .ok (.istore_n 2, 1) := by decide +kernel
theorem dX8_goYearDay_8 : decode cX8_goYearDay 8 = .ok (.iload_n 2, 1) := by decide +kernel
theorem dX8_goYearDay_9 : decode cX8_goYearDay 9 = .ok (.aload_n 0, 1) := by decide +kernel
theorem dX8_goYearDay_10 : decode cX8_goYearDay 10 = .ok (.getfield 129, 3) := by decide +kernel
theorem dX8_goYearDay_13 : decode cX8_goYearDay 13 = .ok (.if_icmp .ge 83, 3) := by decide +kernel
theorem dX8_goYearDay_16 : decode cX8_goYearDay 16 = .ok (.aload_n 0, 1) := by decide +kernel
theorem dX8_goYearDay_17 : decode cX8_goYearDay 17 = .ok (.getfield 19, 3) := by decide +kernel
theorem dX8_goYearDay_20 : decode cX8_goYearDay 20 = .ok (.iload_n 2, 1) := by decide +kernel
theorem dX8_goYearDay_21 : decode cX8_goYearDay 21 = .ok (.iaload, 1) := by decide +kernel
theorem dX8_goYearDay_22 : decode cX8_goYearDay 22 = .ok (.bipush 9, 2) := by decide +kernel
theorem dX8_goYearDay_24 : decode cX8_goYearDay 24 = .ok (.if_icmp .ne 8, 3) := by decide +kernel
theorem dX8_goYearDay_27 : decode cX8_goYearDay 27 = .ok (.bipush 6, 2) := by decide +kernel
theorem dX8_goYearDay_29 : decode cX8_goYearDay 29 = .ok (.goto 9, 3) := by decide +kernel
theorem dX8_goYearDay_32 : decode cX8_goYearDay 32 = .ok (.aload_n 0, 1) := by decide +kernel
theorem dX8_goYearDay_33 : decode cX8_goYearDay 33 = .ok (.bipush 7, 2) := by decide +kernel
theorem dX8_goYearDay_35 : decode cX8_goYearDay 35 = .ok (.invokevirtual 261, 3) := by decide +kernel
theorem dX8_goYearDay_38 : decode cX8_goYearDay 38 = .ok (.istore_n 3, 1) := by decide +kernel
theorem dX8_goYearDay_39 : decode cX8_goYearDay 39 = .ok (.aload_n 0, 1) := by decide +kernel
theorem dX8_goYearDay_40 : decode cX8_goYearDay 40 = .ok (.getfield 68, 3) := by decide +kernel
theorem dX8_goYearDay_43 : decode cX8_goYearDay 43 = .ok (.iload_n 2, 1) := by decide +kernel
theorem dX8_goYearDay_44 : decode cX8_goYearDay 44 = .ok (.iload_n 3, 1) := by decide +kernel
theorem dX8_goYearDay_45 : decode cX8_goYearDay 45 = .ok (.bipush 6, 2) := by decide +kernel
theorem dX8_goYearDay_47 : decode cX8_goYearDay 47 = .ok (.if_icmp .eq 14, 3) := by decide +kernel
theorem dX8_goYearDay_50 : decode cX8_goYearDay 50 = .ok (.aload_n 0, 1) := by decide +kernel
theorem dX8_goYearDay_51 : decode cX8_goYearDay 51 = .ok (.getfield 132, 3) := by decide +kernel
theorem dX8_goYearDay_54 : decode cX8_goYearDay 54 = .ok (.iload_n 3, 1) := by decide +kernel
theorem dX8_goYearDay_55 : decode cX8_goYearDay 55 = .ok (.invokestatic 156, 3) := by decide +kernel
theorem dX8_goYearDay_58 : decode cX8_goYearDay 58 = .ok (.ifCond .eq 7, 3) := by decide +kernel
theorem dX8_goYearDay_61 : decode cX8_goYearDay 61 = .ok (.iconst (-1), 1) := by decide +kernel
theorem dX8_goYearDay_62 : decode cX8_goYearDay 62 = .ok (.goto 4, 3) := by decide +kernel
theorem dX8_goYearDay_65 : decode cX8_goYearDay 65 = .ok (.iload_n 3, 1) := by decide +kernel
theorem dX8_goYearDay_66 : decode cX8_goYearDay 66 = .ok (.iastore, 1) := by decide +kernel
theorem dX8_goYearDay_67 : decode cX8_goYearDay 67 = .ok (.aload_n 0, 1) := by decide +kernel
theorem dX8_goYearDay_68 : decode cX8_goYearDay 68 = .ok (.aload_n 0, 1) := by decide +kernel
theorem dX8_goYearDay_69 : decode cX8_goYearDay 69 = .ok (.getfield 16, 3) := by decide +kernel
theorem dX8_goYearDay_72 : decode cX8_goYearDay 72 = .ok (.iload_n 2, 1) := by decide +kernel
theorem dX8_goYearDay_73 : decode cX8_goYearDay 73 = .ok (.iaload, 1) := by decide +kernel
theorem dX8_goYearDay_74 : decode cX8_goYearDay 74 = .ok (.aload_n 0, 1) := by decide +kernel
theorem dX8_goYearDay_75 : decode cX8_goYearDay 75 = .ok (.getfield 132, 3) := by decide +kernel
theorem dX8_goYearDay_78 : decode cX8_goYearDay 78 = .ok (.aload_n 0, 1) := by decide +kernel
theorem dX8_goYearDay_79 : decode cX8_goYearDay 79 = .ok (.getfield 68, 3) := by decide +kernel
theorem dX8_goYearDay_82 : decode cX8_goYearDay 82 = .ok (.iload_n 2, 1) := by decide +kernel
theorem dX8_goYearDay_83 : decode cX8_goYearDay 83 = .ok (.iaload, 1) := by decide +kernel
theorem dX8_goYearDay_84 : decode cX8_goYearDay 84 = .ok (.invokestatic 178, 3) := by decide +kernel
theorem dX8_goYearDay_87 : decode cX8_goYearDay 87 = .ok (.putfield 132, 3) := by decide +kernel
theorem dX8_goYearDay_90 : decode cX8_goYearDay 90 = .ok (.iinc 2 1, 3) := by decide +kernel
theorem dX8_goYearDay_93 : decode cX8_goYearDay 93 = .ok (.goto (-85), 3) := by decide +kernel
theorem dX8_goYearDay_96 : decode cX8_goYearDay 96 = .ok (.aload_n 0, 1) := by decide +kernel
theorem dX8_goYearDay_97 : decode cX8_goYearDay 97 = .ok (.iload_n 1, 1) := by decide +kernel
theorem dX8_goYearDay_98 : decode cX8_goYearDay 98 = .ok (.invokevirtual 264, 3) := by decide +kernel
theorem dX8_goYearDay_101 : decode cX8_goYearDay 101 = .ok (.istore_n 2, 1) := by decide +kernel
theorem dX8_goYearDay_102 : decode cX8_goYearDay 102 = .ok (.iconst 0, 1) := by decide +kernel
theorem dX8_goYearDay_103 : decode cX8_goYearDay 103 = .ok (.istore_n 3, 1) := by decide +kernel
theorem dX8_goYearDay_104 : decode cX8_goYearDay 104 = .ok (.iload_n 3, 1) := by decide +kernel
theorem dX8_goYearDay_105 : decode cX8_goYearDay 105 = .ok (.aload_n 0, 1) := by decide +kernel
theorem dX8_goYearDay_106 : decode cX8_goYearDay 106 = .ok (.getfield 129, 3) := by decide +kernel
theorem dX8_goYearDay_109 : decode cX8_goYearDay 109 = .ok (.if_icmp .ge 38, 3) := by decide +kernel
theorem dX8_goYearDay_112 : decode cX8_goYearDay 112 = .ok (.aload_n 0, 1) := by decide +kernel
theorem dX8_goYearDay_113 : decode cX8_goYearDay 113 = .ok (.getfield 19, 3) := by decide +kernel
theorem dX8_goYearDay_116 : decode cX8_goYearDay 116 = .ok (.iload_n 3, 1) := by decide +kernel
theorem dX8_goYearDay_117 : decode cX8_goYearDay 117 = .ok (.aload_n 0, 1) := by decide +kernel
theorem dX8_goYearDay_118 : decode cX8_goYearDay 118 = .ok (.aload_n 0, 1) := by decide +kernel
theorem dX8_goYearDay_119 : decode cX8_goYearDay 119 = .ok (.getfield 16, 3) := by decide +kernel
theorem dX8_goYearDay_122 : decode cX8_goYearDay 122 = .ok (.iload_n 3, 1) := by decide +kernel
theorem dX8_goYearDay_123 : decode cX8_goYearDay 123 = .ok (.iaload, 1) := by decide +kernel
theorem dX8_goYearDay_124 : decode cX8_goYearDay 124 = .ok (.aload_n 0, 1) := by decide +kernel
theorem dX8_goYearDay_125 : decode cX8_goYearDay 125 = .ok (.getfield 19, 3) := by decide +kernel
theorem dX8_goYearDay_128 : decode cX8_goYearDay 128 = .ok (.iload_n 3, 1) := by decide +kernel
theorem dX8_goYearDay_129 : decode cX8_goYearDay 129 = .ok (.iaload, 1) := by decide +kernel
theorem dX8_goYearDay_130 : decode cX8_goYearDay 130 = .ok (.iload_n 2, 1) := by decide +kernel
theorem dX8_goYearDay_131 : decode cX8_goYearDay 131 = .ok (.aload_n 0, 1) := by decide +kernel
theorem dX8_goYearDay_132 : decode cX8_goYearDay 132 = .ok (.getfield 68, 3) := by decide +kernel
theorem dX8_goYearDay_135 : decode cX8_goYearDay 135 = .ok (.iload_n 3, 1) := by decide +kernel
theorem dX8_goYearDay_136 : decode cX8_goYearDay 136 = .ok (.iaload, 1) := by decide +kernel
theorem dX8_goYearDay_137 : decode cX8_goYearDay 137 = .ok (.invokevirtual 166, 3) := by decide +kernel
theorem dX8_goYearDay_140 : decode cX8_goYearDay 140 = .ok (.iastore, 1) := by decide +kernel
theorem dX8_goYearDay_141 : decode cX8_goYearDay 141 = .ok (.iinc 3 1, 3) := by decide +kernel
theorem dX8_goYearDay_144 : decode cX8_goYearDay 144 = .ok (.goto (-40), 3) := by decide +kernel
theorem dX8_goYearDay_147 : decode cX8_goYearDay 147 = .ok (.return_, 1) := by decide +kernel
set_option maxHeartbeats 4000000 in
set_option maxRecDepth 100000 in
theorem c_X8_goYearDay {l : Launch} {g : GW} {μ0 : Mm} {a : AT} {σ : SeaT} {x : Nat} (μ : Mm) (hO : AOK a) (hM0 : RM μ0 a) (hnb : 0 < aNb a) (hY : YM μ0 μ a σ x) : Con l g yX8_goYearDay cX8_goYearDay 4 none 2 [.ref 65] μ (fun r μ' => r = none ∧ YM μ0 μ' a (yrD (aTn a) (aOw a) σ x).1 (yrD (aTn a) (aOw a) σ x).2) := by
  obtain ⟨m1, m2, m3, m4, m5, m6, m7, m8, m9, m10, m11, m12, m13⟩ := id hM0
  obtain ⟨o1, o2, o3, o4, o5, ⟨s1, s2, s3, s4⟩, oK, o8, o9, o10⟩ := id hO
  obtain ⟨y1, y2, y3, y4, y5, y6, y7, y8, y9, y10⟩ := id hY
  have hx1 := nxS_lt x
  have hyf := yrS_f (σ := σ) (x := nxS x) hx1 y8
  refine Con.of [.ref 65, .null, .null, .null] 3 (by decide +kernel) (Nat.le_of_ble_eq_true rfl) rfl ?_
  refine V_aload_n (pc := 0) dX8_goYearDay_0 rfl rfl ?_
  refine V_iconst (pc := 1) (v := 3) dX8_goYearDay_1 (by decide) ?_
  refine V_inv1 (pc := 2) (ci := 8) dX8_goYearDay_2 ml_X8_261 (by decide) rfl ⟨by decide, rfl⟩ (by first | decide | omega) (Nat.le_of_ble_eq_true rfl) (c_X8_draw (d := 3) μ (by decide) (by decide) y5 y4) ?_
  rintro _ _ ⟨rfl, rfl⟩
  refine V_istore1 (pc := 5) dX8_goYearDay_5 (by decide) rfl ?_
  have hW1 : nxS x / 65536 % 3 < 3 := Nat.mod_lt _ (by decide)
  refine V_iconst (pc := 6) (v := 0) dX8_goYearDay_6 (by decide) ?_
  refine V_istore2 (pc := 7) dX8_goYearDay_7 (by decide) rfl ?_
  have loopA : ∀ (nA i : Nat) (μ1 : Mm) (yy : Value), i ≤ sN (aS a) → sN (aS a) < i + nA → (FrY μ0 μ1) → (μ1.1 65 11 = nI (sS (yrS σ (nxS x) i).1)) → (∀ j, j < sN (aS a) → μ1.1 69 j = nI (sP σ j)) → (μ1.2.1 65 30 = lN (yrS σ (nxS x) i).2) → (∀ j, j < i → μ1.1 83 j = cI (sC (yrS σ (nxS x) i).1 j)) → V l g RX8 cX8_goYearDay 4 none 2 8 [.ref 65, .int (nI (nxS x / 65536 % 3)), .int (nI i), yy] [] μ1 (fun r μ' => r = none ∧ YM μ0 μ' a (yrD (aTn a) (aOw a) σ x).1 (yrD (aTn a) (aOw a) σ x).2) := by
    intro nA
    induction nA with
    | zero => intro i μ1 yy h1 h2; exact absurd h2 (by omega)
    | succ nA ihA =>
      intro i μ1 yy hleA hfuA hF h11 h69 h30 h83
      refine V_iload_n (pc := 8) dX8_goYearDay_8 rfl rfl ?_
      refine V_aload_n (pc := 9) dX8_goYearDay_9 rfl rfl ?_
      refine V_getI (pc := 10) (ci := 8) (j := 5) dX8_goYearDay_10 fl_X8_129 (fun _ _ _ _ => rfl) (by decide) rfl ?_
      refine V_icmpge (pc := 13) (tgt := 96) dX8_goYearDay_13 (by decide) (fun h13 => ?_) (fun h13 => ?_)
      · have e5 : μ1.1 65 5 = nI (sN (aS a)) := (by rw [hF.2.1 5 (by omega)]; exact m5); rw [e5, nI_leI (by omega) (by omega)] at h13; obtain rfl : i = sN (aS a) := (by omega)
        obtain ⟨f1, f2, f3, f4, f5, f6⟩ := hyf (sN (aS a))
        have hM1 : RM μ1 (setA a (yS (aS a) (yrS σ (nxS x) (sN (aS a))).1)) := hM0.yr hF h11 (fun j hj => by rw [f2]; exact h69 j hj)
        have hO1 : AOK (setA a (yS (aS a) (yrS σ (nxS x) (sN (aS a))).1)) := hO.yr f3 (fun j hj => by rw [f2]; exact y9 j hj)
        refine V_aload_n (pc := 96) dX8_goYearDay_96 rfl rfl ?_
        refine V_iload_n (pc := 97) dX8_goYearDay_97 rfl rfl ?_
        refine V_inv1 (pc := 98) (ci := 8) dX8_goYearDay_98 ml_X8_264 (by decide) rfl ⟨by decide, rfl⟩ (by first | decide | omega) (Nat.le_of_ble_eq_true rfl) (c_X8_drawnWind (a := setA a (yS (aS a) (yrS σ (nxS x) (sN (aS a))).1)) μ1 hO1 hM1 hnb hW1 f4 h30) ?_
        rintro _ _ ⟨rfl, rfl⟩
        rw [show aTn (setA a (yS (aS a) (yrS σ (nxS x) (sN (aS a))).1)) = aTn a from rfl]
        have hQe : yrD (aTn a) (aOw a) σ x = (dayT (aOw a) (widT (aTn a) (nxS x / 65536 % 3) (nxS (yrS σ (nxS x) (sN (aS a))).2 / 65536 % 10)) (yrS σ (nxS x) (sN (aS a))).1, nxS (yrS σ (nxS x) (sN (aS a))).2) := by unfold yrD; rw [y6]
        rw [hQe]
        clear hQe
        have hN2 : sN (yrS σ (nxS x) (sN (aS a))).1 = sN (aS a) := (yrS_N σ (nxS x) _).trans y6
        have hc6 : ∀ j, j < sN (aS a) → sC (yrS σ (nxS x) (sN (aS a))).1 j ≤ 6 := fun j hj => by
          rcases f6 j hj with q | q | q
          · omega
          · exact q
          · have := y10 j (by omega); omega
        generalize (yrS σ (nxS x) (sN (aS a))).2 = z at f4 ⊢
        have hw4 : widT (aTn a) (nxS x / 65536 % 3) (nxS z / 65536 % 10) ≤ 4 := widT_le
        generalize widT (aTn a) (nxS x / 65536 % 3) (nxS z / 65536 % 10) = w at hw4 ⊢
        generalize (yrS σ (nxS x) (sN (aS a))).1 = τ at f1 f2 f3 f5 f6 h11 h83 hN2 hc6 ⊢
        refine V_istore2 (pc := 101) dX8_goYearDay_101 (by decide) rfl ?_
        refine V_iconst (pc := 102) (v := 0) dX8_goYearDay_102 (by decide) ?_
        refine V_istore3 (pc := 103) dX8_goYearDay_103 (by decide) rfl ?_
        have loopB : ∀ (nB i2 : Nat) (μ2 : Mm), i2 ≤ sN (aS a) → sN (aS a) < i2 + nB → (FrY μ0 μ2) → (μ2.1 65 11 = nI (sS τ)) → (∀ j, j < sN (aS a) → μ2.1 69 j = nI (sP (pdT (aOw a) w τ i2) j)) → (μ2.2.1 65 30 = lN (nxS z)) → (∀ j, j < sN (aS a) → μ2.1 83 j = cI (sC τ j)) → V l g RX8 cX8_goYearDay 4 none 2 104 [.ref 65, .int (nI (nxS x / 65536 % 3)), .int (nI w), .int (nI i2)] [] μ2 (fun r μ' => r = none ∧ YM μ0 μ' a (dayT (aOw a) w τ, nxS z).1 (dayT (aOw a) w τ, nxS z).2) := by
          intro nB
          induction nB with
          | zero => intro i2 μ2 h1 h2; exact absurd h2 (by omega)
          | succ nB ihB =>
            intro i2 μ2 hleB hfuB hF2 g11 g69 g30 g83
            refine V_iload_n (pc := 104) dX8_goYearDay_104 rfl rfl ?_
            refine V_aload_n (pc := 105) dX8_goYearDay_105 rfl rfl ?_
            refine V_getI (pc := 106) (ci := 8) (j := 5) dX8_goYearDay_106 fl_X8_129 (fun _ _ _ _ => rfl) (by decide) rfl ?_
            refine V_icmpge (pc := 109) (tgt := 147) dX8_goYearDay_109 (by decide) (fun h109 => ?_) (fun h109 => ?_)
            · have e5 : μ2.1 65 5 = nI (sN (aS a)) := (by rw [hF2.2.1 5 (by omega)]; exact m5); rw [e5, nI_leI (by omega) (by omega)] at h109; obtain rfl : i2 = sN (aS a) := (by omega)
              refine V_vret (pc := 147) dX8_goYearDay_147 rfl ?_
              obtain ⟨d1, d2, d3, d4, d5⟩ := dayT_f (ow := aOw a) (w := w) (σ := τ)
              refine ⟨rfl, hF2, by show _ = nI (sS (dayT _ _ _)); rw [d3]; exact g11, fun j hj => ?_, g30, nxS_lt z, d1.trans hN2, d2.trans (f1.trans y7), by show sS (dayT _ _ _) < 64; rw [d3]; exact f3, fun j hj => ?_, fun j hj => ?_⟩
              · show _ = nI (sP (dayT _ _ _) j)
                rw [g69 j hj, (pdT_f (aOw a) w τ (sN (aS a))).2.2.1 j, d4 j, hN2]
              · show sP (dayT _ _ _) j ≤ 9
                rw [d4 j, f2]
                split
                · exact aft_le (y9 j hj)
                · exact y9 j hj
              · show sC (dayT _ _ _) j = 0
                have hj : j < sN (dayT (aOw a) w τ) := hj
                rw [d1] at hj
                rw [d5 j, if_pos hj]
            have e5 : μ2.1 65 5 = nI (sN (aS a)) := (by rw [hF2.2.1 5 (by omega)]; exact m5); rw [e5, nI_leI (by omega) (by omega)] at h109; have hlt : i2 < sN (aS a) := (by omega)
            obtain ⟨t1, t2, t3, t4⟩ := pdT_f (aOw a) w τ i2
            have hp6 : ∀ j, j < 6 → sP τ j ≤ 9 := fun j hj => by rw [f2]; exact y9 j hj
            have hM2 : RM μ2 (setA a (yS (aS a) (pdT (aOw a) w τ i2))) := hM0.yr hF2 (by rw [t2]; exact g11) g69
            have hO2 : AOK (setA a (yS (aS a) (pdT (aOw a) w τ i2))) := hO.yr (by rw [t2]; exact f3) (fun j hj => by
              rw [t3 j]
              split
              · exact aft_le (hp6 j hj)
              · exact hp6 j hj)
            refine V_aload_n (pc := 112) dX8_goYearDay_112 rfl rfl ?_
            refine V_getR (pc := 113) (ci := 8) (j := 7) (k2 := 69) dX8_goYearDay_113 fl_X8_19 (fun _ _ _ _ => rfl) (by decide) rfl (rf_8_7 rfl) ?_
            refine V_iload_n (pc := 116) dX8_goYearDay_116 rfl rfl ?_
            refine V_aload_n (pc := 117) dX8_goYearDay_117 rfl rfl ?_
            refine V_aload_n (pc := 118) dX8_goYearDay_118 rfl rfl ?_
            refine V_getR (pc := 119) (ci := 8) (j := 6) (k2 := 68) dX8_goYearDay_119 fl_X8_16 (fun _ _ _ _ => rfl) (by decide) rfl (rf_8_6 rfl) ?_
            refine V_iload_n (pc := 122) dX8_goYearDay_122 rfl rfl ?_
            refine V_iald (pc := 123) (j := i2) dX8_goYearDay_123 (by decide) rfl rfl (by show i2 < 6; omega) ?_
            rw [show μ2.1 68 i2 = nI (sK τ i2) from by rw [hF2.1 68 (by omega) (by omega) (by omega), f1, y7]; exact (m6 i2 hlt).1]
            refine V_aload_n (pc := 124) dX8_goYearDay_124 rfl rfl ?_
            refine V_getR (pc := 125) (ci := 8) (j := 7) (k2 := 69) dX8_goYearDay_125 fl_X8_19 (fun _ _ _ _ => rfl) (by decide) rfl (rf_8_7 rfl) ?_
            refine V_iload_n (pc := 128) dX8_goYearDay_128 rfl rfl ?_
            refine V_iald (pc := 129) (j := i2) dX8_goYearDay_129 (by decide) rfl rfl (by show i2 < 6; omega) ?_
            rw [show μ2.1 69 i2 = nI (sP τ i2) from by rw [g69 i2 hlt, t3, if_neg (Nat.lt_irrefl i2)]]
            refine V_iload_n (pc := 130) dX8_goYearDay_130 rfl rfl ?_
            refine V_aload_n (pc := 131) dX8_goYearDay_131 rfl rfl ?_
            refine V_getR (pc := 132) (ci := 8) (j := 32) (k2 := 83) dX8_goYearDay_132 fl_X8_68 (fun _ _ _ _ => rfl) (by decide) rfl (rf_8_32 rfl) ?_
            refine V_iload_n (pc := 135) dX8_goYearDay_135 rfl rfl ?_
            refine V_iald (pc := 136) (j := i2) dX8_goYearDay_136 (by decide) rfl rfl (by show i2 < 6; omega) ?_
            rw [g83 i2 hlt]
            refine V_inv4 (pc := 137) (ci := 8) dX8_goYearDay_137 ml_X8_166 (by decide) rfl ⟨by decide, rfl⟩ (by first | decide | omega) (Nat.le_of_ble_eq_true rfl) (c_X8_behind (a := setA a (yS (aS a) (pdT (aOw a) w τ i2))) μ2 hO2 hM2 hnb (show sK τ i2 ≤ 4 from by rw [f1, y7]; exact (s4 i2 (by omega)).1) (hp6 i2 (by omega)) hw4 (hc6 i2 hlt)) ?_
            rintro _ μ3 ⟨rfl, hμ⟩
            obtain rfl := hμ.symm
            refine V_iast (pc := 140) (j := i2) dX8_goYearDay_140 (by decide) rfl rfl (by show i2 < 6; omega) ?_
            refine V_iinc3 (pc := 141) (v := nI (i2 + 1)) dX8_goYearDay_141 (nI_1 i2) (by decide) rfl ?_
            refine V_goto (pc := 144) (tgt := 104) dX8_goYearDay_144 (by decide) ?_
            refine ihB (i2 + 1) _ (by omega) (by omega) (hF2.set (by omega)) (by rw [get_ne (by omega)]; exact g11) (fun j hj => ?_) g30 (fun j hj => by rw [get_ne (by omega)]; exact g83 j hj)
            rw [(pdT_f (aOw a) w τ (i2 + 1)).2.2.1 j]
            by_cases e : j = i2
            · subst e; rw [get_eq, if_pos (Nat.lt_succ_self j)]; rfl
            · rw [get_ne (by omega), g69 j hj, t3 j]
              by_cases q : j < i2
              · rw [if_pos q, if_pos (by omega)]
              · rw [if_neg q, if_neg (by omega)]
        exact loopB (sN (aS a) + 1) 0 _ (by omega) (by omega) hF.setl h11 (fun j hj => by show _ = nI (sP τ j); rw [f2]; exact h69 j hj) getl_eq h83
      have e5 : μ1.1 65 5 = nI (sN (aS a)) := (by rw [hF.2.1 5 (by omega)]; exact m5); rw [e5, nI_leI (by omega) (by omega)] at h13; have hlt : i < sN (aS a) := (by omega)
      obtain ⟨f1, f2, f3, f4, f5, f6⟩ := hyf i
      have hP9 := y9 i (by omega)
      have h0 : sC (yrS σ (nxS x) i).1 i = 0 := by rw [f5 i (Nat.le_refl i)]; exact y10 i (by omega)
      obtain ⟨c1, c2⟩ := yrS_c (σ := σ) (x := nxS x) (i := i) h0
      have hcl := ycl_le (yrS σ (nxS x) i) i
      generalize hce : ycl (yrS σ (nxS x) i) i = c at c1 c2 hcl
      have J38 : ∀ (μ2 : Mm) (n : Nat), n ≤ 6 → c = (if n = 6 ∨ (sS (yrS σ (nxS x) i).1).testBit n = true then 0 else n + 1) → FrY μ0 μ2 → μ2.1 65 11 = nI (sS (yrS σ (nxS x) i).1) → (∀ j, j < sN (aS a) → μ2.1 69 j = nI (sP σ j)) → μ2.2.1 65 30 = lN (yrS σ (nxS x) (i + 1)).2 → (∀ j, j < i → μ2.1 83 j = cI (sC (yrS σ (nxS x) i).1 j)) → V l g RX8 cX8_goYearDay 4 none 2 38 [.ref 65, .int (nI (nxS x / 65536 % 3)), .int (nI i), yy] [.int (nI n)] μ2 (fun r μ' => r = none ∧ YM μ0 μ' a (yrD (aTn a) (aOw a) σ x).1 (yrD (aTn a) (aOw a) σ x).2) := by
        intro μ2 n hn6 hcn hF2 g11 g69 g30 g83
        refine V_istore3 (pc := 38) dX8_goYearDay_38 (by decide) rfl ?_
        refine V_aload_n (pc := 39) dX8_goYearDay_39 rfl rfl ?_
        refine V_getR (pc := 40) (ci := 8) (j := 32) (k2 := 83) dX8_goYearDay_40 fl_X8_68 (fun _ _ _ _ => rfl) (by decide) rfl (rf_8_32 rfl) ?_
        refine V_iload_n (pc := 43) dX8_goYearDay_43 rfl rfl ?_
        refine V_iload_n (pc := 44) dX8_goYearDay_44 rfl rfl ?_
        refine V_bipush (pc := 45) (v := 6) dX8_goYearDay_45 (by decide) ?_
        refine V_icmpeq (pc := 47) (tgt := 61) dX8_goYearDay_47 (by decide) (fun h47 => ?_) (fun h47 => ?_)
        · have h47 := (nI_eq (a := n) (b := 6) (by omega) (by decide)).mp h47
          refine V_iconst (pc := 61) (v := (-1)) dX8_goYearDay_61 (by decide) ?_
          refine V_goto (pc := 62) (tgt := 66) dX8_goYearDay_62 (by decide) ?_
          first
          | rw [show (-1 : Int32) = cI c from by rw [hcn, if_pos (by first | exact Or.inl h47 | exact Or.inr h58)]; exact cI_0.symm]
          | rw [show nI n = cI c from by rw [hcn, if_neg (fun q => q.elim h47 (fun z => by rw [h58] at z; exact absurd z (by decide)))]; exact (cI_s n).symm]
          refine V_iast (pc := 66) (j := i) dX8_goYearDay_66 (by decide) rfl rfl (by show i < 6; omega) ?_
          refine V_aload_n (pc := 67) dX8_goYearDay_67 rfl rfl ?_
          refine V_aload_n (pc := 68) dX8_goYearDay_68 rfl rfl ?_
          refine V_getR (pc := 69) (ci := 8) (j := 6) (k2 := 68) dX8_goYearDay_69 fl_X8_16 (fun _ _ _ _ => rfl) (by decide) rfl (rf_8_6 rfl) ?_
          refine V_iload_n (pc := 72) dX8_goYearDay_72 rfl rfl ?_
          refine V_iald (pc := 73) (j := i) dX8_goYearDay_73 (by decide) rfl rfl (by show i < 6; omega) ?_
          rw [show (setI μ2 83 i (cI c)).1 68 i = nI (sK (yrS σ (nxS x) i).1 i) from by rw [get_ne (by omega), hF2.1 68 (by omega) (by omega) (by omega), f1, y7]; exact (m6 i hlt).1]
          refine V_aload_n (pc := 74) dX8_goYearDay_74 rfl rfl ?_
          refine V_getI (pc := 75) (ci := 8) (j := 11) dX8_goYearDay_75 fl_X8_132 (fun _ _ _ _ => rfl) (by decide) rfl ?_
          rw [show (setI μ2 83 i (cI c)).1 65 11 = nI (sS (yrS σ (nxS x) i).1) from by rw [get_ne (by omega)]; exact g11]
          refine V_aload_n (pc := 78) dX8_goYearDay_78 rfl rfl ?_
          refine V_getR (pc := 79) (ci := 8) (j := 32) (k2 := 83) dX8_goYearDay_79 fl_X8_68 (fun _ _ _ _ => rfl) (by decide) rfl (rf_8_32 rfl) ?_
          refine V_iload_n (pc := 82) dX8_goYearDay_82 rfl rfl ?_
          refine V_iald (pc := 83) (j := i) dX8_goYearDay_83 (by decide) rfl rfl (by show i < 6; omega) ?_
          rw [show (setI μ2 83 i (cI c)).1 83 i = cI c from get_eq]
          refine V_ins3 (pc := 84) dX8_goYearDay_84 ml_X8_178 (by first | decide | omega) (Nat.le_of_ble_eq_true rfl) (c_X8_spentBy _ (show sK (yrS σ (nxS x) i).1 i ≤ 4 from by rw [f1, y7]; exact (s4 i (by omega)).1) f3 hcl) ?_
          rintro _ μ3 ⟨rfl, hμ⟩
          obtain rfl := hμ.symm
          refine V_putI (pc := 87) (ci := 8) (j := 11) dX8_goYearDay_87 fl_X8_132 (fun _ _ _ _ _ => rfl) rfl rfl (by decide) rfl ?_
          refine V_iinc2 (pc := 90) (v := nI (i + 1)) dX8_goYearDay_90 (nI_1 i) (by decide) rfl ?_
          refine V_goto (pc := 93) (tgt := 8) dX8_goYearDay_93 (by decide) ?_
          refine ihA (i + 1) _ _ (by omega) (by omega) ((hF2.set (by omega)).set (by omega)) (by rw [get_eq, c2]) (fun j hj => by rw [get_ne (by omega), get_ne (by omega)]; exact g69 j hj) g30 (fun j hj => ?_)
          rw [get_ne (by omega), c1 j]
          by_cases e : j = i
          · subst e; rw [get_eq, if_pos rfl]
          · rw [get_ne (by omega), if_neg e]; exact g83 j (by omega)
        have h47 := mt (nI_eq (a := n) (b := 6) (by omega) (by decide)).mpr h47
        refine V_aload_n (pc := 50) dX8_goYearDay_50 rfl rfl ?_
        refine V_getI (pc := 51) (ci := 8) (j := 11) dX8_goYearDay_51 fl_X8_132 (fun _ _ _ _ => rfl) (by decide) rfl ?_
        rw [g11]
        refine V_iload_n (pc := 54) dX8_goYearDay_54 rfl rfl ?_
        refine V_ins2 (pc := 55) dX8_goYearDay_55 ml_X8_156 (by first | decide | omega) (Nat.le_of_ble_eq_true rfl) (c_X8_has μ2 f3 (show n < 6 by omega)) ?_
        rintro _ μ2 ⟨rfl, hμ⟩
        obtain rfl := hμ.symm
        refine V_ifeq (pc := 58) (tgt := 65) dX8_goYearDay_58 (by decide) (fun h58 => ?_) (fun h58 => ?_)
        · have h58 := bI_e h58
          refine V_iload_n (pc := 65) dX8_goYearDay_65 rfl rfl ?_
          first
          | rw [show (-1 : Int32) = cI c from by rw [hcn, if_pos (by first | exact Or.inl h47 | exact Or.inr h58)]; exact cI_0.symm]
          | rw [show nI n = cI c from by rw [hcn, if_neg (fun q => q.elim h47 (fun z => by rw [h58] at z; exact absurd z (by decide)))]; exact (cI_s n).symm]
          refine V_iast (pc := 66) (j := i) dX8_goYearDay_66 (by decide) rfl rfl (by show i < 6; omega) ?_
          refine V_aload_n (pc := 67) dX8_goYearDay_67 rfl rfl ?_
          refine V_aload_n (pc := 68) dX8_goYearDay_68 rfl rfl ?_
          refine V_getR (pc := 69) (ci := 8) (j := 6) (k2 := 68) dX8_goYearDay_69 fl_X8_16 (fun _ _ _ _ => rfl) (by decide) rfl (rf_8_6 rfl) ?_
          refine V_iload_n (pc := 72) dX8_goYearDay_72 rfl rfl ?_
          refine V_iald (pc := 73) (j := i) dX8_goYearDay_73 (by decide) rfl rfl (by show i < 6; omega) ?_
          rw [show (setI μ2 83 i (cI c)).1 68 i = nI (sK (yrS σ (nxS x) i).1 i) from by rw [get_ne (by omega), hF2.1 68 (by omega) (by omega) (by omega), f1, y7]; exact (m6 i hlt).1]
          refine V_aload_n (pc := 74) dX8_goYearDay_74 rfl rfl ?_
          refine V_getI (pc := 75) (ci := 8) (j := 11) dX8_goYearDay_75 fl_X8_132 (fun _ _ _ _ => rfl) (by decide) rfl ?_
          rw [show (setI μ2 83 i (cI c)).1 65 11 = nI (sS (yrS σ (nxS x) i).1) from by rw [get_ne (by omega)]; exact g11]
          refine V_aload_n (pc := 78) dX8_goYearDay_78 rfl rfl ?_
          refine V_getR (pc := 79) (ci := 8) (j := 32) (k2 := 83) dX8_goYearDay_79 fl_X8_68 (fun _ _ _ _ => rfl) (by decide) rfl (rf_8_32 rfl) ?_
          refine V_iload_n (pc := 82) dX8_goYearDay_82 rfl rfl ?_
          refine V_iald (pc := 83) (j := i) dX8_goYearDay_83 (by decide) rfl rfl (by show i < 6; omega) ?_
          rw [show (setI μ2 83 i (cI c)).1 83 i = cI c from get_eq]
          refine V_ins3 (pc := 84) dX8_goYearDay_84 ml_X8_178 (by first | decide | omega) (Nat.le_of_ble_eq_true rfl) (c_X8_spentBy _ (show sK (yrS σ (nxS x) i).1 i ≤ 4 from by rw [f1, y7]; exact (s4 i (by omega)).1) f3 hcl) ?_
          rintro _ μ3 ⟨rfl, hμ⟩
          obtain rfl := hμ.symm
          refine V_putI (pc := 87) (ci := 8) (j := 11) dX8_goYearDay_87 fl_X8_132 (fun _ _ _ _ _ => rfl) rfl rfl (by decide) rfl ?_
          refine V_iinc2 (pc := 90) (v := nI (i + 1)) dX8_goYearDay_90 (nI_1 i) (by decide) rfl ?_
          refine V_goto (pc := 93) (tgt := 8) dX8_goYearDay_93 (by decide) ?_
          refine ihA (i + 1) _ _ (by omega) (by omega) ((hF2.set (by omega)).set (by omega)) (by rw [get_eq, c2]) (fun j hj => by rw [get_ne (by omega), get_ne (by omega)]; exact g69 j hj) g30 (fun j hj => ?_)
          rw [get_ne (by omega), c1 j]
          by_cases e : j = i
          · subst e; rw [get_eq, if_pos rfl]
          · rw [get_ne (by omega), if_neg e]; exact g83 j (by omega)
        have h58 := bI_ne h58
        refine V_iconst (pc := 61) (v := (-1)) dX8_goYearDay_61 (by decide) ?_
        refine V_goto (pc := 62) (tgt := 66) dX8_goYearDay_62 (by decide) ?_
        first
        | rw [show (-1 : Int32) = cI c from by rw [hcn, if_pos (by first | exact Or.inl h47 | exact Or.inr h58)]; exact cI_0.symm]
        | rw [show nI n = cI c from by rw [hcn, if_neg (fun q => q.elim h47 (fun z => by rw [h58] at z; exact absurd z (by decide)))]; exact (cI_s n).symm]
        refine V_iast (pc := 66) (j := i) dX8_goYearDay_66 (by decide) rfl rfl (by show i < 6; omega) ?_
        refine V_aload_n (pc := 67) dX8_goYearDay_67 rfl rfl ?_
        refine V_aload_n (pc := 68) dX8_goYearDay_68 rfl rfl ?_
        refine V_getR (pc := 69) (ci := 8) (j := 6) (k2 := 68) dX8_goYearDay_69 fl_X8_16 (fun _ _ _ _ => rfl) (by decide) rfl (rf_8_6 rfl) ?_
        refine V_iload_n (pc := 72) dX8_goYearDay_72 rfl rfl ?_
        refine V_iald (pc := 73) (j := i) dX8_goYearDay_73 (by decide) rfl rfl (by show i < 6; omega) ?_
        rw [show (setI μ2 83 i (cI c)).1 68 i = nI (sK (yrS σ (nxS x) i).1 i) from by rw [get_ne (by omega), hF2.1 68 (by omega) (by omega) (by omega), f1, y7]; exact (m6 i hlt).1]
        refine V_aload_n (pc := 74) dX8_goYearDay_74 rfl rfl ?_
        refine V_getI (pc := 75) (ci := 8) (j := 11) dX8_goYearDay_75 fl_X8_132 (fun _ _ _ _ => rfl) (by decide) rfl ?_
        rw [show (setI μ2 83 i (cI c)).1 65 11 = nI (sS (yrS σ (nxS x) i).1) from by rw [get_ne (by omega)]; exact g11]
        refine V_aload_n (pc := 78) dX8_goYearDay_78 rfl rfl ?_
        refine V_getR (pc := 79) (ci := 8) (j := 32) (k2 := 83) dX8_goYearDay_79 fl_X8_68 (fun _ _ _ _ => rfl) (by decide) rfl (rf_8_32 rfl) ?_
        refine V_iload_n (pc := 82) dX8_goYearDay_82 rfl rfl ?_
        refine V_iald (pc := 83) (j := i) dX8_goYearDay_83 (by decide) rfl rfl (by show i < 6; omega) ?_
        rw [show (setI μ2 83 i (cI c)).1 83 i = cI c from get_eq]
        refine V_ins3 (pc := 84) dX8_goYearDay_84 ml_X8_178 (by first | decide | omega) (Nat.le_of_ble_eq_true rfl) (c_X8_spentBy _ (show sK (yrS σ (nxS x) i).1 i ≤ 4 from by rw [f1, y7]; exact (s4 i (by omega)).1) f3 hcl) ?_
        rintro _ μ3 ⟨rfl, hμ⟩
        obtain rfl := hμ.symm
        refine V_putI (pc := 87) (ci := 8) (j := 11) dX8_goYearDay_87 fl_X8_132 (fun _ _ _ _ _ => rfl) rfl rfl (by decide) rfl ?_
        refine V_iinc2 (pc := 90) (v := nI (i + 1)) dX8_goYearDay_90 (nI_1 i) (by decide) rfl ?_
        refine V_goto (pc := 93) (tgt := 8) dX8_goYearDay_93 (by decide) ?_
        refine ihA (i + 1) _ _ (by omega) (by omega) ((hF2.set (by omega)).set (by omega)) (by rw [get_eq, c2]) (fun j hj => by rw [get_ne (by omega), get_ne (by omega)]; exact g69 j hj) g30 (fun j hj => ?_)
        rw [get_ne (by omega), c1 j]
        by_cases e : j = i
        · subst e; rw [get_eq, if_pos rfl]
        · rw [get_ne (by omega), if_neg e]; exact g83 j (by omega)
      refine V_aload_n (pc := 16) dX8_goYearDay_16 rfl rfl ?_
      refine V_getR (pc := 17) (ci := 8) (j := 7) (k2 := 69) dX8_goYearDay_17 fl_X8_19 (fun _ _ _ _ => rfl) (by decide) rfl (rf_8_7 rfl) ?_
      refine V_iload_n (pc := 20) dX8_goYearDay_20 rfl rfl ?_
      refine V_iald (pc := 21) (j := i) dX8_goYearDay_21 (by decide) rfl rfl (by show i < 6; omega) ?_
      rw [h69 i hlt]
      refine V_bipush (pc := 22) (v := 9) dX8_goYearDay_22 (by decide) ?_
      refine V_icmpne (pc := 24) (tgt := 32) dX8_goYearDay_24 (by decide) (fun h24 => ?_) (fun h24 => ?_)
      · have h24 := mt (nI_eq (a := sP σ i) (b := 9) (by omega) (by omega)).mpr h24
        refine V_aload_n (pc := 32) dX8_goYearDay_32 rfl rfl ?_
        refine V_bipush (pc := 33) (v := 7) dX8_goYearDay_33 (by decide) ?_
        refine V_inv1 (pc := 35) (ci := 8) dX8_goYearDay_35 ml_X8_261 (by decide) rfl ⟨by decide, rfl⟩ (by first | decide | omega) (Nat.le_of_ble_eq_true rfl) (c_X8_draw (d := 7) μ1 (by decide) (by decide) f4 h30) ?_
        rintro _ _ ⟨rfl, rfl⟩
        first
        | exact J38 _ 6 (by omega) (by rw [← hce]; unfold ycl; rw [f2, if_pos h24, if_pos (Or.inl rfl)]) hF h11 h69 (by rw [yrS_h (by rw [f2]; exact h24)]; exact h30) h83
        | exact J38 _ (nxS (yrS σ (nxS x) i).2 / 65536 % 7) (by have := Nat.mod_lt (nxS (yrS σ (nxS x) i).2 / 65536) (show 7 > 0 by decide); omega) (by rw [← hce]; unfold ycl; rw [f2, if_neg h24]) hF.setl h11 h69 (by rw [yrS_d (by rw [f2]; exact h24)]; exact getl_eq) h83
      have h24 := (nI_eq (a := sP σ i) (b := 9) (by omega) (by omega)).mp h24
      refine V_bipush (pc := 27) (v := 6) dX8_goYearDay_27 (by decide) ?_
      refine V_goto (pc := 29) (tgt := 38) dX8_goYearDay_29 (by decide) ?_
      first
      | exact J38 _ 6 (by omega) (by rw [← hce]; unfold ycl; rw [f2, if_pos h24, if_pos (Or.inl rfl)]) hF h11 h69 (by rw [yrS_h (by rw [f2]; exact h24)]; exact h30) h83
      | exact J38 _ (nxS (yrS σ (nxS x) i).2 / 65536 % 7) (by have := Nat.mod_lt (nxS (yrS σ (nxS x) i).2 / 65536) (show 7 > 0 by decide); omega) (by rw [← hce]; unfold ycl; rw [f2, if_neg h24]) hF.setl h11 h69 (by rw [yrS_d (by rw [f2]; exact h24)]; exact getl_eq) h83
  exact loopA (sN (aS a) + 1) 0 _ _ (by omega) (by omega) y1.setl y2 y3 getl_eq (fun j hj => absurd hj (Nat.not_lt_zero j))
theorem dX8_yearsNow_0 : decode cX8_yearsNow 0 = .ok (.iconst 0, 1) := by decide +kernel
theorem dX8_yearsNow_1 : decode cX8_yearsNow 1 = .ok (.istore 4, 2) := by decide +kernel
theorem dX8_yearsNow_3 : decode cX8_yearsNow 3 = .ok (.iload 4, 2) := by decide +kernel
theorem dX8_yearsNow_5 : decode cX8_yearsNow 5 = .ok (.bipush 6, 2) := by decide +kernel
theorem dX8_yearsNow_7 : decode cX8_yearsNow 7 = .ok (.if_icmp .ge 23, 3) := by decide +kernel
theorem dX8_yearsNow_10 : decode cX8_yearsNow 10 = .ok (.aload_n 0, 1) := by decide +kernel
theorem dX8_yearsNow_11 : decode cX8_yearsNow 11 = .ok (.getfield 65, 3) := by decide +kernel
theorem dX8_yearsNow_14 : decode cX8_yearsNow 14 = .ok (.iload 4, 2) := by decide +kernel
theorem dX8_yearsNow_16 : decode cX8_yearsNow 16 = .ok (.aload_n 0, 1) := by decide +kernel
theorem dX8_yearsNow_17 : decode cX8_yearsNow 17 = .ok (.getfield 19, 3) := by decide +kernel
theorem dX8_yearsNow_20 : decode cX8_yearsNow 20 = .ok (.iload 4, 2) := by decide +kernel
theorem dX8_yearsNow_22 : decode cX8_yearsNow 22 = .ok (.iaload, 1) := by decide +kernel
theorem dX8_yearsNow_23 : decode cX8_yearsNow 23 = .ok (.iastore, 1) := by decide +kernel
theorem dX8_yearsNow_24 : decode cX8_yearsNow 24 = .ok (.iinc 4 1, 3) := by decide +kernel
theorem dX8_yearsNow_27 : decode cX8_yearsNow 27 = .ok (.goto (-24), 3) := by decide +kernel
theorem dX8_yearsNow_30 : decode cX8_yearsNow 30 = .ok (.aload_n 0, 1) := by decide +kernel
theorem dX8_yearsNow_31 : decode cX8_yearsNow 31 = .ok (.getfield 132, 3) := by decide +kernel
theorem dX8_yearsNow_34 : decode cX8_yearsNow 34 = .ok (.istore 4, 2) := by decide +kernel
theorem dX8_yearsNow_36 : decode cX8_yearsNow 36 = .ok (.aload_n 0, 1) := by decide +kernel
theorem dX8_yearsNow_37 : decode cX8_yearsNow 37 = .ok (.iload_n 2, 1) := by decide +kernel
theorem dX8_yearsNow_38 : decode cX8_yearsNow 38 = .ok (.i2l, 1) := by decide +kernel
theorem dX8_yearsNow_39 : decode cX8_yearsNow 39 = .ok (.putfield 251, 3) := by decide +kernel
theorem dX8_yearsNow_42 : decode cX8_yearsNow 42 = .ok (.iconst 0, 1) := by decide +kernel
theorem dX8_yearsNow_43 : decode cX8_yearsNow 43 = .ok (.istore 5, 2) := by decide +kernel
theorem dX8_yearsNow_45 : decode cX8_yearsNow 45 = .ok (.iload 5, 2) := by decide +kernel
theorem dX8_yearsNow_47 : decode cX8_yearsNow 47 = .ok (.iload_n 1, 1) := by decide +kernel
theorem dX8_yearsNow_48 : decode cX8_yearsNow 48 = .ok (.if_icmp .ge 13, 3) := by decide +kernel
theorem dX8_yearsNow_51 : decode cX8_yearsNow 51 = .ok (.aload_n 0, 1) := by decide +kernel
theorem dX8_yearsNow_52 : decode cX8_yearsNow 52 = .ok (.invokevirtual 267, 3) := by decide +kernel
theorem dX8_yearsNow_55 : decode cX8_yearsNow 55 = .ok (.iinc 5 1, 3) := by decide +kernel
theorem dX8_yearsNow_58 : decode cX8_yearsNow 58 = .ok (.goto (-13), 3) := by decide +kernel
theorem dX8_yearsNow_61 : decode cX8_yearsNow 61 = .ok (.iconst 0, 1) := by decide +kernel
theorem dX8_yearsNow_62 : decode cX8_yearsNow 62 = .ok (.istore 5, 2) := by decide +kernel
theorem dX8_yearsNow_64 : decode cX8_yearsNow 64 = .ok (.iconst 0, 1) := by decide +kernel
theorem dX8_yearsNow_65 : decode cX8_yearsNow 65 = .ok (.istore 6, 2) := by decide +kernel
theorem dX8_yearsNow_67 : decode cX8_yearsNow 67 = .ok (.iload 6, 2) := by decide +kernel
theorem dX8_yearsNow_69 : decode cX8_yearsNow 69 = .ok (.aload_n 0, 1) := by decide +kernel
theorem dX8_yearsNow_70 : decode cX8_yearsNow 70 = .ok (.getfield 129, 3) := by decide +kernel
theorem dX8_yearsNow_73 : decode cX8_yearsNow 73 = .ok (.if_icmp .ge 21, 3) := by decide +kernel
theorem dX8_yearsNow_76 : decode cX8_yearsNow 76 = .ok (.iload 5, 2) := by decide +kernel
theorem dX8_yearsNow_78 : decode cX8_yearsNow 78 = .ok (.aload_n 0, 1) := by decide +kernel
theorem dX8_yearsNow_79 : decode cX8_yearsNow 79 = .ok (.getfield 19, 3) := by decide +kernel
theorem dX8_yearsNow_82 : decode cX8_yearsNow 82 = .ok (.iload 6, 2) := by decide +kernel
theorem dX8_yearsNow_84 : decode cX8_yearsNow 84 = .ok (.iaload, 1) := by decide +kernel
theorem dX8_yearsNow_85 : decode cX8_yearsNow 85 = .ok (.iadd, 1) := by decide +kernel
theorem dX8_yearsNow_86 : decode cX8_yearsNow 86 = .ok (.istore 5, 2) := by decide +kernel
theorem dX8_yearsNow_88 : decode cX8_yearsNow 88 = .ok (.iinc 6 1, 3) := by decide +kernel
theorem dX8_yearsNow_91 : decode cX8_yearsNow 91 = .ok (.goto (-24), 3) := by decide +kernel
theorem dX8_yearsNow_94 : decode cX8_yearsNow 94 = .ok (.iload_n 3, 1) := by decide +kernel
theorem dX8_yearsNow_95 : decode cX8_yearsNow 95 = .ok (.ifCond .ne 10, 3) := by decide +kernel
theorem dX8_yearsNow_98 : decode cX8_yearsNow 98 = .ok (.aload_n 0, 1) := by decide +kernel
theorem dX8_yearsNow_99 : decode cX8_yearsNow 99 = .ok (.invokevirtual 170, 3) := by decide +kernel
theorem dX8_yearsNow_102 : decode cX8_yearsNow 102 = .ok (.goto 33, 3) := by decide +kernel
theorem dX8_yearsNow_105 : decode cX8_yearsNow 105 = .ok (.iload_n 3, 1) := by decide +kernel
theorem dX8_yearsNow_106 : decode cX8_yearsNow 106 = .ok (.iconst 1, 1) := by decide +kernel
theorem dX8_yearsNow_107 : decode cX8_yearsNow 107 = .ok (.if_icmp .ne 8, 3) := by decide +kernel
theorem dX8_yearsNow_110 : decode cX8_yearsNow 110 = .ok (.iload 5, 2) := by decide +kernel
theorem dX8_yearsNow_112 : decode cX8_yearsNow 112 = .ok (.goto 23, 3) := by decide +kernel
theorem dX8_yearsNow_115 : decode cX8_yearsNow 115 = .ok (.iload_n 3, 1) := by decide +kernel
theorem dX8_yearsNow_116 : decode cX8_yearsNow 116 = .ok (.iconst 2, 1) := by decide +kernel
theorem dX8_yearsNow_117 : decode cX8_yearsNow 117 = .ok (.if_icmp .ne 13, 3) := by decide +kernel
theorem dX8_yearsNow_120 : decode cX8_yearsNow 120 = .ok (.aload_n 0, 1) := by decide +kernel
theorem dX8_yearsNow_121 : decode cX8_yearsNow 121 = .ok (.getfield 132, 3) := by decide +kernel
theorem dX8_yearsNow_124 : decode cX8_yearsNow 124 = .ok (.invokestatic 174, 3) := by decide +kernel
theorem dX8_yearsNow_127 : decode cX8_yearsNow 127 = .ok (.goto 8, 3) := by decide +kernel
theorem dX8_yearsNow_130 : decode cX8_yearsNow 130 = .ok (.aload_n 0, 1) := by decide +kernel
theorem dX8_yearsNow_131 : decode cX8_yearsNow 131 = .ok (.getfield 251, 3) := by decide +kernel
theorem dX8_yearsNow_134 : decode cX8_yearsNow 134 = .ok (.l2i, 1) := by decide +kernel
theorem dX8_yearsNow_135 : decode cX8_yearsNow 135 = .ok (.istore 6, 2) := by decide +kernel
theorem dX8_yearsNow_137 : decode cX8_yearsNow 137 = .ok (.aload_n 0, 1) := by decide +kernel
theorem dX8_yearsNow_138 : decode cX8_yearsNow 138 = .ok (.iload 4, 2) := by decide +kernel
theorem dX8_yearsNow_140 : decode cX8_yearsNow 140 = .ok (.putfield 132, 3) := by decide +kernel
theorem dX8_yearsNow_143 : decode cX8_yearsNow 143 = .ok (.iconst 0, 1) := by decide +kernel
theorem dX8_yearsNow_144 : decode cX8_yearsNow 144 = .ok (.istore 7, 2) := by decide +kernel
theorem dX8_yearsNow_146 : decode cX8_yearsNow 146 = .ok (.iload 7, 2) := by decide +kernel
theorem dX8_yearsNow_148 : decode cX8_yearsNow 148 = .ok (.bipush 6, 2) := by decide +kernel
theorem dX8_yearsNow_150 : decode cX8_yearsNow 150 = .ok (.if_icmp .ge 23, 3) := by decide +kernel
theorem dX8_yearsNow_153 : decode cX8_yearsNow 153 = .ok (.aload_n 0, 1) := by decide +kernel
theorem dX8_yearsNow_154 : decode cX8_yearsNow 154 = .ok (.getfield 19, 3) := by decide +kernel
theorem dX8_yearsNow_157 : decode cX8_yearsNow 157 = .ok (.iload 7, 2) := by decide +kernel
theorem dX8_yearsNow_159 : decode cX8_yearsNow 159 = .ok (.aload_n 0, 1) := by decide +kernel
theorem dX8_yearsNow_160 : decode cX8_yearsNow 160 = .ok (.getfield 65, 3) := by decide +kernel
theorem dX8_yearsNow_163 : decode cX8_yearsNow 163 = .ok (.iload 7, 2) := by decide +kernel
theorem dX8_yearsNow_165 : decode cX8_yearsNow 165 = .ok (.iaload, 1) := by decide +kernel
theorem dX8_yearsNow_166 : decode cX8_yearsNow 166 = .ok (.iastore, 1) := by decide +kernel
theorem dX8_yearsNow_167 : decode cX8_yearsNow 167 = .ok (.iinc 7 1, 3) := by decide +kernel
theorem dX8_yearsNow_170 : decode cX8_yearsNow 170 = .ok (.goto (-24), 3) := by decide +kernel
theorem dX8_yearsNow_173 : decode cX8_yearsNow 173 = .ok (.iload 6, 2) := by decide +kernel
theorem dX8_yearsNow_175 : decode cX8_yearsNow 175 = .ok (.ireturn, 1) := by decide +kernel
set_option maxHeartbeats 4000000 in
set_option maxRecDepth 100000 in
theorem c_X8_yearsNow {l : Launch} {g : GW} {a : AT} {n x k : Nat} (μ : Mm) (hO : AOK a) (hM : RM μ a) (hnb : 0 < aNb a) (hn : n ≤ 60) (hx : x < 2 ^ 31) (hk : k < 4) : Con l g yX8_yearsNow cX8_yearsNow 8 (some .int) 3 [.ref 65, .int (nI n), .int (nI x), .int (nI k)] μ (fun r μ' => r = some (.int (if k = 0 then nI (homeT (sP (yrT (aTn a) (aOw a) (cal0 (aS a)) x n).1) (sN (yrT (aTn a) (aOw a) (cal0 (aS a)) x n).1)) else if k = 1 then nI (sumP (sP (yrT (aTn a) (aOw a) (cal0 (aS a)) x n).1) (sN (yrT (aTn a) (aOw a) (cal0 (aS a)) x n).1)) else if k = 2 then nI (cntB (sS (yrT (aTn a) (aOw a) (cal0 (aS a)) x n).1)) else nI (yrT (aTn a) (aOw a) (cal0 (aS a)) x n).2)) ∧ RM μ' a ∧ FrX μ μ') := by
  obtain ⟨m1, m2, m3, m4, m5, m6, m7, m8, m9, m10, m11, m12, m13⟩ := id hM
  obtain ⟨o1, o2, o3, o4, o5, ⟨s1, s2, s3, s4⟩, oK, o8, o9, o10⟩ := id hO
  refine Con.of [.ref 65, .int (nI n), .int (nI x), .int (nI k), .null, .null, .null, .null] 4 (by decide +kernel) (Nat.le_of_ble_eq_true rfl) rfl ?_
  refine V_iconst (pc := 0) (v := 0) dX8_yearsNow_0 (by decide) ?_
  refine V_istore4 (pc := 1) dX8_yearsNow_1 (by decide) rfl ?_
  have loopA : ∀ (nA i : Nat) (μ1 : Mm), i ≤ 6 → 6 < i + nA → (∀ c, c ≠ 82 → μ1.1 c = μ.1 c) → (μ1.2 = μ.2) → (∀ j, j < i → μ1.1 82 j = μ.1 69 j) → V l g RX8 cX8_yearsNow 8 (some .int) 3 3 [.ref 65, .int (nI n), .int (nI x), .int (nI k), .int (nI i), .null, .null, .null] [] μ1 (fun r μ' => r = some (.int (if k = 0 then nI (homeT (sP (yrT (aTn a) (aOw a) (cal0 (aS a)) x n).1) (sN (yrT (aTn a) (aOw a) (cal0 (aS a)) x n).1)) else if k = 1 then nI (sumP (sP (yrT (aTn a) (aOw a) (cal0 (aS a)) x n).1) (sN (yrT (aTn a) (aOw a) (cal0 (aS a)) x n).1)) else if k = 2 then nI (cntB (sS (yrT (aTn a) (aOw a) (cal0 (aS a)) x n).1)) else nI (yrT (aTn a) (aOw a) (cal0 (aS a)) x n).2)) ∧ RM μ' a ∧ FrX μ μ') := by
    intro nA
    induction nA with
    | zero => intro i μ1 h1 h2; exact absurd h2 (by omega)
    | succ nA ihA =>
      intro i μ1 hleA hfuA hE hz h82
      refine V_iload (pc := 3) dX8_yearsNow_3 rfl ?_
      refine V_bipush (pc := 5) (v := 6) dX8_yearsNow_5 (by decide) ?_
      refine V_icmpge (pc := 7) (tgt := 30) dX8_yearsNow_7 (by decide) (fun h7 => ?_) (fun h7 => ?_)
      · have h7 := (nI_leI (a := 6) (b := i) (by decide) (by omega)).mp h7; obtain rfl : i = 6 := by omega
        have hM1 : RM μ1 a := hM.kept (fun j _ => by rw [hE 65 (by omega)]) (fun c hc => hE c (by omega))
        have hX1 : FrX μ μ1 := ⟨fun c hc => hE c (by omega), by rw [hz]⟩
        refine V_aload_n (pc := 30) dX8_yearsNow_30 rfl rfl ?_
        refine V_getI (pc := 31) (ci := 8) (j := 11) dX8_yearsNow_31 fl_X8_132 (fun _ _ _ _ => rfl) (by decide) rfl ?_
        rw [hM1.2.2.2.2.2.2.1]
        refine V_istore4 (pc := 34) dX8_yearsNow_34 (by decide) rfl ?_
        refine V_aload_n (pc := 36) dX8_yearsNow_36 rfl rfl ?_
        refine V_iload_n (pc := 37) dX8_yearsNow_37 rfl rfl ?_
        refine V_i2l (pc := 38) dX8_yearsNow_38 ?_
        rw [nI_l hx]
        refine V_putL (pc := 39) (ci := 8) (j := 30) dX8_yearsNow_39 fl_X8_251 (fun _ _ _ _ _ => rfl) rfl rfl (by decide) rfl ?_
        have hY0 : YM μ1 (setL μ1 65 30 (lN x)) a (cal0 (aS a)) x := ⟨FrY.rf.setl, hM1.2.2.2.2.2.2.1, fun j hj => (hM1.2.2.2.2.2.1 j hj).2.1, getl_eq, hx, rfl, rfl, s2, fun j hj => (s4 j hj).2.1, fun j hj => rfl⟩
        refine V_iconst (pc := 42) (v := 0) dX8_yearsNow_42 (by decide) ?_
        refine V_istore5 (pc := 43) dX8_yearsNow_43 (by decide) rfl ?_
        have loopB : ∀ (nB d : Nat) (μ2 : Mm) (y6 y7 : Value), d ≤ n → n < d + nB → (YM μ1 μ2 a (yrT (aTn a) (aOw a) (cal0 (aS a)) x d).1 (yrT (aTn a) (aOw a) (cal0 (aS a)) x d).2) → V l g RX8 cX8_yearsNow 8 (some .int) 3 45 [.ref 65, .int (nI n), .int (nI x), .int (nI k), .int (nI (sS (aS a))), .int (nI d), y6, y7] [] μ2 (fun r μ' => r = some (.int (if k = 0 then nI (homeT (sP (yrT (aTn a) (aOw a) (cal0 (aS a)) x n).1) (sN (yrT (aTn a) (aOw a) (cal0 (aS a)) x n).1)) else if k = 1 then nI (sumP (sP (yrT (aTn a) (aOw a) (cal0 (aS a)) x n).1) (sN (yrT (aTn a) (aOw a) (cal0 (aS a)) x n).1)) else if k = 2 then nI (cntB (sS (yrT (aTn a) (aOw a) (cal0 (aS a)) x n).1)) else nI (yrT (aTn a) (aOw a) (cal0 (aS a)) x n).2)) ∧ RM μ' a ∧ FrX μ μ') := by
          intro nB
          induction nB with
          | zero => intro d μ2 y6 y7 h1 h2; exact absurd h2 (by omega)
          | succ nB ihB =>
            intro d μ2 y6 y7 hleB hfuB hY
            refine V_iload (pc := 45) dX8_yearsNow_45 rfl ?_
            refine V_iload_n (pc := 47) dX8_yearsNow_47 rfl rfl ?_
            refine V_icmpge (pc := 48) (tgt := 61) dX8_yearsNow_48 (by decide) (fun h48 => ?_) (fun h48 => ?_)
            · rw [nI_leI (by omega) (by omega)] at h48; obtain rfl : n = d := by omega
              generalize yrT (aTn a) (aOw a) (cal0 (aS a)) x n = q at hY ⊢
              obtain ⟨σ, z⟩ := q
              obtain ⟨y1, y2, y3, y4, y5, y6e, y7e, y8, y9, y10⟩ := id hY
              have y1 : FrY μ1 μ2 := y1
              have y2 : μ2.1 65 11 = nI (sS σ) := y2
              have y3 : ∀ j, j < sN (aS a) → μ2.1 69 j = nI (sP σ j) := y3
              have y4 : μ2.2.1 65 30 = lN z := y4
              have y6e : sN σ = sN (aS a) := y6e
              have y8 : sS σ < 64 := y8
              have y9 : ∀ j, j < 6 → sP σ j ≤ 9 := y9
              have hM2 : RM μ2 (setA a (yS (aS a) σ)) := hM1.yr y1 y2 y3
              have hO2 : AOK (setA a (yS (aS a) σ)) := hO.yr y8 y9
              have hsl := sumP_le y9
              show V l g RX8 cX8_yearsNow 8 (some .int) 3 61 _ _ μ2 (fun r μ' => r = some (.int (if k = 0 then nI (homeT (sP σ) (sN σ)) else if k = 1 then nI (sumP (sP σ) (sN σ)) else if k = 2 then nI (cntB (sS σ)) else nI z)) ∧ RM μ' a ∧ FrX μ μ')
              refine V_iconst (pc := 61) (v := 0) dX8_yearsNow_61 (by decide) ?_
              refine V_istore5 (pc := 62) dX8_yearsNow_62 (by decide) rfl ?_
              refine V_iconst (pc := 64) (v := 0) dX8_yearsNow_64 (by decide) ?_
              refine V_istore6 (pc := 65) dX8_yearsNow_65 (by decide) rfl ?_
              have loopC : ∀ (nC m : Nat) (u : Int32) (y7v : Value), m ≤ sN (aS a) → sN (aS a) < m + nC → (u = nI (sumP (sP σ) m)) → V l g RX8 cX8_yearsNow 8 (some .int) 3 67 [.ref 65, .int (nI n), .int (nI x), .int (nI k), .int (nI (sS (aS a))), .int u, .int (nI m), y7v] [] μ2 (fun r μ' => r = some (.int (if k = 0 then nI (homeT (sP σ) (sN σ)) else if k = 1 then nI (sumP (sP σ) (sN σ)) else if k = 2 then nI (cntB (sS σ)) else nI z)) ∧ RM μ' a ∧ FrX μ μ') := by
                intro nC
                induction nC with
                | zero => intro m u y7v h1 h2; exact absurd h2 (by omega)
                | succ nC ihC =>
                  intro m u y7v hleC hfuC hu
                  refine V_iload (pc := 67) dX8_yearsNow_67 rfl ?_
                  refine V_aload_n (pc := 69) dX8_yearsNow_69 rfl rfl ?_
                  refine V_getI (pc := 70) (ci := 8) (j := 5) dX8_yearsNow_70 fl_X8_129 (fun _ _ _ _ => rfl) (by decide) rfl ?_
                  refine V_icmpge (pc := 73) (tgt := 94) dX8_yearsNow_73 (by decide) (fun h73 => ?_) (fun h73 => ?_)
                  · have e5 : μ2.1 65 5 = nI (sN (aS a)) := (by rw [y1.2.1 5 (by omega)]; exact hM1.2.2.2.2.1); rw [e5, nI_leI (by omega) (by omega)] at h73; obtain rfl : m = sN (aS a) := (by omega)
                    rw [← y6e] at hu
                    have J135 : ∀ (v : Int32), v = (if k = 0 then nI (homeT (sP σ) (sN σ)) else if k = 1 then nI (sumP (sP σ) (sN σ)) else if k = 2 then nI (cntB (sS σ)) else nI z) → V l g RX8 cX8_yearsNow 8 (some .int) 3 135 [.ref 65, .int (nI n), .int (nI x), .int (nI k), .int (nI (sS (aS a))), .int u, .int (nI (sN (aS a))), y7v] [.int v] μ2 (fun r μ' => r = some (.int (if k = 0 then nI (homeT (sP σ) (sN σ)) else if k = 1 then nI (sumP (sP σ) (sN σ)) else if k = 2 then nI (cntB (sS σ)) else nI z)) ∧ RM μ' a ∧ FrX μ μ') := by
                      intro v hv
                      refine V_istore6 (pc := 135) dX8_yearsNow_135 (by decide) rfl ?_
                      refine V_aload_n (pc := 137) dX8_yearsNow_137 rfl rfl ?_
                      refine V_iload (pc := 138) dX8_yearsNow_138 rfl ?_
                      refine V_putI (pc := 140) (ci := 8) (j := 11) dX8_yearsNow_140 fl_X8_132 (fun _ _ _ _ _ => rfl) rfl rfl (by decide) rfl ?_
                      refine V_iconst (pc := 143) (v := 0) dX8_yearsNow_143 (by decide) ?_
                      refine V_istore7 (pc := 144) dX8_yearsNow_144 (by decide) rfl ?_
                      have loopD : ∀ (nD r : Nat) (μ3 : Mm), r ≤ 6 → 6 < r + nD → (FrY μ1 μ3) → (μ3.1 65 11 = nI (sS (aS a))) → (∀ j, j < r → μ3.1 69 j = μ1.1 82 j) → V l g RX8 cX8_yearsNow 8 (some .int) 3 146 [.ref 65, .int (nI n), .int (nI x), .int (nI k), .int (nI (sS (aS a))), .int u, .int v, .int (nI r)] [] μ3 (fun r μ' => r = some (.int (if k = 0 then nI (homeT (sP σ) (sN σ)) else if k = 1 then nI (sumP (sP σ) (sN σ)) else if k = 2 then nI (cntB (sS σ)) else nI z)) ∧ RM μ' a ∧ FrX μ μ') := by
                        intro nD
                        induction nD with
                        | zero => intro r μ3 h1 h2; exact absurd h2 (by omega)
                        | succ nD ihD =>
                          intro r μ3 hleD hfuD hF3 g11 g69
                          refine V_iload (pc := 146) dX8_yearsNow_146 rfl ?_
                          refine V_bipush (pc := 148) (v := 6) dX8_yearsNow_148 (by decide) ?_
                          refine V_icmpge (pc := 150) (tgt := 173) dX8_yearsNow_150 (by decide) (fun h150 => ?_) (fun h150 => ?_)
                          · have h150 := (nI_leI (a := 6) (b := r) (by decide) (by omega)).mp h150; obtain rfl : r = 6 := by omega
                            refine V_iload (pc := 173) dX8_yearsNow_173 rfl ?_
                            refine V_iret (pc := 175) dX8_yearsNow_175 rfl ?_
                            refine ⟨by rw [hv], ?_, hX1.tr hF3.X⟩
                            exact hM1.yr (σ := aS a) hF3 g11 (fun j hj => by rw [g69 j (by omega), h82 j (by omega)]; exact (m6 j hj).2.1)
                          have hlt : r < 6 := nI_l3 (a := 6) (by decide) (by omega) h150
                          refine V_aload_n (pc := 153) dX8_yearsNow_153 rfl rfl ?_
                          refine V_getR (pc := 154) (ci := 8) (j := 7) (k2 := 69) dX8_yearsNow_154 fl_X8_19 (fun _ _ _ _ => rfl) (by decide) rfl (rf_8_7 rfl) ?_
                          refine V_iload (pc := 157) dX8_yearsNow_157 rfl ?_
                          refine V_aload_n (pc := 159) dX8_yearsNow_159 rfl rfl ?_
                          refine V_getR (pc := 160) (ci := 8) (j := 31) (k2 := 82) dX8_yearsNow_160 fl_X8_65 (fun _ _ _ _ => rfl) (by decide) rfl (rf_8_31 rfl) ?_
                          refine V_iload (pc := 163) dX8_yearsNow_163 rfl ?_
                          refine V_iald (pc := 165) (j := r) dX8_yearsNow_165 (by decide) rfl rfl (by show r < 6; omega) ?_
                          refine V_iast (pc := 166) (j := r) dX8_yearsNow_166 (by decide) rfl rfl (by show r < 6; omega) ?_
                          refine V_iinc7 (pc := 167) (v := nI (r + 1)) dX8_yearsNow_167 (nI_1 r) (by decide) rfl ?_
                          refine V_goto (pc := 170) (tgt := 146) dX8_yearsNow_170 (by decide) ?_
                          refine ihD (r + 1) _ (by omega) (by omega) (hF3.set (by omega)) (by rw [get_ne (by omega)]; exact g11) (fun j hj => ?_)
                          by_cases e : j = r
                          · subst e; rw [get_eq, hF3.1 82 (by omega) (by omega) (by omega)]
                          · rw [get_ne (by omega)]; exact g69 j (by omega)
                      exact loopD (6 + 1) 0 _ (by omega) (by omega) (y1.set (by omega)) get_eq (fun j hj => absurd hj (Nat.not_lt_zero j))
                    refine V_iload_n (pc := 94) dX8_yearsNow_94 rfl rfl ?_
                    refine V_ifne (pc := 95) (tgt := 105) dX8_yearsNow_95 (by decide) (fun h95 => ?_) (fun h95 => ?_)
                    · have h95 := mt (nI_eq (a := k) (b := 0) (by omega) (by decide)).mpr h95
                      refine V_iload_n (pc := 105) dX8_yearsNow_105 rfl rfl ?_
                      refine V_iconst (pc := 106) (v := 1) dX8_yearsNow_106 (by decide) ?_
                      refine V_icmpne (pc := 107) (tgt := 115) dX8_yearsNow_107 (by decide) (fun h107 => ?_) (fun h107 => ?_)
                      · have h107 := mt (nI_eq (a := k) (b := 1) (by omega) (by omega)).mpr h107
                        refine V_iload_n (pc := 115) dX8_yearsNow_115 rfl rfl ?_
                        refine V_iconst (pc := 116) (v := 2) dX8_yearsNow_116 (by decide) ?_
                        refine V_icmpne (pc := 117) (tgt := 130) dX8_yearsNow_117 (by decide) (fun h117 => ?_) (fun h117 => ?_)
                        · have h117 := mt (nI_eq (a := k) (b := 2) (by omega) (by omega)).mpr h117
                          refine V_aload_n (pc := 130) dX8_yearsNow_130 rfl rfl ?_
                          refine V_getL (pc := 131) (ci := 8) (j := 30) dX8_yearsNow_131 fl_X8_251 (fun _ _ _ _ => rfl) (by decide) rfl ?_
                          rw [y4]
                          refine V_l2i (pc := 134) dX8_yearsNow_134 ?_
                          first
                          | exact J135 _ (by rw [if_pos h95])
                          | exact J135 _ (by rw [if_neg h95, if_pos h107]; exact hu)
                          | exact J135 _ (by rw [if_neg h95, if_neg h107, if_pos h117])
                          | exact J135 _ (by rw [if_neg h95, if_neg h107, if_neg h117]; exact lN_i z)
                        have h117 := (nI_eq (a := k) (b := 2) (by omega) (by omega)).mp h117
                        refine V_aload_n (pc := 120) dX8_yearsNow_120 rfl rfl ?_
                        refine V_getI (pc := 121) (ci := 8) (j := 11) dX8_yearsNow_121 fl_X8_132 (fun _ _ _ _ => rfl) (by decide) rfl ?_
                        rw [y2]
                        refine V_ins1 (pc := 124) dX8_yearsNow_124 ml_X8_174 (by first | decide | omega) (Nat.le_of_ble_eq_true rfl) (c_X8_size μ2 y8) ?_
                        rintro _ μ2 ⟨rfl, hμ⟩
                        obtain rfl := hμ.symm
                        refine V_goto (pc := 127) (tgt := 135) dX8_yearsNow_127 (by decide) ?_
                        first
                        | exact J135 _ (by rw [if_pos h95])
                        | exact J135 _ (by rw [if_neg h95, if_pos h107]; exact hu)
                        | exact J135 _ (by rw [if_neg h95, if_neg h107, if_pos h117])
                        | exact J135 _ (by rw [if_neg h95, if_neg h107, if_neg h117]; exact lN_i z)
                      have h107 := (nI_eq (a := k) (b := 1) (by omega) (by omega)).mp h107
                      refine V_iload (pc := 110) dX8_yearsNow_110 rfl ?_
                      refine V_goto (pc := 112) (tgt := 135) dX8_yearsNow_112 (by decide) ?_
                      first
                      | exact J135 _ (by rw [if_pos h95])
                      | exact J135 _ (by rw [if_neg h95, if_pos h107]; exact hu)
                      | exact J135 _ (by rw [if_neg h95, if_neg h107, if_pos h117])
                      | exact J135 _ (by rw [if_neg h95, if_neg h107, if_neg h117]; exact lN_i z)
                    have h95 := (nI_eq (a := k) (b := 0) (by omega) (by decide)).mp h95
                    refine V_aload_n (pc := 98) dX8_yearsNow_98 rfl rfl ?_
                    refine V_inv0 (pc := 99) (ci := 8) dX8_yearsNow_99 ml_X8_170 (by decide) rfl ⟨by decide, rfl⟩ (by first | decide | omega) (Nat.le_of_ble_eq_true rfl) (c_X8_homeMany (a := setA a (yS (aS a) σ)) μ2 hO2 hM2) ?_
                    rintro _ μ3 ⟨rfl, hμ⟩
                    obtain rfl := hμ.symm
                    rw [show homeT (sP (aS (setA a (yS (aS a) σ)))) (sN (aS (setA a (yS (aS a) σ)))) = homeT (sP σ) (sN σ) from by rw [y6e]; rfl]
                    refine V_goto (pc := 102) (tgt := 135) dX8_yearsNow_102 (by decide) ?_
                    first
                    | exact J135 _ (by rw [if_pos h95])
                    | exact J135 _ (by rw [if_neg h95, if_pos h107]; exact hu)
                    | exact J135 _ (by rw [if_neg h95, if_neg h107, if_pos h117])
                    | exact J135 _ (by rw [if_neg h95, if_neg h107, if_neg h117]; exact lN_i z)
                  have e5 : μ2.1 65 5 = nI (sN (aS a)) := (by rw [y1.2.1 5 (by omega)]; exact hM1.2.2.2.2.1); rw [e5, nI_leI (by omega) (by omega)] at h73; have hlt : m < sN (aS a) := (by omega)
                  refine V_iload (pc := 76) dX8_yearsNow_76 rfl ?_
                  refine V_aload_n (pc := 78) dX8_yearsNow_78 rfl rfl ?_
                  refine V_getR (pc := 79) (ci := 8) (j := 7) (k2 := 69) dX8_yearsNow_79 fl_X8_19 (fun _ _ _ _ => rfl) (by decide) rfl (rf_8_7 rfl) ?_
                  refine V_iload (pc := 82) dX8_yearsNow_82 rfl ?_
                  refine V_iald (pc := 84) (j := m) dX8_yearsNow_84 (by decide) rfl rfl (by show m < 6; omega) ?_
                  rw [y3 m hlt]
                  refine V_iadd (pc := 85) dX8_yearsNow_85 ?_
                  refine V_istore5 (pc := 86) dX8_yearsNow_86 (by decide) rfl ?_
                  refine V_iinc6 (pc := 88) (v := nI (m + 1)) dX8_yearsNow_88 (nI_1 m) (by decide) rfl ?_
                  refine V_goto (pc := 91) (tgt := 67) dX8_yearsNow_91 (by decide) ?_
                  exact ihC (m + 1) _ _ (by omega) (by omega) (by rw [hu, nI_add]; rfl)
              exact loopC (sN (aS a) + 1) 0 _ _ (by omega) (by omega) rfl
            rw [nI_leI (by omega) (by omega)] at h48; have hlt : d < n := by omega
            refine V_aload_n (pc := 51) dX8_yearsNow_51 rfl rfl ?_
            refine V_inv0 (pc := 52) (ci := 8) dX8_yearsNow_52 ml_X8_267 (by decide) rfl ⟨by decide, rfl⟩ (by first | decide | omega) (Nat.le_of_ble_eq_true rfl) (c_X8_goYearDay μ2 hO hM1 hnb hY) ?_
            rintro _ μ3 ⟨rfl, hY3⟩
            refine V_iinc5 (pc := 55) (v := nI (d + 1)) dX8_yearsNow_55 (nI_1 d) (by decide) rfl ?_
            refine V_goto (pc := 58) (tgt := 45) dX8_yearsNow_58 (by decide) ?_
            exact ihB (d + 1) _ _ _ (by omega) (by omega) hY3
        exact loopB (n + 1) 0 _ _ _ (by omega) (by omega) hY0
      have hlt : i < 6 := nI_l3 (a := 6) (by decide) (by omega) h7
      refine V_aload_n (pc := 10) dX8_yearsNow_10 rfl rfl ?_
      refine V_getR (pc := 11) (ci := 8) (j := 31) (k2 := 82) dX8_yearsNow_11 fl_X8_65 (fun _ _ _ _ => rfl) (by decide) rfl (rf_8_31 rfl) ?_
      refine V_iload (pc := 14) dX8_yearsNow_14 rfl ?_
      refine V_aload_n (pc := 16) dX8_yearsNow_16 rfl rfl ?_
      refine V_getR (pc := 17) (ci := 8) (j := 7) (k2 := 69) dX8_yearsNow_17 fl_X8_19 (fun _ _ _ _ => rfl) (by decide) rfl (rf_8_7 rfl) ?_
      refine V_iload (pc := 20) dX8_yearsNow_20 rfl ?_
      refine V_iald (pc := 22) (j := i) dX8_yearsNow_22 (by decide) rfl rfl (by show i < 6; omega) ?_
      refine V_iast (pc := 23) (j := i) dX8_yearsNow_23 (by decide) rfl rfl (by show i < 6; omega) ?_
      refine V_iinc4 (pc := 24) (v := nI (i + 1)) dX8_yearsNow_24 (nI_1 i) (by decide) rfl ?_
      refine V_goto (pc := 27) (tgt := 3) dX8_yearsNow_27 (by decide) ?_
      refine ihA (i + 1) _ (by omega) (by omega) (fun c hc => ?_) hz (fun j hj => ?_)
      · show up2 _ _ _ _ c = _
        rw [up2_ne hc]; exact hE c hc
      · by_cases e : j = i
        · subst e; rw [get_eq, hE 69 (by omega)]
        · rw [get_ne (by omega)]; exact h82 j (by omega)
  exact loopA (6 + 1) 0 _ (by omega) (by omega) (fun _ _ => rfl) rfl (fun j hj => absurd hj (Nat.not_lt_zero j))
theorem dX8_years_0 : decode cX8_years 0 = .ok (.iload_n 1, 1) := by decide +kernel
theorem dX8_years_1 : decode cX8_years 1 = .ok (.iconst 1, 1) := by decide +kernel
theorem dX8_years_2 : decode cX8_years 2 = .ok (.bipush 60, 2) := by decide +kernel
theorem dX8_years_4 : decode cX8_years 4 = .ok (.invokestatic 88, 3) := by decide +kernel
theorem dX8_years_7 : decode cX8_years 7 = .ok (.ifCond .eq 16, 3) := by decide +kernel
theorem dX8_years_10 : decode cX8_years 10 = .ok (.iload_n 2, 1) := by decide +kernel
theorem dX8_years_11 : decode cX8_years 11 = .ok (.ifCond .lt 12, 3) := by decide +kernel
theorem dX8_years_14 : decode cX8_years 14 = .ok (.iload_n 3, 1) := by decide +kernel
theorem dX8_years_15 : decode cX8_years 15 = .ok (.iconst 0, 1) := by decide +kernel
theorem dX8_years_16 : decode cX8_years 16 = .ok (.iconst 3, 1) := by decide +kernel
theorem dX8_years_17 : decode cX8_years 17 = .ok (.invokestatic 88, 3) := by decide +kernel
theorem dX8_years_20 : decode cX8_years 20 = .ok (.ifCond .ne 6, 3) := by decide +kernel
theorem dX8_years_23 : decode cX8_years 23 = .ok (.bipush (-102), 2) := by decide +kernel
theorem dX8_years_25 : decode cX8_years 25 = .ok (.ireturn, 1) := by decide +kernel
theorem dX8_years_26 : decode cX8_years 26 = .ok (.aload_n 0, 1) := by decide +kernel
theorem dX8_years_27 : decode cX8_years 27 = .ok (.getfield 123, 3) := by decide +kernel
theorem dX8_years_30 : decode cX8_years 30 = .ok (.ifCond .eq 13, 3) := by decide +kernel
theorem dX8_years_33 : decode cX8_years 33 = .ok (.aload_n 0, 1) := by decide +kernel
theorem dX8_years_34 : decode cX8_years 34 = .ok (.iload_n 1, 1) := by decide +kernel
theorem dX8_years_35 : decode cX8_years 35 = .ok (.iload_n 2, 1) := by decide +kernel
theorem dX8_years_36 : decode cX8_years 36 = .ok (.iload_n 3, 1) := by decide +kernel
theorem dX8_years_37 : decode cX8_years 37 = .ok (.invokevirtual 270, 3) := by decide +kernel
theorem dX8_years_40 : decode cX8_years 40 = .ok (.goto 5, 3) := by decide +kernel
theorem dX8_years_43 : decode cX8_years 43 = .ok (.bipush (-103), 2) := by decide +kernel
theorem dX8_years_45 : decode cX8_years 45 = .ok (.ireturn, 1) := by decide +kernel
set_option maxHeartbeats 4000000 in
set_option maxRecDepth 100000 in
theorem c_X8_years {l : Launch} {g : GW} {a : AT} {x y z : Int32} (μ : Mm) (hO : AOK a) (hM : RM μ a)  : Con l g yX8_years cX8_years 4 (some .int) 4 [.ref 65, .int x, .int y, .int z] μ (fun r μ' => r = some (.int (fYears a x y z)) ∧ RM μ' a ∧ FrX μ μ') := by
  obtain ⟨m1, m2, m3, m4, m5, m6, m7, m8, m9, m10, m11, m12, m13⟩ := id hM
  obtain ⟨o1, o2, o3, o4, o5, ⟨s1, s2, s3, s4⟩, oK, o8, o9, o10⟩ := id hO
  refine Con.of [.ref 65, .int x, .int y, .int z] 0 (by decide +kernel) (Nat.le_of_ble_eq_true rfl) rfl ?_
  refine V_iload_n (pc := 0) dX8_years_0 rfl rfl ?_
  refine V_iconst (pc := 1) (v := 1) dX8_years_1 (by decide) ?_
  refine V_bipush (pc := 2) (v := 60) dX8_years_2 (by decide) ?_
  refine V_ins3 (pc := 4) dX8_years_4 ml_X8_88 (by first | decide | omega) (Nat.le_of_ble_eq_true rfl) (c_X8_within μ) ?_
  rintro _ μ2 ⟨rfl, hμ⟩
  obtain rfl := hμ.symm
  rw [inW_D (n := 60) (by decide)]
  refine V_ifeq (pc := 7) (tgt := 23) dX8_years_7 (by decide) (fun h7 => ?_) (fun h7 => ?_)
  · have h7 := bI_e h7; have e : (inD x 60 && decide (¬ y < 0) && inN z 4) = false := by rw [h7]; rfl
    refine V_bipush (pc := 23) (v := (-102)) dX8_years_23 (by decide) ?_
    refine V_iret (pc := 25) dX8_years_25 rfl ?_
    exact ⟨congrArg (fun z => some (Value.int z)) (by unfold fYears; rw [e]; rfl), hM, FrX.rf⟩
  have h7 := bI_ne h7
  refine V_iload_n (pc := 10) dX8_years_10 rfl rfl ?_
  refine V_iflt (pc := 11) (tgt := 23) dX8_years_11 (by decide) (fun h11 => ?_) (fun h11 => ?_)
  · have e : (inD x 60 && decide (¬ y < 0) && inN z 4) = false := by rw [h7, decide_eq_false (show ¬ ¬ y < 0 from fun q => q h11)]; rfl
    refine V_bipush (pc := 23) (v := (-102)) dX8_years_23 (by decide) ?_
    refine V_iret (pc := 25) dX8_years_25 rfl ?_
    exact ⟨congrArg (fun z => some (Value.int z)) (by unfold fYears; rw [e]; rfl), hM, FrX.rf⟩
  refine V_iload_n (pc := 14) dX8_years_14 rfl rfl ?_
  refine V_iconst (pc := 15) (v := 0) dX8_years_15 (by decide) ?_
  refine V_iconst (pc := 16) (v := 3) dX8_years_16 (by decide) ?_
  refine V_ins3 (pc := 17) dX8_years_17 ml_X8_88 (by first | decide | omega) (Nat.le_of_ble_eq_true rfl) (c_X8_within μ) ?_
  rintro _ μ2 ⟨rfl, hμ⟩
  obtain rfl := hμ.symm
  rw [inW_N (n := 4) (by decide)]
  refine V_ifne (pc := 20) (tgt := 26) dX8_years_20 (by decide) (fun h20 => ?_) (fun h20 => ?_)
  · have h20 := bI_ne h20
    obtain ⟨d, hd, rfl⟩ := inD_of (by decide) h7
    obtain ⟨k, hk, rfl⟩ := inN_of (by decide) h20
    obtain ⟨j, hjx, rfl⟩ := nI_of (x := y) h11
    have ey : (decide (¬ nI j < 0)) = true := decide_eq_true h11
    have e0 : fYears a (nI (d + 1)) (nI j) (nI k) = (if 0 < aNb a then (if k = 0 then nI (homeT (sP (yrT (aTn a) (aOw a) (cal0 (aS a)) j (d + 1)).1) (sN (yrT (aTn a) (aOw a) (cal0 (aS a)) j (d + 1)).1)) else if k = 1 then nI (sumP (sP (yrT (aTn a) (aOw a) (cal0 (aS a)) j (d + 1)).1) (sN (yrT (aTn a) (aOw a) (cal0 (aS a)) j (d + 1)).1)) else if k = 2 then nI (cntB (sS (yrT (aTn a) (aOw a) (cal0 (aS a)) j (d + 1)).1)) else nI (yrT (aTn a) (aOw a) (cal0 (aS a)) j (d + 1)).2) else -103) := by
      unfold fYears
      rw [h7, h20, ey, nn_nI (by omega), nn_nI (by omega), nn_nI (by omega)]
      rfl
    rw [e0]
    clear e0
    refine V_aload_n (pc := 26) dX8_years_26 rfl rfl ?_
    refine V_getI (pc := 27) (ci := 8) (j := 0) dX8_years_27 fl_X8_123 (fun _ _ _ _ => rfl) (by decide) rfl ?_
    rw [m1]
    refine V_ifeq (pc := 30) (tgt := 43) dX8_years_30 (by decide) (fun h30 => ?_) (fun h30 => ?_)
    · have h30 := of_decide_eq_false (bI_e h30)
      refine V_bipush (pc := 43) (v := (-103)) dX8_years_43 (by decide) ?_
      refine V_iret (pc := 45) dX8_years_45 rfl ?_
      first
      | exact ⟨by rw [if_pos h30], hM1, hX1⟩
      | exact ⟨by rw [if_neg h30], hM, FrX.rf⟩
    have h30 := of_decide_eq_true (bI_ne h30)
    refine V_aload_n (pc := 33) dX8_years_33 rfl rfl ?_
    refine V_iload_n (pc := 34) dX8_years_34 rfl rfl ?_
    refine V_iload_n (pc := 35) dX8_years_35 rfl rfl ?_
    refine V_iload_n (pc := 36) dX8_years_36 rfl rfl ?_
    refine V_inv3 (pc := 37) (ci := 8) dX8_years_37 ml_X8_270 (by decide) rfl ⟨by decide, rfl⟩ (by first | decide | omega) (Nat.le_of_ble_eq_true rfl) (c_X8_yearsNow μ hO hM h30 hd hjx hk) ?_
    rintro _ μ1 ⟨rfl, hM1, hX1⟩
    refine V_goto (pc := 40) (tgt := 45) dX8_years_40 (by decide) ?_
    refine V_iret (pc := 45) dX8_years_45 rfl ?_
    first
    | exact ⟨by rw [if_pos h30], hM1, hX1⟩
    | exact ⟨by rw [if_neg h30], hM, FrX.rf⟩
  have h20 := bI_e h20; have e : (inD x 60 && decide (¬ y < 0) && inN z 4) = false := by rw [h20]; exact Bool.and_false _
  refine V_bipush (pc := 23) (v := (-102)) dX8_years_23 (by decide) ?_
  refine V_iret (pc := 25) dX8_years_25 rfl ?_
  exact ⟨congrArg (fun z => some (Value.int z)) (by unfold fYears; rw [e]; rfl), hM, FrX.rf⟩
