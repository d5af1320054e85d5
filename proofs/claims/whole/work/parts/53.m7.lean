theorem dX8_isCalledToo_0 : decode cX8_isCalledToo 0 = .ok (.iconst 0, 1) := by decide +kernel
theorem dX8_isCalledToo_1 : decode cX8_isCalledToo 1 = .ok (.istore_n 3, 1) := by decide +kernel
theorem dX8_isCalledToo_2 : decode cX8_isCalledToo 2 = .ok (.iconst 0, 1) := by decide +kernel
theorem dX8_isCalledToo_3 : decode cX8_isCalledToo 3 = .ok (.istore 4, 2) := by decide +kernel
theorem dX8_isCalledToo_5 : decode cX8_isCalledToo 5 = .ok (.iload 4, 2) := by decide +kernel
theorem dX8_isCalledToo_7 : decode cX8_isCalledToo 7 = .ok (.aload_n 0, 1) := by decide +kernel
theorem dX8_isCalledToo_8 : decode cX8_isCalledToo 8 = .ok (.getfield 129, 3) := by decide +kernel
theorem dX8_isCalledToo_11 : decode cX8_isCalledToo 11 = .ok (.if_icmp .ge 47, 3) := by decide +kernel
theorem dX8_isCalledToo_14 : decode cX8_isCalledToo 14 = .ok (.iload_n 3, 1) := by decide +kernel
theorem dX8_isCalledToo_15 : decode cX8_isCalledToo 15 = .ok (.ifCond .ne 31, 3) := by decide +kernel
theorem dX8_isCalledToo_18 : decode cX8_isCalledToo 18 = .ok (.iload 4, 2) := by decide +kernel
theorem dX8_isCalledToo_20 : decode cX8_isCalledToo 20 = .ok (.iload_n 1, 1) := by decide +kernel
theorem dX8_isCalledToo_21 : decode cX8_isCalledToo 21 = .ok (.if_icmp .eq 29, 3) := by decide +kernel
theorem dX8_isCalledToo_24 : decode cX8_isCalledToo 24 = .ok (.aload_n 0, 1) := by decide +kernel
theorem dX8_isCalledToo_25 : decode cX8_isCalledToo 25 = .ok (.getfield 22, 3) := by decide +kernel
theorem dX8_isCalledToo_28 : decode cX8_isCalledToo 28 = .ok (.iload 4, 2) := by decide +kernel
theorem dX8_isCalledToo_30 : decode cX8_isCalledToo 30 = .ok (.iaload, 1) := by decide +kernel
theorem dX8_isCalledToo_31 : decode cX8_isCalledToo 31 = .ok (.iload_n 2, 1) := by decide +kernel
theorem dX8_isCalledToo_32 : decode cX8_isCalledToo 32 = .ok (.if_icmp .ne 18, 3) := by decide +kernel
theorem dX8_isCalledToo_35 : decode cX8_isCalledToo 35 = .ok (.aload_n 0, 1) := by decide +kernel
theorem dX8_isCalledToo_36 : decode cX8_isCalledToo 36 = .ok (.getfield 16, 3) := by decide +kernel
theorem dX8_isCalledToo_39 : decode cX8_isCalledToo 39 = .ok (.iload 4, 2) := by decide +kernel
theorem dX8_isCalledToo_41 : decode cX8_isCalledToo 41 = .ok (.iaload, 1) := by decide +kernel
theorem dX8_isCalledToo_42 : decode cX8_isCalledToo 42 = .ok (.iconst 4, 1) := by decide +kernel
theorem dX8_isCalledToo_43 : decode cX8_isCalledToo 43 = .ok (.if_icmp .eq 7, 3) := by decide +kernel
theorem dX8_isCalledToo_46 : decode cX8_isCalledToo 46 = .ok (.iconst 1, 1) := by decide +kernel
theorem dX8_isCalledToo_47 : decode cX8_isCalledToo 47 = .ok (.goto 4, 3) := by decide +kernel
theorem dX8_isCalledToo_50 : decode cX8_isCalledToo 50 = .ok (.iconst 0, 1) := by decide +kernel
theorem dX8_isCalledToo_51 : decode cX8_isCalledToo 51 = .ok (.istore_n 3, 1) := by decide +kernel
theorem dX8_isCalledToo_52 : decode cX8_isCalledToo 52 = .ok (.iinc 4 1, 3) := by decide +kernel
theorem dX8_isCalledToo_55 : decode cX8_isCalledToo 55 = .ok (.goto (-50), 3) := by decide +kernel
theorem dX8_isCalledToo_58 : decode cX8_isCalledToo 58 = .ok (.iload_n 3, 1) := by decide +kernel
theorem dX8_isCalledToo_59 : decode cX8_isCalledToo 59 = .ok (.ireturn, 1) := by decide +kernel
set_option maxHeartbeats 4000000 in
set_option maxRecDepth 100000 in
theorem c_X8_isCalledToo {l : Launch} {g : GW} {a : AT} {i b : Nat} (μ : Mm) (hO : AOK a) (hM : RM μ a) (hi : i < sN (aS a)) (hb0 : b ≠ 0) (hb : b ≤ 6) : Con l g yX8_isCalledToo cX8_isCalledToo 5 (some .boolean) 0 [.ref 65, .int (nI i), .int (cI b)] μ (fun r μ' => r = some (.int (bI (anyC (wC (aS a) i 0) b (sN (aS a))))) ∧ μ' = μ) := by
  obtain ⟨m1, m2, m3, m4, m5, m6, m7, m8, m9, m10, m11, m12, m13⟩ := id hM
  obtain ⟨o1, o2, o3, o4, o5, ⟨s1, s2, s3, s4⟩, oK, o8, o9, o10⟩ := id hO
  refine Con.of [.ref 65, .int (nI i), .int (cI b), .null, .null] 2 (by decide +kernel) (Nat.le_of_ble_eq_true rfl) rfl ?_
  refine V_iconst (pc := 0) (v := 0) dX8_isCalledToo_0 (by decide) ?_
  refine V_istore3 (pc := 1) dX8_isCalledToo_1 (by decide) rfl ?_
  refine V_iconst (pc := 2) (v := 0) dX8_isCalledToo_2 (by decide) ?_
  refine V_istore4 (pc := 3) dX8_isCalledToo_3 (by decide) rfl ?_
  have loopA : ∀ (nA n : Nat) (u : Int32), n ≤ sN (aS a) → sN (aS a) < n + nA → (u = bI (anyC (wC (aS a) i 0) b n)) → V l g RX8 cX8_isCalledToo 5 (some .boolean) 0 5 [.ref 65, .int (nI i), .int (cI b), .int u, .int (nI n)] [] μ (fun r μ' => r = some (.int (bI (anyC (wC (aS a) i 0) b (sN (aS a))))) ∧ μ' = μ) := by
    intro nA
    induction nA with
    | zero => intro n u h1 h2; exact absurd h2 (by omega)
    | succ nA ihA =>
      intro n u hleA hfuA hu
      refine V_iload (pc := 5) dX8_isCalledToo_5 rfl ?_
      refine V_aload_n (pc := 7) dX8_isCalledToo_7 rfl rfl ?_
      refine V_getI (pc := 8) (ci := 8) (j := 5) dX8_isCalledToo_8 fl_X8_129 (fun _ _ _ _ => rfl) (by decide) rfl ?_
      refine V_icmpge (pc := 11) (tgt := 58) dX8_isCalledToo_11 (by decide) (fun h11 => ?_) (fun h11 => ?_)
      · rw [m5, nI_leI (by omega) (by omega)] at h11; have hn : n = sN (aS a) := (by omega)
        refine V_iload_n (pc := 58) dX8_isCalledToo_58 rfl rfl ?_
        refine V_zret (pc := 59) dX8_isCalledToo_59 rfl (by rw [hu]; exact bI_01 _) ?_
        exact ⟨by rw [hu, hn], rfl⟩
      rw [m5, nI_leI (by omega) (by omega)] at h11; have hlt : n < sN (aS a) := (by omega); obtain ⟨n1, n2, n3, n4, n5⟩ := m6 n hlt; have hok := s4 n (by omega); have hst : anyC (wC (aS a) i 0) b (n + 1) = (anyC (wC (aS a) i 0) b n || (up1 (sC (aS a)) i 0 n == b && sK (aS a) n != 4)) := rfl
      refine V_iload_n (pc := 14) dX8_isCalledToo_14 rfl rfl ?_
      refine V_ifne (pc := 15) (tgt := 46) dX8_isCalledToo_15 (by decide) (fun h15 => ?_) (fun h15 => ?_)
      · rw [hu] at h15; have h15 := bI_ne h15
        refine V_iconst (pc := 46) (v := 1) dX8_isCalledToo_46 (by decide) ?_
        refine V_goto (pc := 47) (tgt := 51) dX8_isCalledToo_47 (by decide) ?_
        refine V_istore3 (pc := 51) dX8_isCalledToo_51 (by decide) rfl ?_
        refine V_iinc4 (pc := 52) (v := nI (n + 1)) dX8_isCalledToo_52 (nI_1 n) (by decide) rfl ?_
        refine V_goto (pc := 55) (tgt := 5) dX8_isCalledToo_55 (by decide) ?_
        refine ihA (n + 1) _ (by omega) (by omega) ?_
        rw [hst]
        first
        | (rw [h15]; rfl)
        | (rw [h15, h21, up1_eq, show (0 == b) = false from by simpa using fun q => hb0 q.symm]; rfl)
        | (rw [h15, up1_ne h21, show (sC (aS a) n == b) = false from by simpa using h32]; rfl)
        | (rw [h15, up1_ne h21, show (sC (aS a) n == b) = true from by simpa using h32, h43]; rfl)
        | (rw [h15, up1_ne h21, show (sC (aS a) n == b) = true from by simpa using h32, show (sK (aS a) n != 4) = true from by simpa using h43]; rfl)
      rw [hu] at h15; have h15 := bI_e h15
      refine V_iload (pc := 18) dX8_isCalledToo_18 rfl ?_
      refine V_iload_n (pc := 20) dX8_isCalledToo_20 rfl rfl ?_
      refine V_icmpeq (pc := 21) (tgt := 50) dX8_isCalledToo_21 (by decide) (fun h21 => ?_) (fun h21 => ?_)
      · have h21 := (nI_eq (a := n) (b := i) (by omega) (by omega)).mp h21
        refine V_iconst (pc := 50) (v := 0) dX8_isCalledToo_50 (by decide) ?_
        refine V_istore3 (pc := 51) dX8_isCalledToo_51 (by decide) rfl ?_
        refine V_iinc4 (pc := 52) (v := nI (n + 1)) dX8_isCalledToo_52 (nI_1 n) (by decide) rfl ?_
        refine V_goto (pc := 55) (tgt := 5) dX8_isCalledToo_55 (by decide) ?_
        refine ihA (n + 1) _ (by omega) (by omega) ?_
        rw [hst]
        first
        | (rw [h15]; rfl)
        | (rw [h15, h21, up1_eq, show (0 == b) = false from by simpa using fun q => hb0 q.symm]; rfl)
        | (rw [h15, up1_ne h21, show (sC (aS a) n == b) = false from by simpa using h32]; rfl)
        | (rw [h15, up1_ne h21, show (sC (aS a) n == b) = true from by simpa using h32, h43]; rfl)
        | (rw [h15, up1_ne h21, show (sC (aS a) n == b) = true from by simpa using h32, show (sK (aS a) n != 4) = true from by simpa using h43]; rfl)
      have h21 := mt (nI_eq (a := n) (b := i) (by omega) (by omega)).mpr h21
      refine V_aload_n (pc := 24) dX8_isCalledToo_24 rfl rfl ?_
      refine V_getR (pc := 25) (ci := 8) (j := 8) (k2 := 70) dX8_isCalledToo_25 fl_X8_22 (fun _ _ _ _ => rfl) (by decide) rfl (rf_8_8 rfl) ?_
      refine V_iload (pc := 28) dX8_isCalledToo_28 rfl ?_
      refine V_iald (pc := 30) (j := n) dX8_isCalledToo_30 (by decide) rfl rfl (by show n < 6; omega) ?_
      rw [n3]
      refine V_iload_n (pc := 31) dX8_isCalledToo_31 rfl rfl ?_
      refine V_icmpne (pc := 32) (tgt := 50) dX8_isCalledToo_32 (by decide) (fun h32 => ?_) (fun h32 => ?_)
      · have h32 := mt (cI_eq (a := sC (aS a) n) (b := b) (by omega) (by omega)).mpr h32
        refine V_iconst (pc := 50) (v := 0) dX8_isCalledToo_50 (by decide) ?_
        refine V_istore3 (pc := 51) dX8_isCalledToo_51 (by decide) rfl ?_
        refine V_iinc4 (pc := 52) (v := nI (n + 1)) dX8_isCalledToo_52 (nI_1 n) (by decide) rfl ?_
        refine V_goto (pc := 55) (tgt := 5) dX8_isCalledToo_55 (by decide) ?_
        refine ihA (n + 1) _ (by omega) (by omega) ?_
        rw [hst]
        first
        | (rw [h15]; rfl)
        | (rw [h15, h21, up1_eq, show (0 == b) = false from by simpa using fun q => hb0 q.symm]; rfl)
        | (rw [h15, up1_ne h21, show (sC (aS a) n == b) = false from by simpa using h32]; rfl)
        | (rw [h15, up1_ne h21, show (sC (aS a) n == b) = true from by simpa using h32, h43]; rfl)
        | (rw [h15, up1_ne h21, show (sC (aS a) n == b) = true from by simpa using h32, show (sK (aS a) n != 4) = true from by simpa using h43]; rfl)
      have h32 := (cI_eq (a := sC (aS a) n) (b := b) (by omega) (by omega)).mp h32
      refine V_aload_n (pc := 35) dX8_isCalledToo_35 rfl rfl ?_
      refine V_getR (pc := 36) (ci := 8) (j := 6) (k2 := 68) dX8_isCalledToo_36 fl_X8_16 (fun _ _ _ _ => rfl) (by decide) rfl (rf_8_6 rfl) ?_
      refine V_iload (pc := 39) dX8_isCalledToo_39 rfl ?_
      refine V_iald (pc := 41) (j := n) dX8_isCalledToo_41 (by decide) rfl rfl (by show n < 6; omega) ?_
      rw [n1]
      refine V_iconst (pc := 42) (v := 4) dX8_isCalledToo_42 (by decide) ?_
      refine V_icmpeq (pc := 43) (tgt := 50) dX8_isCalledToo_43 (by decide) (fun h43 => ?_) (fun h43 => ?_)
      · have h43 := (nI_eq (a := sK (aS a) n) (b := 4) (by omega) (by omega)).mp h43
        refine V_iconst (pc := 50) (v := 0) dX8_isCalledToo_50 (by decide) ?_
        refine V_istore3 (pc := 51) dX8_isCalledToo_51 (by decide) rfl ?_
        refine V_iinc4 (pc := 52) (v := nI (n + 1)) dX8_isCalledToo_52 (nI_1 n) (by decide) rfl ?_
        refine V_goto (pc := 55) (tgt := 5) dX8_isCalledToo_55 (by decide) ?_
        refine ihA (n + 1) _ (by omega) (by omega) ?_
        rw [hst]
        first
        | (rw [h15]; rfl)
        | (rw [h15, h21, up1_eq, show (0 == b) = false from by simpa using fun q => hb0 q.symm]; rfl)
        | (rw [h15, up1_ne h21, show (sC (aS a) n == b) = false from by simpa using h32]; rfl)
        | (rw [h15, up1_ne h21, show (sC (aS a) n == b) = true from by simpa using h32, h43]; rfl)
        | (rw [h15, up1_ne h21, show (sC (aS a) n == b) = true from by simpa using h32, show (sK (aS a) n != 4) = true from by simpa using h43]; rfl)
      have h43 := mt (nI_eq (a := sK (aS a) n) (b := 4) (by omega) (by omega)).mpr h43
      refine V_iconst (pc := 46) (v := 1) dX8_isCalledToo_46 (by decide) ?_
      refine V_goto (pc := 47) (tgt := 51) dX8_isCalledToo_47 (by decide) ?_
      refine V_istore3 (pc := 51) dX8_isCalledToo_51 (by decide) rfl ?_
      refine V_iinc4 (pc := 52) (v := nI (n + 1)) dX8_isCalledToo_52 (nI_1 n) (by decide) rfl ?_
      refine V_goto (pc := 55) (tgt := 5) dX8_isCalledToo_55 (by decide) ?_
      refine ihA (n + 1) _ (by omega) (by omega) ?_
      rw [hst]
      first
      | (rw [h15]; rfl)
      | (rw [h15, h21, up1_eq, show (0 == b) = false from by simpa using fun q => hb0 q.symm]; rfl)
      | (rw [h15, up1_ne h21, show (sC (aS a) n == b) = false from by simpa using h32]; rfl)
      | (rw [h15, up1_ne h21, show (sC (aS a) n == b) = true from by simpa using h32, h43]; rfl)
      | (rw [h15, up1_ne h21, show (sC (aS a) n == b) = true from by simpa using h32, show (sK (aS a) n != 4) = true from by simpa using h43]; rfl)
  exact loopA (sN (aS a) + 1) 0 _ (by omega) (by omega) rfl
theorem dX8_call_0 : decode cX8_call 0 = .ok (.aload_n 0, 1) := by decide +kernel
theorem dX8_call_1 : decode cX8_call 1 = .ok (.iload_n 1, 1) := by decide +kernel
theorem dX8_call_2 : decode cX8_call 2 = .ok (.invokevirtual 150, 3) := by decide +kernel
theorem dX8_call_5 : decode cX8_call 5 = .ok (.ifCond .eq 15, 3) := by decide +kernel
theorem dX8_call_8 : decode cX8_call 8 = .ok (.iload_n 2, 1) := by decide +kernel
theorem dX8_call_9 : decode cX8_call 9 = .ok (.iconst (-1), 1) := by decide +kernel
theorem dX8_call_10 : decode cX8_call 10 = .ok (.if_icmp .eq 13, 3) := by decide +kernel
theorem dX8_call_13 : decode cX8_call 13 = .ok (.iload_n 2, 1) := by decide +kernel
theorem dX8_call_14 : decode cX8_call 14 = .ok (.invokestatic 144, 3) := by decide +kernel
theorem dX8_call_17 : decode cX8_call 17 = .ok (.ifCond .ne 6, 3) := by decide +kernel
theorem dX8_call_20 : decode cX8_call 20 = .ok (.bipush (-101), 2) := by decide +kernel
theorem dX8_call_22 : decode cX8_call 22 = .ok (.ireturn, 1) := by decide +kernel
theorem dX8_call_23 : decode cX8_call 23 = .ok (.aload_n 0, 1) := by decide +kernel
theorem dX8_call_24 : decode cX8_call 24 = .ok (.getfield 19, 3) := by decide +kernel
theorem dX8_call_27 : decode cX8_call 27 = .ok (.iload_n 1, 1) := by decide +kernel
theorem dX8_call_28 : decode cX8_call 28 = .ok (.iaload, 1) := by decide +kernel
theorem dX8_call_29 : decode cX8_call 29 = .ok (.bipush 9, 2) := by decide +kernel
theorem dX8_call_31 : decode cX8_call 31 = .ok (.if_icmp .eq 19, 3) := by decide +kernel
theorem dX8_call_34 : decode cX8_call 34 = .ok (.iload_n 2, 1) := by decide +kernel
theorem dX8_call_35 : decode cX8_call 35 = .ok (.iconst (-1), 1) := by decide +kernel
theorem dX8_call_36 : decode cX8_call 36 = .ok (.if_icmp .eq 17, 3) := by decide +kernel
theorem dX8_call_39 : decode cX8_call 39 = .ok (.aload_n 0, 1) := by decide +kernel
theorem dX8_call_40 : decode cX8_call 40 = .ok (.getfield 132, 3) := by decide +kernel
theorem dX8_call_43 : decode cX8_call 43 = .ok (.iload_n 2, 1) := by decide +kernel
theorem dX8_call_44 : decode cX8_call 44 = .ok (.invokestatic 156, 3) := by decide +kernel
theorem dX8_call_47 : decode cX8_call 47 = .ok (.ifCond .eq 6, 3) := by decide +kernel
theorem dX8_call_50 : decode cX8_call 50 = .ok (.bipush (-103), 2) := by decide +kernel
theorem dX8_call_52 : decode cX8_call 52 = .ok (.ireturn, 1) := by decide +kernel
theorem dX8_call_53 : decode cX8_call 53 = .ok (.aload_n 0, 1) := by decide +kernel
theorem dX8_call_54 : decode cX8_call 54 = .ok (.getfield 22, 3) := by decide +kernel
theorem dX8_call_57 : decode cX8_call 57 = .ok (.iload_n 1, 1) := by decide +kernel
theorem dX8_call_58 : decode cX8_call 58 = .ok (.iaload, 1) := by decide +kernel
theorem dX8_call_59 : decode cX8_call 59 = .ok (.istore_n 3, 1) := by decide +kernel
theorem dX8_call_60 : decode cX8_call 60 = .ok (.aload_n 0, 1) := by decide +kernel
theorem dX8_call_61 : decode cX8_call 61 = .ok (.getfield 16, 3) := by decide +kernel
theorem dX8_call_64 : decode cX8_call 64 = .ok (.iload_n 1, 1) := by decide +kernel
theorem dX8_call_65 : decode cX8_call 65 = .ok (.iaload, 1) := by decide +kernel
theorem dX8_call_66 : decode cX8_call 66 = .ok (.iconst 4, 1) := by decide +kernel
theorem dX8_call_67 : decode cX8_call 67 = .ok (.if_icmp .eq 7, 3) := by decide +kernel
theorem dX8_call_70 : decode cX8_call 70 = .ok (.iconst 1, 1) := by decide +kernel
theorem dX8_call_71 : decode cX8_call 71 = .ok (.goto 4, 3) := by decide +kernel
theorem dX8_call_74 : decode cX8_call 74 = .ok (.iconst 0, 1) := by decide +kernel
theorem dX8_call_75 : decode cX8_call 75 = .ok (.istore 4, 2) := by decide +kernel
theorem dX8_call_77 : decode cX8_call 77 = .ok (.aload_n 0, 1) := by decide +kernel
theorem dX8_call_78 : decode cX8_call 78 = .ok (.iload_n 3, 1) := by decide +kernel
theorem dX8_call_79 : decode cX8_call 79 = .ok (.iconst (-1), 1) := by decide +kernel
theorem dX8_call_80 : decode cX8_call 80 = .ok (.if_icmp .eq 30, 3) := by decide +kernel
theorem dX8_call_83 : decode cX8_call 83 = .ok (.iload 4, 2) := by decide +kernel
theorem dX8_call_85 : decode cX8_call 85 = .ok (.ifCond .eq 25, 3) := by decide +kernel
theorem dX8_call_88 : decode cX8_call 88 = .ok (.aload_n 0, 1) := by decide +kernel
theorem dX8_call_89 : decode cX8_call 89 = .ok (.iload_n 1, 1) := by decide +kernel
theorem dX8_call_90 : decode cX8_call 90 = .ok (.iload_n 3, 1) := by decide +kernel
theorem dX8_call_91 : decode cX8_call 91 = .ok (.invokevirtual 159, 3) := by decide +kernel
theorem dX8_call_94 : decode cX8_call 94 = .ok (.ifCond .ne 16, 3) := by decide +kernel
theorem dX8_call_97 : decode cX8_call 97 = .ok (.aload_n 0, 1) := by decide +kernel
theorem dX8_call_98 : decode cX8_call 98 = .ok (.getfield 132, 3) := by decide +kernel
theorem dX8_call_101 : decode cX8_call 101 = .ok (.iconst 1, 1) := by decide +kernel
theorem dX8_call_102 : decode cX8_call 102 = .ok (.iload_n 3, 1) := by decide +kernel
theorem dX8_call_103 : decode cX8_call 103 = .ok (.ishl, 1) := by decide +kernel
theorem dX8_call_104 : decode cX8_call 104 = .ok (.iconst (-1), 1) := by decide +kernel
theorem dX8_call_105 : decode cX8_call 105 = .ok (.ixor, 1) := by decide +kernel
theorem dX8_call_106 : decode cX8_call 106 = .ok (.iand, 1) := by decide +kernel
theorem dX8_call_107 : decode cX8_call 107 = .ok (.goto 7, 3) := by decide +kernel
theorem dX8_call_110 : decode cX8_call 110 = .ok (.aload_n 0, 1) := by decide +kernel
theorem dX8_call_111 : decode cX8_call 111 = .ok (.getfield 132, 3) := by decide +kernel
theorem dX8_call_114 : decode cX8_call 114 = .ok (.putfield 132, 3) := by decide +kernel
theorem dX8_call_117 : decode cX8_call 117 = .ok (.aload_n 0, 1) := by decide +kernel
theorem dX8_call_118 : decode cX8_call 118 = .ok (.iload_n 2, 1) := by decide +kernel
theorem dX8_call_119 : decode cX8_call 119 = .ok (.iconst (-1), 1) := by decide +kernel
theorem dX8_call_120 : decode cX8_call 120 = .ok (.if_icmp .eq 19, 3) := by decide +kernel
theorem dX8_call_123 : decode cX8_call 123 = .ok (.iload 4, 2) := by decide +kernel
theorem dX8_call_125 : decode cX8_call 125 = .ok (.ifCond .eq 14, 3) := by decide +kernel
theorem dX8_call_128 : decode cX8_call 128 = .ok (.aload_n 0, 1) := by decide +kernel
theorem dX8_call_129 : decode cX8_call 129 = .ok (.getfield 132, 3) := by decide +kernel
theorem dX8_call_132 : decode cX8_call 132 = .ok (.iconst 1, 1) := by decide +kernel
theorem dX8_call_133 : decode cX8_call 133 = .ok (.iload_n 2, 1) := by decide +kernel
theorem dX8_call_134 : decode cX8_call 134 = .ok (.ishl, 1) := by decide +kernel
theorem dX8_call_135 : decode cX8_call 135 = .ok (.ior, 1) := by decide +kernel
theorem dX8_call_136 : decode cX8_call 136 = .ok (.goto 7, 3) := by decide +kernel
theorem dX8_call_139 : decode cX8_call 139 = .ok (.aload_n 0, 1) := by decide +kernel
theorem dX8_call_140 : decode cX8_call 140 = .ok (.getfield 132, 3) := by decide +kernel
theorem dX8_call_143 : decode cX8_call 143 = .ok (.putfield 132, 3) := by decide +kernel
theorem dX8_call_146 : decode cX8_call 146 = .ok (.aload_n 0, 1) := by decide +kernel
theorem dX8_call_147 : decode cX8_call 147 = .ok (.getfield 22, 3) := by decide +kernel
theorem dX8_call_150 : decode cX8_call 150 = .ok (.iload_n 1, 1) := by decide +kernel
theorem dX8_call_151 : decode cX8_call 151 = .ok (.iload_n 2, 1) := by decide +kernel
theorem dX8_call_152 : decode cX8_call 152 = .ok (.iastore, 1) := by decide +kernel
theorem dX8_call_153 : decode cX8_call 153 = .ok (.iload_n 3, 1) := by decide +kernel
theorem dX8_call_154 : decode cX8_call 154 = .ok (.ireturn, 1) := by decide +kernel
set_option maxHeartbeats 4000000 in
set_option maxRecDepth 100000 in
theorem c_X8_call {l : Launch} {g : GW} {a : AT} {x y : Int32} (μ : Mm) (hO : AOK a) (hM : RM μ a) (hJ : AJ a) : Con l g yX8_call cX8_call 5 (some .int) 2 [.ref 65, .int x, .int y] μ (fun r μ' => r = some (.int (fCall a x y).1) ∧ RM μ' (fCall a x y).2 ∧ FrX μ μ') := by
  obtain ⟨m1, m2, m3, m4, m5, m6, m7, m8, m9, m10, m11, m12, m13⟩ := id hM
  obtain ⟨o1, o2, o3, o4, o5, ⟨s1, s2, s3, s4⟩, oK, o8, o9, o10⟩ := id hO
  refine Con.of [.ref 65, .int x, .int y, .null, .null] 2 (by decide +kernel) (Nat.le_of_ble_eq_true rfl) rfl ?_
  refine V_aload_n (pc := 0) dX8_call_0 rfl rfl ?_
  refine V_iload_n (pc := 1) dX8_call_1 rfl rfl ?_
  refine V_inv1 (pc := 2) (ci := 8) dX8_call_2 ml_X8_150 (by decide) rfl ⟨by decide, rfl⟩ (by first | decide | omega) (Nat.le_of_ble_eq_true rfl) (c_X8_isShip μ hO hM) ?_
  rintro _ μ2 ⟨rfl, hμ⟩
  obtain rfl := hμ.symm
  refine V_ifeq (pc := 5) (tgt := 20) dX8_call_5 (by decide) (fun h5 => ?_) (fun h5 => ?_)
  · have h5 := bI_e h5
    refine V_bipush (pc := 20) (v := (-101)) dX8_call_20 (by decide) ?_
    refine V_iret (pc := 22) dX8_call_22 rfl ?_
    rw [show fCall a x y = (-101, a) from by unfold fCall; first | (rw [h5]; rfl) | (rw [h5, h17, decide_eq_false h10]; rfl)]
    exact ⟨rfl, hM, FrX.rf⟩
  have h5 := bI_ne h5
  refine V_iload_n (pc := 8) dX8_call_8 rfl rfl ?_
  refine V_iconst (pc := 9) (v := (-1)) dX8_call_9 (by decide) ?_
  refine V_icmpeq (pc := 10) (tgt := 23) dX8_call_10 (by decide) (fun h10 => ?_) (fun h10 => ?_)
  · have hy : (decide (y = -1) || inN y 6) = true := by
      first
      | (rw [h17, Bool.or_true]; done)
      | (rw [decide_eq_true h10]; rfl)
    obtain ⟨c, hc6, hcy, rfl⟩ : ∃ c, c ≤ 6 ∧ cCode y = c ∧ y = cI c := by
      by_cases q : y = -1
      · exact ⟨0, by omega, if_pos q, q⟩
      · rw [decide_eq_false q] at hy
        obtain ⟨j, hj, rfl⟩ := inN_of (n := 6) (by decide) hy
        exact ⟨j + 1, by omega, by unfold cCode; rw [if_neg q, nn_nI (by omega)], (cI_s j).symm⟩
    have hx := h5
    obtain ⟨i, hi, rfl⟩ := inN_of (by omega) h5
    obtain ⟨n1, n2, n3, n4, n5⟩ := m6 i hi
    obtain ⟨k4, p9, c6⟩ := s4 i (by omega)
    have ef : fCall a (nI i) (cI c) = if sP (aS a) i = 9 ∨ (c ≠ 0 ∧ (sS (aS a)).testBit (c - 1) = true) then (-103, a) else (cI (sC (aS a) i), setA a (wS (wC (aS a) i c) (refS (aS a) i c))) := by
      unfold fCall
      rw [hx, hy, nn_nI (by omega), hcy, repC_ref hJ hi]
      simp only [Bool.and_self, if_true]
      by_cases q : c = 0
      · rw [q, cI_0]; simp
      · have q2 : ¬ cI c = -1 := fun e => q ((cI_m1 (by omega)).mp e)
        have q3 : nn (cI c) = c - 1 := by
          obtain ⟨j, rfl⟩ : ∃ j, c = j + 1 := ⟨c - 1, by omega⟩
          rw [cI_s, nn_nI (by omega)]; rfl
        simp [q, q2, q3]
    rw [ef]
    clear ef
    refine V_aload_n (pc := 23) dX8_call_23 rfl rfl ?_
    refine V_getR (pc := 24) (ci := 8) (j := 7) (k2 := 69) dX8_call_24 fl_X8_19 (fun _ _ _ _ => rfl) (by decide) rfl (rf_8_7 rfl) ?_
    refine V_iload_n (pc := 27) dX8_call_27 rfl rfl ?_
    refine V_iald (pc := 28) (j := i) dX8_call_28 (by decide) rfl rfl (by show i < 6; omega) ?_
    rw [n2]
    refine V_bipush (pc := 29) (v := 9) dX8_call_29 (by decide) ?_
    refine V_icmpeq (pc := 31) (tgt := 50) dX8_call_31 (by decide) (fun h31 => ?_) (fun h31 => ?_)
    · have h31 := (nI_eq (a := sP (aS a) i) (b := 9) (by omega) (by omega)).mp h31
      refine V_bipush (pc := 50) (v := (-103)) dX8_call_50 (by decide) ?_
      refine V_iret (pc := 52) dX8_call_52 rfl ?_
      first
      | (rw [if_pos (Or.inl h31)]; exact ⟨rfl, hM, FrX.rf⟩)
      | (rw [if_pos (Or.inr ⟨h36, h47⟩)]; exact ⟨rfl, hM, FrX.rf⟩)
    have h31 := mt (nI_eq (a := sP (aS a) i) (b := 9) (by omega) (by omega)).mpr h31
    refine V_iload_n (pc := 34) dX8_call_34 rfl rfl ?_
    refine V_iconst (pc := 35) (v := (-1)) dX8_call_35 (by decide) ?_
    refine V_icmpeq (pc := 36) (tgt := 53) dX8_call_36 (by decide) (fun h36 => ?_) (fun h36 => ?_)
    · have h36 := (cI_m1 (a := c) (by omega)).mp h36
      have hno : ¬ (sP (aS a) i = 9 ∨ (c ≠ 0 ∧ (sS (aS a)).testBit (c - 1) = true)) := by
        rintro (q | q)
        · exact h31 q
        · first
          | exact q.1 h36
          | (rw [h47] at q; exact absurd q.2 (by decide))
      rw [if_neg hno]
      have hR := refS1_lt (i := i) s2 c6
      refine V_aload_n (pc := 53) dX8_call_53 rfl rfl ?_
      refine V_getR (pc := 54) (ci := 8) (j := 8) (k2 := 70) dX8_call_54 fl_X8_22 (fun _ _ _ _ => rfl) (by decide) rfl (rf_8_8 rfl) ?_
      refine V_iload_n (pc := 57) dX8_call_57 rfl rfl ?_
      refine V_iald (pc := 58) (j := i) dX8_call_58 (by decide) rfl rfl (by show i < 6; omega) ?_
      rw [n3]
      refine V_istore3 (pc := 59) dX8_call_59 (by decide) rfl ?_
      refine V_aload_n (pc := 60) dX8_call_60 rfl rfl ?_
      refine V_getR (pc := 61) (ci := 8) (j := 6) (k2 := 68) dX8_call_61 fl_X8_16 (fun _ _ _ _ => rfl) (by decide) rfl (rf_8_6 rfl) ?_
      refine V_iload_n (pc := 64) dX8_call_64 rfl rfl ?_
      refine V_iald (pc := 65) (j := i) dX8_call_65 (by decide) rfl rfl (by show i < 6; omega) ?_
      rw [n1]
      refine V_iconst (pc := 66) (v := 4) dX8_call_66 (by decide) ?_
      refine V_icmpeq (pc := 67) (tgt := 74) dX8_call_67 (by decide) (fun h67 => ?_) (fun h67 => ?_)
      · have h67 := (nI_eq (a := sK (aS a) i) (b := 4) (by omega) (by omega)).mp h67
        refine V_iconst (pc := 74) (v := 0) dX8_call_74 (by decide) ?_
        refine V_istore4 (pc := 75) dX8_call_75 (by decide) rfl ?_
        refine V_aload_n (pc := 77) dX8_call_77 rfl rfl ?_
        refine V_iload_n (pc := 78) dX8_call_78 rfl rfl ?_
        refine V_iconst (pc := 79) (v := (-1)) dX8_call_79 (by decide) ?_
        refine V_icmpeq (pc := 80) (tgt := 110) dX8_call_80 (by decide) (fun h80 => ?_) (fun h80 => ?_)
        · have h80 := (cI_m1 (a := sC (aS a) i) (by omega)).mp h80; have e1 : refS1 (aS a) i = sS (aS a) := if_neg (fun q => q.1 h80)
          refine V_aload_n (pc := 110) dX8_call_110 rfl rfl ?_
          refine V_getI (pc := 111) (ci := 8) (j := 11) dX8_call_111 fl_X8_132 (fun _ _ _ _ => rfl) (by decide) rfl ?_
          rw [m7, ← e1]
          refine V_putI (pc := 114) (ci := 8) (j := 11) dX8_call_114 fl_X8_132 (fun _ _ _ _ _ => rfl) rfl rfl (by decide) rfl ?_
          refine V_aload_n (pc := 117) dX8_call_117 rfl rfl ?_
          refine V_iload_n (pc := 118) dX8_call_118 rfl rfl ?_
          refine V_iconst (pc := 119) (v := (-1)) dX8_call_119 (by decide) ?_
          refine V_icmpeq (pc := 120) (tgt := 139) dX8_call_120 (by decide) (fun h120 => ?_) (fun h120 => ?_)
          · have h120 := (cI_m1 (a := c) (by omega)).mp h120; have e2 : refS (aS a) i c = refS1 (aS a) i := refS_eq.trans (if_neg (fun q => q.1 h120))
            refine V_aload_n (pc := 139) dX8_call_139 rfl rfl ?_
            refine V_getI (pc := 140) (ci := 8) (j := 11) dX8_call_140 fl_X8_132 (fun _ _ _ _ => rfl) (by decide) rfl ?_
            rw [get_eq, ← e2]
            refine V_putI (pc := 143) (ci := 8) (j := 11) dX8_call_143 fl_X8_132 (fun _ _ _ _ _ => rfl) rfl rfl (by decide) rfl ?_
            refine V_aload_n (pc := 146) dX8_call_146 rfl rfl ?_
            refine V_getR (pc := 147) (ci := 8) (j := 8) (k2 := 70) dX8_call_147 fl_X8_22 (fun _ _ _ _ => rfl) (by decide) rfl (rf_8_8 rfl) ?_
            refine V_iload_n (pc := 150) dX8_call_150 rfl rfl ?_
            refine V_iload_n (pc := 151) dX8_call_151 rfl rfl ?_
            refine V_iast (pc := 152) (j := i) dX8_call_152 (by decide) rfl rfl (by show i < 6; omega) ?_
            refine V_iload_n (pc := 153) dX8_call_153 rfl rfl ?_
            refine V_iret (pc := 154) dX8_call_154 rfl ?_
            exact ⟨rfl, hM.cal hi, (((FrS.rf.set (Or.inr ⟨rfl, by omega⟩)).set (Or.inr ⟨rfl, by omega⟩)).set (Or.inl ⟨by omega, by omega⟩)).X⟩
          have h120 := mt (cI_m1 (a := c) (by omega)).mpr h120
          refine V_iload (pc := 123) dX8_call_123 rfl ?_
          refine V_ifeq (pc := 125) (tgt := 139) dX8_call_125 (by decide) (fun h125 => ?_) (fun h125 => ?_)
          · have e2 : refS (aS a) i c = refS1 (aS a) i := refS_eq.trans (if_neg (fun q => q.2 h67))
            refine V_aload_n (pc := 139) dX8_call_139 rfl rfl ?_
            refine V_getI (pc := 140) (ci := 8) (j := 11) dX8_call_140 fl_X8_132 (fun _ _ _ _ => rfl) (by decide) rfl ?_
            rw [get_eq, ← e2]
            refine V_putI (pc := 143) (ci := 8) (j := 11) dX8_call_143 fl_X8_132 (fun _ _ _ _ _ => rfl) rfl rfl (by decide) rfl ?_
            refine V_aload_n (pc := 146) dX8_call_146 rfl rfl ?_
            refine V_getR (pc := 147) (ci := 8) (j := 8) (k2 := 70) dX8_call_147 fl_X8_22 (fun _ _ _ _ => rfl) (by decide) rfl (rf_8_8 rfl) ?_
            refine V_iload_n (pc := 150) dX8_call_150 rfl rfl ?_
            refine V_iload_n (pc := 151) dX8_call_151 rfl rfl ?_
            refine V_iast (pc := 152) (j := i) dX8_call_152 (by decide) rfl rfl (by show i < 6; omega) ?_
            refine V_iload_n (pc := 153) dX8_call_153 rfl rfl ?_
            refine V_iret (pc := 154) dX8_call_154 rfl ?_
            exact ⟨rfl, hM.cal hi, (((FrS.rf.set (Or.inr ⟨rfl, by omega⟩)).set (Or.inr ⟨rfl, by omega⟩)).set (Or.inl ⟨by omega, by omega⟩)).X⟩
          exact absurd rfl h125
        have h80 := mt (cI_m1 (a := sC (aS a) i) (by omega)).mpr h80
        refine V_iload (pc := 83) dX8_call_83 rfl ?_
        refine V_ifeq (pc := 85) (tgt := 110) dX8_call_85 (by decide) (fun h85 => ?_) (fun h85 => ?_)
        · have e1 : refS1 (aS a) i = sS (aS a) := if_neg (fun q => q.2.1 h67)
          refine V_aload_n (pc := 110) dX8_call_110 rfl rfl ?_
          refine V_getI (pc := 111) (ci := 8) (j := 11) dX8_call_111 fl_X8_132 (fun _ _ _ _ => rfl) (by decide) rfl ?_
          rw [m7, ← e1]
          refine V_putI (pc := 114) (ci := 8) (j := 11) dX8_call_114 fl_X8_132 (fun _ _ _ _ _ => rfl) rfl rfl (by decide) rfl ?_
          refine V_aload_n (pc := 117) dX8_call_117 rfl rfl ?_
          refine V_iload_n (pc := 118) dX8_call_118 rfl rfl ?_
          refine V_iconst (pc := 119) (v := (-1)) dX8_call_119 (by decide) ?_
          refine V_icmpeq (pc := 120) (tgt := 139) dX8_call_120 (by decide) (fun h120 => ?_) (fun h120 => ?_)
          · have h120 := (cI_m1 (a := c) (by omega)).mp h120; have e2 : refS (aS a) i c = refS1 (aS a) i := refS_eq.trans (if_neg (fun q => q.1 h120))
            refine V_aload_n (pc := 139) dX8_call_139 rfl rfl ?_
            refine V_getI (pc := 140) (ci := 8) (j := 11) dX8_call_140 fl_X8_132 (fun _ _ _ _ => rfl) (by decide) rfl ?_
            rw [get_eq, ← e2]
            refine V_putI (pc := 143) (ci := 8) (j := 11) dX8_call_143 fl_X8_132 (fun _ _ _ _ _ => rfl) rfl rfl (by decide) rfl ?_
            refine V_aload_n (pc := 146) dX8_call_146 rfl rfl ?_
            refine V_getR (pc := 147) (ci := 8) (j := 8) (k2 := 70) dX8_call_147 fl_X8_22 (fun _ _ _ _ => rfl) (by decide) rfl (rf_8_8 rfl) ?_
            refine V_iload_n (pc := 150) dX8_call_150 rfl rfl ?_
            refine V_iload_n (pc := 151) dX8_call_151 rfl rfl ?_
            refine V_iast (pc := 152) (j := i) dX8_call_152 (by decide) rfl rfl (by show i < 6; omega) ?_
            refine V_iload_n (pc := 153) dX8_call_153 rfl rfl ?_
            refine V_iret (pc := 154) dX8_call_154 rfl ?_
            exact ⟨rfl, hM.cal hi, (((FrS.rf.set (Or.inr ⟨rfl, by omega⟩)).set (Or.inr ⟨rfl, by omega⟩)).set (Or.inl ⟨by omega, by omega⟩)).X⟩
          have h120 := mt (cI_m1 (a := c) (by omega)).mpr h120
          refine V_iload (pc := 123) dX8_call_123 rfl ?_
          refine V_ifeq (pc := 125) (tgt := 139) dX8_call_125 (by decide) (fun h125 => ?_) (fun h125 => ?_)
          · have e2 : refS (aS a) i c = refS1 (aS a) i := refS_eq.trans (if_neg (fun q => q.2 h67))
            refine V_aload_n (pc := 139) dX8_call_139 rfl rfl ?_
            refine V_getI (pc := 140) (ci := 8) (j := 11) dX8_call_140 fl_X8_132 (fun _ _ _ _ => rfl) (by decide) rfl ?_
            rw [get_eq, ← e2]
            refine V_putI (pc := 143) (ci := 8) (j := 11) dX8_call_143 fl_X8_132 (fun _ _ _ _ _ => rfl) rfl rfl (by decide) rfl ?_
            refine V_aload_n (pc := 146) dX8_call_146 rfl rfl ?_
            refine V_getR (pc := 147) (ci := 8) (j := 8) (k2 := 70) dX8_call_147 fl_X8_22 (fun _ _ _ _ => rfl) (by decide) rfl (rf_8_8 rfl) ?_
            refine V_iload_n (pc := 150) dX8_call_150 rfl rfl ?_
            refine V_iload_n (pc := 151) dX8_call_151 rfl rfl ?_
            refine V_iast (pc := 152) (j := i) dX8_call_152 (by decide) rfl rfl (by show i < 6; omega) ?_
            refine V_iload_n (pc := 153) dX8_call_153 rfl rfl ?_
            refine V_iret (pc := 154) dX8_call_154 rfl ?_
            exact ⟨rfl, hM.cal hi, (((FrS.rf.set (Or.inr ⟨rfl, by omega⟩)).set (Or.inr ⟨rfl, by omega⟩)).set (Or.inl ⟨by omega, by omega⟩)).X⟩
          exact absurd rfl h125
        exact absurd rfl h85
      have h67 := mt (nI_eq (a := sK (aS a) i) (b := 4) (by omega) (by omega)).mpr h67
      refine V_iconst (pc := 70) (v := 1) dX8_call_70 (by decide) ?_
      refine V_goto (pc := 71) (tgt := 75) dX8_call_71 (by decide) ?_
      refine V_istore4 (pc := 75) dX8_call_75 (by decide) rfl ?_
      refine V_aload_n (pc := 77) dX8_call_77 rfl rfl ?_
      refine V_iload_n (pc := 78) dX8_call_78 rfl rfl ?_
      refine V_iconst (pc := 79) (v := (-1)) dX8_call_79 (by decide) ?_
      refine V_icmpeq (pc := 80) (tgt := 110) dX8_call_80 (by decide) (fun h80 => ?_) (fun h80 => ?_)
      · have h80 := (cI_m1 (a := sC (aS a) i) (by omega)).mp h80; have e1 : refS1 (aS a) i = sS (aS a) := if_neg (fun q => q.1 h80)
        refine V_aload_n (pc := 110) dX8_call_110 rfl rfl ?_
        refine V_getI (pc := 111) (ci := 8) (j := 11) dX8_call_111 fl_X8_132 (fun _ _ _ _ => rfl) (by decide) rfl ?_
        rw [m7, ← e1]
        refine V_putI (pc := 114) (ci := 8) (j := 11) dX8_call_114 fl_X8_132 (fun _ _ _ _ _ => rfl) rfl rfl (by decide) rfl ?_
        refine V_aload_n (pc := 117) dX8_call_117 rfl rfl ?_
        refine V_iload_n (pc := 118) dX8_call_118 rfl rfl ?_
        refine V_iconst (pc := 119) (v := (-1)) dX8_call_119 (by decide) ?_
        refine V_icmpeq (pc := 120) (tgt := 139) dX8_call_120 (by decide) (fun h120 => ?_) (fun h120 => ?_)
        · have h120 := (cI_m1 (a := c) (by omega)).mp h120; have e2 : refS (aS a) i c = refS1 (aS a) i := refS_eq.trans (if_neg (fun q => q.1 h120))
          refine V_aload_n (pc := 139) dX8_call_139 rfl rfl ?_
          refine V_getI (pc := 140) (ci := 8) (j := 11) dX8_call_140 fl_X8_132 (fun _ _ _ _ => rfl) (by decide) rfl ?_
          rw [get_eq, ← e2]
          refine V_putI (pc := 143) (ci := 8) (j := 11) dX8_call_143 fl_X8_132 (fun _ _ _ _ _ => rfl) rfl rfl (by decide) rfl ?_
          refine V_aload_n (pc := 146) dX8_call_146 rfl rfl ?_
          refine V_getR (pc := 147) (ci := 8) (j := 8) (k2 := 70) dX8_call_147 fl_X8_22 (fun _ _ _ _ => rfl) (by decide) rfl (rf_8_8 rfl) ?_
          refine V_iload_n (pc := 150) dX8_call_150 rfl rfl ?_
          refine V_iload_n (pc := 151) dX8_call_151 rfl rfl ?_
          refine V_iast (pc := 152) (j := i) dX8_call_152 (by decide) rfl rfl (by show i < 6; omega) ?_
          refine V_iload_n (pc := 153) dX8_call_153 rfl rfl ?_
          refine V_iret (pc := 154) dX8_call_154 rfl ?_
          exact ⟨rfl, hM.cal hi, (((FrS.rf.set (Or.inr ⟨rfl, by omega⟩)).set (Or.inr ⟨rfl, by omega⟩)).set (Or.inl ⟨by omega, by omega⟩)).X⟩
        have h120 := mt (cI_m1 (a := c) (by omega)).mpr h120
        refine V_iload (pc := 123) dX8_call_123 rfl ?_
        refine V_ifeq (pc := 125) (tgt := 139) dX8_call_125 (by decide) (fun h125 => ?_) (fun h125 => ?_)
        · exact absurd h125 (by decide)
        have e3 : refS (aS a) i c = refS1 (aS a) i ||| 2 ^ (c - 1) := refS_eq.trans (if_pos ⟨h120, h67⟩)
        refine V_aload_n (pc := 128) dX8_call_128 rfl rfl ?_
        refine V_getI (pc := 129) (ci := 8) (j := 11) dX8_call_129 fl_X8_132 (fun _ _ _ _ => rfl) (by decide) rfl ?_
        rw [get_eq]
        refine V_iconst (pc := 132) (v := 1) dX8_call_132 (by decide) ?_
        refine V_iload_n (pc := 133) dX8_call_133 rfl rfl ?_
        refine V_ishl (pc := 134) dX8_call_134 ?_
        refine V_ior (pc := 135) dX8_call_135 ?_
        rw [show nI (refS1 (aS a) i) ||| ((1 : Int32) <<< (cI c &&& 31)) = nI (refS1 (aS a) i ||| 2 ^ (c - 1)) from by rw [show cI c = nI (c - 1) from by rw [← cI_s, Nat.sub_add_cancel (by omega)]]; exact bit_set _ hR _ (by omega)]
        refine V_goto (pc := 136) (tgt := 143) dX8_call_136 (by decide) ?_
        rw [← e3]
        refine V_putI (pc := 143) (ci := 8) (j := 11) dX8_call_143 fl_X8_132 (fun _ _ _ _ _ => rfl) rfl rfl (by decide) rfl ?_
        refine V_aload_n (pc := 146) dX8_call_146 rfl rfl ?_
        refine V_getR (pc := 147) (ci := 8) (j := 8) (k2 := 70) dX8_call_147 fl_X8_22 (fun _ _ _ _ => rfl) (by decide) rfl (rf_8_8 rfl) ?_
        refine V_iload_n (pc := 150) dX8_call_150 rfl rfl ?_
        refine V_iload_n (pc := 151) dX8_call_151 rfl rfl ?_
        refine V_iast (pc := 152) (j := i) dX8_call_152 (by decide) rfl rfl (by show i < 6; omega) ?_
        refine V_iload_n (pc := 153) dX8_call_153 rfl rfl ?_
        refine V_iret (pc := 154) dX8_call_154 rfl ?_
        exact ⟨rfl, hM.cal hi, (((FrS.rf.set (Or.inr ⟨rfl, by omega⟩)).set (Or.inr ⟨rfl, by omega⟩)).set (Or.inl ⟨by omega, by omega⟩)).X⟩
      have h80 := mt (cI_m1 (a := sC (aS a) i) (by omega)).mpr h80
      refine V_iload (pc := 83) dX8_call_83 rfl ?_
      refine V_ifeq (pc := 85) (tgt := 110) dX8_call_85 (by decide) (fun h85 => ?_) (fun h85 => ?_)
      · exact absurd h85 (by decide)
      refine V_aload_n (pc := 88) dX8_call_88 rfl rfl ?_
      refine V_iload_n (pc := 89) dX8_call_89 rfl rfl ?_
      refine V_iload_n (pc := 90) dX8_call_90 rfl rfl ?_
      refine V_inv2 (pc := 91) (ci := 8) dX8_call_91 ml_X8_159 (by decide) rfl ⟨by decide, rfl⟩ (by first | decide | omega) (Nat.le_of_ble_eq_true rfl) (c_X8_isCalledToo μ hO hM hi h80 (by omega)) ?_
      rintro _ μ2 ⟨rfl, hμ⟩
      obtain rfl := hμ.symm
      refine V_ifne (pc := 94) (tgt := 110) dX8_call_94 (by decide) (fun h94 => ?_) (fun h94 => ?_)
      · have h94 := bI_ne h94; have e1 : refS1 (aS a) i = sS (aS a) := if_neg (fun q => Bool.noConfusion (h94.symm.trans q.2.2))
        refine V_aload_n (pc := 110) dX8_call_110 rfl rfl ?_
        refine V_getI (pc := 111) (ci := 8) (j := 11) dX8_call_111 fl_X8_132 (fun _ _ _ _ => rfl) (by decide) rfl ?_
        rw [m7, ← e1]
        refine V_putI (pc := 114) (ci := 8) (j := 11) dX8_call_114 fl_X8_132 (fun _ _ _ _ _ => rfl) rfl rfl (by decide) rfl ?_
        refine V_aload_n (pc := 117) dX8_call_117 rfl rfl ?_
        refine V_iload_n (pc := 118) dX8_call_118 rfl rfl ?_
        refine V_iconst (pc := 119) (v := (-1)) dX8_call_119 (by decide) ?_
        refine V_icmpeq (pc := 120) (tgt := 139) dX8_call_120 (by decide) (fun h120 => ?_) (fun h120 => ?_)
        · have h120 := (cI_m1 (a := c) (by omega)).mp h120; have e2 : refS (aS a) i c = refS1 (aS a) i := refS_eq.trans (if_neg (fun q => q.1 h120))
          refine V_aload_n (pc := 139) dX8_call_139 rfl rfl ?_
          refine V_getI (pc := 140) (ci := 8) (j := 11) dX8_call_140 fl_X8_132 (fun _ _ _ _ => rfl) (by decide) rfl ?_
          rw [get_eq, ← e2]
          refine V_putI (pc := 143) (ci := 8) (j := 11) dX8_call_143 fl_X8_132 (fun _ _ _ _ _ => rfl) rfl rfl (by decide) rfl ?_
          refine V_aload_n (pc := 146) dX8_call_146 rfl rfl ?_
          refine V_getR (pc := 147) (ci := 8) (j := 8) (k2 := 70) dX8_call_147 fl_X8_22 (fun _ _ _ _ => rfl) (by decide) rfl (rf_8_8 rfl) ?_
          refine V_iload_n (pc := 150) dX8_call_150 rfl rfl ?_
          refine V_iload_n (pc := 151) dX8_call_151 rfl rfl ?_
          refine V_iast (pc := 152) (j := i) dX8_call_152 (by decide) rfl rfl (by show i < 6; omega) ?_
          refine V_iload_n (pc := 153) dX8_call_153 rfl rfl ?_
          refine V_iret (pc := 154) dX8_call_154 rfl ?_
          exact ⟨rfl, hM.cal hi, (((FrS.rf.set (Or.inr ⟨rfl, by omega⟩)).set (Or.inr ⟨rfl, by omega⟩)).set (Or.inl ⟨by omega, by omega⟩)).X⟩
        have h120 := mt (cI_m1 (a := c) (by omega)).mpr h120
        refine V_iload (pc := 123) dX8_call_123 rfl ?_
        refine V_ifeq (pc := 125) (tgt := 139) dX8_call_125 (by decide) (fun h125 => ?_) (fun h125 => ?_)
        · exact absurd h125 (by decide)
        have e3 : refS (aS a) i c = refS1 (aS a) i ||| 2 ^ (c - 1) := refS_eq.trans (if_pos ⟨h120, h67⟩)
        refine V_aload_n (pc := 128) dX8_call_128 rfl rfl ?_
        refine V_getI (pc := 129) (ci := 8) (j := 11) dX8_call_129 fl_X8_132 (fun _ _ _ _ => rfl) (by decide) rfl ?_
        rw [get_eq]
        refine V_iconst (pc := 132) (v := 1) dX8_call_132 (by decide) ?_
        refine V_iload_n (pc := 133) dX8_call_133 rfl rfl ?_
        refine V_ishl (pc := 134) dX8_call_134 ?_
        refine V_ior (pc := 135) dX8_call_135 ?_
        rw [show nI (refS1 (aS a) i) ||| ((1 : Int32) <<< (cI c &&& 31)) = nI (refS1 (aS a) i ||| 2 ^ (c - 1)) from by rw [show cI c = nI (c - 1) from by rw [← cI_s, Nat.sub_add_cancel (by omega)]]; exact bit_set _ hR _ (by omega)]
        refine V_goto (pc := 136) (tgt := 143) dX8_call_136 (by decide) ?_
        rw [← e3]
        refine V_putI (pc := 143) (ci := 8) (j := 11) dX8_call_143 fl_X8_132 (fun _ _ _ _ _ => rfl) rfl rfl (by decide) rfl ?_
        refine V_aload_n (pc := 146) dX8_call_146 rfl rfl ?_
        refine V_getR (pc := 147) (ci := 8) (j := 8) (k2 := 70) dX8_call_147 fl_X8_22 (fun _ _ _ _ => rfl) (by decide) rfl (rf_8_8 rfl) ?_
        refine V_iload_n (pc := 150) dX8_call_150 rfl rfl ?_
        refine V_iload_n (pc := 151) dX8_call_151 rfl rfl ?_
        refine V_iast (pc := 152) (j := i) dX8_call_152 (by decide) rfl rfl (by show i < 6; omega) ?_
        refine V_iload_n (pc := 153) dX8_call_153 rfl rfl ?_
        refine V_iret (pc := 154) dX8_call_154 rfl ?_
        exact ⟨rfl, hM.cal hi, (((FrS.rf.set (Or.inr ⟨rfl, by omega⟩)).set (Or.inr ⟨rfl, by omega⟩)).set (Or.inl ⟨by omega, by omega⟩)).X⟩
      have h94 := bI_e h94; have e4 : refS1 (aS a) i = clr (sS (aS a)) (sC (aS a) i - 1) := if_pos ⟨h80, h67, h94⟩
      refine V_aload_n (pc := 97) dX8_call_97 rfl rfl ?_
      refine V_getI (pc := 98) (ci := 8) (j := 11) dX8_call_98 fl_X8_132 (fun _ _ _ _ => rfl) (by decide) rfl ?_
      rw [m7]
      refine V_iconst (pc := 101) (v := 1) dX8_call_101 (by decide) ?_
      refine V_iload_n (pc := 102) dX8_call_102 rfl rfl ?_
      refine V_ishl (pc := 103) dX8_call_103 ?_
      refine V_iconst (pc := 104) (v := (-1)) dX8_call_104 (by decide) ?_
      refine V_ixor (pc := 105) dX8_call_105 ?_
      refine V_iand (pc := 106) dX8_call_106 ?_
      rw [show nI (sS (aS a)) &&& (((1 : Int32) <<< (cI (sC (aS a) i) &&& 31)) ^^^ (-1)) = nI (clr (sS (aS a)) (sC (aS a) i - 1)) from by rw [show cI (sC (aS a) i) = nI (sC (aS a) i - 1) from by rw [← cI_s, Nat.sub_add_cancel (by omega)]]; exact bit_clr _ s2 _ (by omega)]
      refine V_goto (pc := 107) (tgt := 114) dX8_call_107 (by decide) ?_
      rw [← e4]
      refine V_putI (pc := 114) (ci := 8) (j := 11) dX8_call_114 fl_X8_132 (fun _ _ _ _ _ => rfl) rfl rfl (by decide) rfl ?_
      refine V_aload_n (pc := 117) dX8_call_117 rfl rfl ?_
      refine V_iload_n (pc := 118) dX8_call_118 rfl rfl ?_
      refine V_iconst (pc := 119) (v := (-1)) dX8_call_119 (by decide) ?_
      refine V_icmpeq (pc := 120) (tgt := 139) dX8_call_120 (by decide) (fun h120 => ?_) (fun h120 => ?_)
      · have h120 := (cI_m1 (a := c) (by omega)).mp h120; have e2 : refS (aS a) i c = refS1 (aS a) i := refS_eq.trans (if_neg (fun q => q.1 h120))
        refine V_aload_n (pc := 139) dX8_call_139 rfl rfl ?_
        refine V_getI (pc := 140) (ci := 8) (j := 11) dX8_call_140 fl_X8_132 (fun _ _ _ _ => rfl) (by decide) rfl ?_
        rw [get_eq, ← e2]
        refine V_putI (pc := 143) (ci := 8) (j := 11) dX8_call_143 fl_X8_132 (fun _ _ _ _ _ => rfl) rfl rfl (by decide) rfl ?_
        refine V_aload_n (pc := 146) dX8_call_146 rfl rfl ?_
        refine V_getR (pc := 147) (ci := 8) (j := 8) (k2 := 70) dX8_call_147 fl_X8_22 (fun _ _ _ _ => rfl) (by decide) rfl (rf_8_8 rfl) ?_
        refine V_iload_n (pc := 150) dX8_call_150 rfl rfl ?_
        refine V_iload_n (pc := 151) dX8_call_151 rfl rfl ?_
        refine V_iast (pc := 152) (j := i) dX8_call_152 (by decide) rfl rfl (by show i < 6; omega) ?_
        refine V_iload_n (pc := 153) dX8_call_153 rfl rfl ?_
        refine V_iret (pc := 154) dX8_call_154 rfl ?_
        exact ⟨rfl, hM.cal hi, (((FrS.rf.set (Or.inr ⟨rfl, by omega⟩)).set (Or.inr ⟨rfl, by omega⟩)).set (Or.inl ⟨by omega, by omega⟩)).X⟩
      have h120 := mt (cI_m1 (a := c) (by omega)).mpr h120
      refine V_iload (pc := 123) dX8_call_123 rfl ?_
      refine V_ifeq (pc := 125) (tgt := 139) dX8_call_125 (by decide) (fun h125 => ?_) (fun h125 => ?_)
      · exact absurd h125 (by decide)
      have e3 : refS (aS a) i c = refS1 (aS a) i ||| 2 ^ (c - 1) := refS_eq.trans (if_pos ⟨h120, h67⟩)
      refine V_aload_n (pc := 128) dX8_call_128 rfl rfl ?_
      refine V_getI (pc := 129) (ci := 8) (j := 11) dX8_call_129 fl_X8_132 (fun _ _ _ _ => rfl) (by decide) rfl ?_
      rw [get_eq]
      refine V_iconst (pc := 132) (v := 1) dX8_call_132 (by decide) ?_
      refine V_iload_n (pc := 133) dX8_call_133 rfl rfl ?_
      refine V_ishl (pc := 134) dX8_call_134 ?_
      refine V_ior (pc := 135) dX8_call_135 ?_
      rw [show nI (refS1 (aS a) i) ||| ((1 : Int32) <<< (cI c &&& 31)) = nI (refS1 (aS a) i ||| 2 ^ (c - 1)) from by rw [show cI c = nI (c - 1) from by rw [← cI_s, Nat.sub_add_cancel (by omega)]]; exact bit_set _ hR _ (by omega)]
      refine V_goto (pc := 136) (tgt := 143) dX8_call_136 (by decide) ?_
      rw [← e3]
      refine V_putI (pc := 143) (ci := 8) (j := 11) dX8_call_143 fl_X8_132 (fun _ _ _ _ _ => rfl) rfl rfl (by decide) rfl ?_
      refine V_aload_n (pc := 146) dX8_call_146 rfl rfl ?_
      refine V_getR (pc := 147) (ci := 8) (j := 8) (k2 := 70) dX8_call_147 fl_X8_22 (fun _ _ _ _ => rfl) (by decide) rfl (rf_8_8 rfl) ?_
      refine V_iload_n (pc := 150) dX8_call_150 rfl rfl ?_
      refine V_iload_n (pc := 151) dX8_call_151 rfl rfl ?_
      refine V_iast (pc := 152) (j := i) dX8_call_152 (by decide) rfl rfl (by show i < 6; omega) ?_
      refine V_iload_n (pc := 153) dX8_call_153 rfl rfl ?_
      refine V_iret (pc := 154) dX8_call_154 rfl ?_
      exact ⟨rfl, hM.cal hi, (((FrS.rf.set (Or.inr ⟨rfl, by omega⟩)).set (Or.inr ⟨rfl, by omega⟩)).set (Or.inl ⟨by omega, by omega⟩)).X⟩
    have h36 := mt (cI_m1 (a := c) (by omega)).mpr h36; have hcn : nI (c - 1) = cI c := by rw [← cI_s, Nat.sub_add_cancel (by omega)]
    refine V_aload_n (pc := 39) dX8_call_39 rfl rfl ?_
    refine V_getI (pc := 40) (ci := 8) (j := 11) dX8_call_40 fl_X8_132 (fun _ _ _ _ => rfl) (by decide) rfl ?_
    rw [m7]
    refine V_iload_n (pc := 43) dX8_call_43 rfl rfl ?_
    refine V_ins2 (pc := 44) dX8_call_44 ml_X8_156 (by first | decide | omega) (Nat.le_of_ble_eq_true rfl) (hcn ▸ c_X8_has μ s2 (show c - 1 < 6 by omega)) ?_
    rintro _ μ2 ⟨rfl, hμ⟩
    obtain rfl := hμ.symm
    refine V_ifeq (pc := 47) (tgt := 53) dX8_call_47 (by decide) (fun h47 => ?_) (fun h47 => ?_)
    · have h47 := bI_e h47
      have hno : ¬ (sP (aS a) i = 9 ∨ (c ≠ 0 ∧ (sS (aS a)).testBit (c - 1) = true)) := by
        rintro (q | q)
        · exact h31 q
        · first
          | exact q.1 h36
          | (rw [h47] at q; exact absurd q.2 (by decide))
      rw [if_neg hno]
      have hR := refS1_lt (i := i) s2 c6
      refine V_aload_n (pc := 53) dX8_call_53 rfl rfl ?_
      refine V_getR (pc := 54) (ci := 8) (j := 8) (k2 := 70) dX8_call_54 fl_X8_22 (fun _ _ _ _ => rfl) (by decide) rfl (rf_8_8 rfl) ?_
      refine V_iload_n (pc := 57) dX8_call_57 rfl rfl ?_
      refine V_iald (pc := 58) (j := i) dX8_call_58 (by decide) rfl rfl (by show i < 6; omega) ?_
      rw [n3]
      refine V_istore3 (pc := 59) dX8_call_59 (by decide) rfl ?_
      refine V_aload_n (pc := 60) dX8_call_60 rfl rfl ?_
      refine V_getR (pc := 61) (ci := 8) (j := 6) (k2 := 68) dX8_call_61 fl_X8_16 (fun _ _ _ _ => rfl) (by decide) rfl (rf_8_6 rfl) ?_
      refine V_iload_n (pc := 64) dX8_call_64 rfl rfl ?_
      refine V_iald (pc := 65) (j := i) dX8_call_65 (by decide) rfl rfl (by show i < 6; omega) ?_
      rw [n1]
      refine V_iconst (pc := 66) (v := 4) dX8_call_66 (by decide) ?_
      refine V_icmpeq (pc := 67) (tgt := 74) dX8_call_67 (by decide) (fun h67 => ?_) (fun h67 => ?_)
      · have h67 := (nI_eq (a := sK (aS a) i) (b := 4) (by omega) (by omega)).mp h67
        refine V_iconst (pc := 74) (v := 0) dX8_call_74 (by decide) ?_
        refine V_istore4 (pc := 75) dX8_call_75 (by decide) rfl ?_
        refine V_aload_n (pc := 77) dX8_call_77 rfl rfl ?_
        refine V_iload_n (pc := 78) dX8_call_78 rfl rfl ?_
        refine V_iconst (pc := 79) (v := (-1)) dX8_call_79 (by decide) ?_
        refine V_icmpeq (pc := 80) (tgt := 110) dX8_call_80 (by decide) (fun h80 => ?_) (fun h80 => ?_)
        · have h80 := (cI_m1 (a := sC (aS a) i) (by omega)).mp h80; have e1 : refS1 (aS a) i = sS (aS a) := if_neg (fun q => q.1 h80)
          refine V_aload_n (pc := 110) dX8_call_110 rfl rfl ?_
          refine V_getI (pc := 111) (ci := 8) (j := 11) dX8_call_111 fl_X8_132 (fun _ _ _ _ => rfl) (by decide) rfl ?_
          rw [m7, ← e1]
          refine V_putI (pc := 114) (ci := 8) (j := 11) dX8_call_114 fl_X8_132 (fun _ _ _ _ _ => rfl) rfl rfl (by decide) rfl ?_
          refine V_aload_n (pc := 117) dX8_call_117 rfl rfl ?_
          refine V_iload_n (pc := 118) dX8_call_118 rfl rfl ?_
          refine V_iconst (pc := 119) (v := (-1)) dX8_call_119 (by decide) ?_
          refine V_icmpeq (pc := 120) (tgt := 139) dX8_call_120 (by decide) (fun h120 => ?_) (fun h120 => ?_)
          · have h120 := (cI_m1 (a := c) (by omega)).mp h120; have e2 : refS (aS a) i c = refS1 (aS a) i := refS_eq.trans (if_neg (fun q => q.1 h120))
            refine V_aload_n (pc := 139) dX8_call_139 rfl rfl ?_
            refine V_getI (pc := 140) (ci := 8) (j := 11) dX8_call_140 fl_X8_132 (fun _ _ _ _ => rfl) (by decide) rfl ?_
            rw [get_eq, ← e2]
            refine V_putI (pc := 143) (ci := 8) (j := 11) dX8_call_143 fl_X8_132 (fun _ _ _ _ _ => rfl) rfl rfl (by decide) rfl ?_
            refine V_aload_n (pc := 146) dX8_call_146 rfl rfl ?_
            refine V_getR (pc := 147) (ci := 8) (j := 8) (k2 := 70) dX8_call_147 fl_X8_22 (fun _ _ _ _ => rfl) (by decide) rfl (rf_8_8 rfl) ?_
            refine V_iload_n (pc := 150) dX8_call_150 rfl rfl ?_
            refine V_iload_n (pc := 151) dX8_call_151 rfl rfl ?_
            refine V_iast (pc := 152) (j := i) dX8_call_152 (by decide) rfl rfl (by show i < 6; omega) ?_
            refine V_iload_n (pc := 153) dX8_call_153 rfl rfl ?_
            refine V_iret (pc := 154) dX8_call_154 rfl ?_
            exact ⟨rfl, hM.cal hi, (((FrS.rf.set (Or.inr ⟨rfl, by omega⟩)).set (Or.inr ⟨rfl, by omega⟩)).set (Or.inl ⟨by omega, by omega⟩)).X⟩
          have h120 := mt (cI_m1 (a := c) (by omega)).mpr h120
          refine V_iload (pc := 123) dX8_call_123 rfl ?_
          refine V_ifeq (pc := 125) (tgt := 139) dX8_call_125 (by decide) (fun h125 => ?_) (fun h125 => ?_)
          · have e2 : refS (aS a) i c = refS1 (aS a) i := refS_eq.trans (if_neg (fun q => q.2 h67))
            refine V_aload_n (pc := 139) dX8_call_139 rfl rfl ?_
            refine V_getI (pc := 140) (ci := 8) (j := 11) dX8_call_140 fl_X8_132 (fun _ _ _ _ => rfl) (by decide) rfl ?_
            rw [get_eq, ← e2]
            refine V_putI (pc := 143) (ci := 8) (j := 11) dX8_call_143 fl_X8_132 (fun _ _ _ _ _ => rfl) rfl rfl (by decide) rfl ?_
            refine V_aload_n (pc := 146) dX8_call_146 rfl rfl ?_
            refine V_getR (pc := 147) (ci := 8) (j := 8) (k2 := 70) dX8_call_147 fl_X8_22 (fun _ _ _ _ => rfl) (by decide) rfl (rf_8_8 rfl) ?_
            refine V_iload_n (pc := 150) dX8_call_150 rfl rfl ?_
            refine V_iload_n (pc := 151) dX8_call_151 rfl rfl ?_
            refine V_iast (pc := 152) (j := i) dX8_call_152 (by decide) rfl rfl (by show i < 6; omega) ?_
            refine V_iload_n (pc := 153) dX8_call_153 rfl rfl ?_
            refine V_iret (pc := 154) dX8_call_154 rfl ?_
            exact ⟨rfl, hM.cal hi, (((FrS.rf.set (Or.inr ⟨rfl, by omega⟩)).set (Or.inr ⟨rfl, by omega⟩)).set (Or.inl ⟨by omega, by omega⟩)).X⟩
          exact absurd rfl h125
        have h80 := mt (cI_m1 (a := sC (aS a) i) (by omega)).mpr h80
        refine V_iload (pc := 83) dX8_call_83 rfl ?_
        refine V_ifeq (pc := 85) (tgt := 110) dX8_call_85 (by decide) (fun h85 => ?_) (fun h85 => ?_)
        · have e1 : refS1 (aS a) i = sS (aS a) := if_neg (fun q => q.2.1 h67)
          refine V_aload_n (pc := 110) dX8_call_110 rfl rfl ?_
          refine V_getI (pc := 111) (ci := 8) (j := 11) dX8_call_111 fl_X8_132 (fun _ _ _ _ => rfl) (by decide) rfl ?_
          rw [m7, ← e1]
          refine V_putI (pc := 114) (ci := 8) (j := 11) dX8_call_114 fl_X8_132 (fun _ _ _ _ _ => rfl) rfl rfl (by decide) rfl ?_
          refine V_aload_n (pc := 117) dX8_call_117 rfl rfl ?_
          refine V_iload_n (pc := 118) dX8_call_118 rfl rfl ?_
          refine V_iconst (pc := 119) (v := (-1)) dX8_call_119 (by decide) ?_
          refine V_icmpeq (pc := 120) (tgt := 139) dX8_call_120 (by decide) (fun h120 => ?_) (fun h120 => ?_)
          · have h120 := (cI_m1 (a := c) (by omega)).mp h120; have e2 : refS (aS a) i c = refS1 (aS a) i := refS_eq.trans (if_neg (fun q => q.1 h120))
            refine V_aload_n (pc := 139) dX8_call_139 rfl rfl ?_
            refine V_getI (pc := 140) (ci := 8) (j := 11) dX8_call_140 fl_X8_132 (fun _ _ _ _ => rfl) (by decide) rfl ?_
            rw [get_eq, ← e2]
            refine V_putI (pc := 143) (ci := 8) (j := 11) dX8_call_143 fl_X8_132 (fun _ _ _ _ _ => rfl) rfl rfl (by decide) rfl ?_
            refine V_aload_n (pc := 146) dX8_call_146 rfl rfl ?_
            refine V_getR (pc := 147) (ci := 8) (j := 8) (k2 := 70) dX8_call_147 fl_X8_22 (fun _ _ _ _ => rfl) (by decide) rfl (rf_8_8 rfl) ?_
            refine V_iload_n (pc := 150) dX8_call_150 rfl rfl ?_
            refine V_iload_n (pc := 151) dX8_call_151 rfl rfl ?_
            refine V_iast (pc := 152) (j := i) dX8_call_152 (by decide) rfl rfl (by show i < 6; omega) ?_
            refine V_iload_n (pc := 153) dX8_call_153 rfl rfl ?_
            refine V_iret (pc := 154) dX8_call_154 rfl ?_
            exact ⟨rfl, hM.cal hi, (((FrS.rf.set (Or.inr ⟨rfl, by omega⟩)).set (Or.inr ⟨rfl, by omega⟩)).set (Or.inl ⟨by omega, by omega⟩)).X⟩
          have h120 := mt (cI_m1 (a := c) (by omega)).mpr h120
          refine V_iload (pc := 123) dX8_call_123 rfl ?_
          refine V_ifeq (pc := 125) (tgt := 139) dX8_call_125 (by decide) (fun h125 => ?_) (fun h125 => ?_)
          · have e2 : refS (aS a) i c = refS1 (aS a) i := refS_eq.trans (if_neg (fun q => q.2 h67))
            refine V_aload_n (pc := 139) dX8_call_139 rfl rfl ?_
            refine V_getI (pc := 140) (ci := 8) (j := 11) dX8_call_140 fl_X8_132 (fun _ _ _ _ => rfl) (by decide) rfl ?_
            rw [get_eq, ← e2]
            refine V_putI (pc := 143) (ci := 8) (j := 11) dX8_call_143 fl_X8_132 (fun _ _ _ _ _ => rfl) rfl rfl (by decide) rfl ?_
            refine V_aload_n (pc := 146) dX8_call_146 rfl rfl ?_
            refine V_getR (pc := 147) (ci := 8) (j := 8) (k2 := 70) dX8_call_147 fl_X8_22 (fun _ _ _ _ => rfl) (by decide) rfl (rf_8_8 rfl) ?_
            refine V_iload_n (pc := 150) dX8_call_150 rfl rfl ?_
            refine V_iload_n (pc := 151) dX8_call_151 rfl rfl ?_
            refine V_iast (pc := 152) (j := i) dX8_call_152 (by decide) rfl rfl (by show i < 6; omega) ?_
            refine V_iload_n (pc := 153) dX8_call_153 rfl rfl ?_
            refine V_iret (pc := 154) dX8_call_154 rfl ?_
            exact ⟨rfl, hM.cal hi, (((FrS.rf.set (Or.inr ⟨rfl, by omega⟩)).set (Or.inr ⟨rfl, by omega⟩)).set (Or.inl ⟨by omega, by omega⟩)).X⟩
          exact absurd rfl h125
        exact absurd rfl h85
      have h67 := mt (nI_eq (a := sK (aS a) i) (b := 4) (by omega) (by omega)).mpr h67
      refine V_iconst (pc := 70) (v := 1) dX8_call_70 (by decide) ?_
      refine V_goto (pc := 71) (tgt := 75) dX8_call_71 (by decide) ?_
      refine V_istore4 (pc := 75) dX8_call_75 (by decide) rfl ?_
      refine V_aload_n (pc := 77) dX8_call_77 rfl rfl ?_
      refine V_iload_n (pc := 78) dX8_call_78 rfl rfl ?_
      refine V_iconst (pc := 79) (v := (-1)) dX8_call_79 (by decide) ?_
      refine V_icmpeq (pc := 80) (tgt := 110) dX8_call_80 (by decide) (fun h80 => ?_) (fun h80 => ?_)
      · have h80 := (cI_m1 (a := sC (aS a) i) (by omega)).mp h80; have e1 : refS1 (aS a) i = sS (aS a) := if_neg (fun q => q.1 h80)
        refine V_aload_n (pc := 110) dX8_call_110 rfl rfl ?_
        refine V_getI (pc := 111) (ci := 8) (j := 11) dX8_call_111 fl_X8_132 (fun _ _ _ _ => rfl) (by decide) rfl ?_
        rw [m7, ← e1]
        refine V_putI (pc := 114) (ci := 8) (j := 11) dX8_call_114 fl_X8_132 (fun _ _ _ _ _ => rfl) rfl rfl (by decide) rfl ?_
        refine V_aload_n (pc := 117) dX8_call_117 rfl rfl ?_
        refine V_iload_n (pc := 118) dX8_call_118 rfl rfl ?_
        refine V_iconst (pc := 119) (v := (-1)) dX8_call_119 (by decide) ?_
        refine V_icmpeq (pc := 120) (tgt := 139) dX8_call_120 (by decide) (fun h120 => ?_) (fun h120 => ?_)
        · have h120 := (cI_m1 (a := c) (by omega)).mp h120; have e2 : refS (aS a) i c = refS1 (aS a) i := refS_eq.trans (if_neg (fun q => q.1 h120))
          refine V_aload_n (pc := 139) dX8_call_139 rfl rfl ?_
          refine V_getI (pc := 140) (ci := 8) (j := 11) dX8_call_140 fl_X8_132 (fun _ _ _ _ => rfl) (by decide) rfl ?_
          rw [get_eq, ← e2]
          refine V_putI (pc := 143) (ci := 8) (j := 11) dX8_call_143 fl_X8_132 (fun _ _ _ _ _ => rfl) rfl rfl (by decide) rfl ?_
          refine V_aload_n (pc := 146) dX8_call_146 rfl rfl ?_
          refine V_getR (pc := 147) (ci := 8) (j := 8) (k2 := 70) dX8_call_147 fl_X8_22 (fun _ _ _ _ => rfl) (by decide) rfl (rf_8_8 rfl) ?_
          refine V_iload_n (pc := 150) dX8_call_150 rfl rfl ?_
          refine V_iload_n (pc := 151) dX8_call_151 rfl rfl ?_
          refine V_iast (pc := 152) (j := i) dX8_call_152 (by decide) rfl rfl (by show i < 6; omega) ?_
          refine V_iload_n (pc := 153) dX8_call_153 rfl rfl ?_
          refine V_iret (pc := 154) dX8_call_154 rfl ?_
          exact ⟨rfl, hM.cal hi, (((FrS.rf.set (Or.inr ⟨rfl, by omega⟩)).set (Or.inr ⟨rfl, by omega⟩)).set (Or.inl ⟨by omega, by omega⟩)).X⟩
        have h120 := mt (cI_m1 (a := c) (by omega)).mpr h120
        refine V_iload (pc := 123) dX8_call_123 rfl ?_
        refine V_ifeq (pc := 125) (tgt := 139) dX8_call_125 (by decide) (fun h125 => ?_) (fun h125 => ?_)
        · exact absurd h125 (by decide)
        have e3 : refS (aS a) i c = refS1 (aS a) i ||| 2 ^ (c - 1) := refS_eq.trans (if_pos ⟨h120, h67⟩)
        refine V_aload_n (pc := 128) dX8_call_128 rfl rfl ?_
        refine V_getI (pc := 129) (ci := 8) (j := 11) dX8_call_129 fl_X8_132 (fun _ _ _ _ => rfl) (by decide) rfl ?_
        rw [get_eq]
        refine V_iconst (pc := 132) (v := 1) dX8_call_132 (by decide) ?_
        refine V_iload_n (pc := 133) dX8_call_133 rfl rfl ?_
        refine V_ishl (pc := 134) dX8_call_134 ?_
        refine V_ior (pc := 135) dX8_call_135 ?_
        rw [show nI (refS1 (aS a) i) ||| ((1 : Int32) <<< (cI c &&& 31)) = nI (refS1 (aS a) i ||| 2 ^ (c - 1)) from by rw [show cI c = nI (c - 1) from by rw [← cI_s, Nat.sub_add_cancel (by omega)]]; exact bit_set _ hR _ (by omega)]
        refine V_goto (pc := 136) (tgt := 143) dX8_call_136 (by decide) ?_
        rw [← e3]
        refine V_putI (pc := 143) (ci := 8) (j := 11) dX8_call_143 fl_X8_132 (fun _ _ _ _ _ => rfl) rfl rfl (by decide) rfl ?_
        refine V_aload_n (pc := 146) dX8_call_146 rfl rfl ?_
        refine V_getR (pc := 147) (ci := 8) (j := 8) (k2 := 70) dX8_call_147 fl_X8_22 (fun _ _ _ _ => rfl) (by decide) rfl (rf_8_8 rfl) ?_
        refine V_iload_n (pc := 150) dX8_call_150 rfl rfl ?_
        refine V_iload_n (pc := 151) dX8_call_151 rfl rfl ?_
        refine V_iast (pc := 152) (j := i) dX8_call_152 (by decide) rfl rfl (by show i < 6; omega) ?_
        refine V_iload_n (pc := 153) dX8_call_153 rfl rfl ?_
        refine V_iret (pc := 154) dX8_call_154 rfl ?_
        exact ⟨rfl, hM.cal hi, (((FrS.rf.set (Or.inr ⟨rfl, by omega⟩)).set (Or.inr ⟨rfl, by omega⟩)).set (Or.inl ⟨by omega, by omega⟩)).X⟩
      have h80 := mt (cI_m1 (a := sC (aS a) i) (by omega)).mpr h80
      refine V_iload (pc := 83) dX8_call_83 rfl ?_
      refine V_ifeq (pc := 85) (tgt := 110) dX8_call_85 (by decide) (fun h85 => ?_) (fun h85 => ?_)
      · exact absurd h85 (by decide)
      refine V_aload_n (pc := 88) dX8_call_88 rfl rfl ?_
      refine V_iload_n (pc := 89) dX8_call_89 rfl rfl ?_
      refine V_iload_n (pc := 90) dX8_call_90 rfl rfl ?_
      refine V_inv2 (pc := 91) (ci := 8) dX8_call_91 ml_X8_159 (by decide) rfl ⟨by decide, rfl⟩ (by first | decide | omega) (Nat.le_of_ble_eq_true rfl) (c_X8_isCalledToo μ hO hM hi h80 (by omega)) ?_
      rintro _ μ2 ⟨rfl, hμ⟩
      obtain rfl := hμ.symm
      refine V_ifne (pc := 94) (tgt := 110) dX8_call_94 (by decide) (fun h94 => ?_) (fun h94 => ?_)
      · have h94 := bI_ne h94; have e1 : refS1 (aS a) i = sS (aS a) := if_neg (fun q => Bool.noConfusion (h94.symm.trans q.2.2))
        refine V_aload_n (pc := 110) dX8_call_110 rfl rfl ?_
        refine V_getI (pc := 111) (ci := 8) (j := 11) dX8_call_111 fl_X8_132 (fun _ _ _ _ => rfl) (by decide) rfl ?_
        rw [m7, ← e1]
        refine V_putI (pc := 114) (ci := 8) (j := 11) dX8_call_114 fl_X8_132 (fun _ _ _ _ _ => rfl) rfl rfl (by decide) rfl ?_
        refine V_aload_n (pc := 117) dX8_call_117 rfl rfl ?_
        refine V_iload_n (pc := 118) dX8_call_118 rfl rfl ?_
        refine V_iconst (pc := 119) (v := (-1)) dX8_call_119 (by decide) ?_
        refine V_icmpeq (pc := 120) (tgt := 139) dX8_call_120 (by decide) (fun h120 => ?_) (fun h120 => ?_)
        · have h120 := (cI_m1 (a := c) (by omega)).mp h120; have e2 : refS (aS a) i c = refS1 (aS a) i := refS_eq.trans (if_neg (fun q => q.1 h120))
          refine V_aload_n (pc := 139) dX8_call_139 rfl rfl ?_
          refine V_getI (pc := 140) (ci := 8) (j := 11) dX8_call_140 fl_X8_132 (fun _ _ _ _ => rfl) (by decide) rfl ?_
          rw [get_eq, ← e2]
          refine V_putI (pc := 143) (ci := 8) (j := 11) dX8_call_143 fl_X8_132 (fun _ _ _ _ _ => rfl) rfl rfl (by decide) rfl ?_
          refine V_aload_n (pc := 146) dX8_call_146 rfl rfl ?_
          refine V_getR (pc := 147) (ci := 8) (j := 8) (k2 := 70) dX8_call_147 fl_X8_22 (fun _ _ _ _ => rfl) (by decide) rfl (rf_8_8 rfl) ?_
          refine V_iload_n (pc := 150) dX8_call_150 rfl rfl ?_
          refine V_iload_n (pc := 151) dX8_call_151 rfl rfl ?_
          refine V_iast (pc := 152) (j := i) dX8_call_152 (by decide) rfl rfl (by show i < 6; omega) ?_
          refine V_iload_n (pc := 153) dX8_call_153 rfl rfl ?_
          refine V_iret (pc := 154) dX8_call_154 rfl ?_
          exact ⟨rfl, hM.cal hi, (((FrS.rf.set (Or.inr ⟨rfl, by omega⟩)).set (Or.inr ⟨rfl, by omega⟩)).set (Or.inl ⟨by omega, by omega⟩)).X⟩
        have h120 := mt (cI_m1 (a := c) (by omega)).mpr h120
        refine V_iload (pc := 123) dX8_call_123 rfl ?_
        refine V_ifeq (pc := 125) (tgt := 139) dX8_call_125 (by decide) (fun h125 => ?_) (fun h125 => ?_)
        · exact absurd h125 (by decide)
        have e3 : refS (aS a) i c = refS1 (aS a) i ||| 2 ^ (c - 1) := refS_eq.trans (if_pos ⟨h120, h67⟩)
        refine V_aload_n (pc := 128) dX8_call_128 rfl rfl ?_
        refine V_getI (pc := 129) (ci := 8) (j := 11) dX8_call_129 fl_X8_132 (fun _ _ _ _ => rfl) (by decide) rfl ?_
        rw [get_eq]
        refine V_iconst (pc := 132) (v := 1) dX8_call_132 (by decide) ?_
        refine V_iload_n (pc := 133) dX8_call_133 rfl rfl ?_
        refine V_ishl (pc := 134) dX8_call_134 ?_
        refine V_ior (pc := 135) dX8_call_135 ?_
        rw [show nI (refS1 (aS a) i) ||| ((1 : Int32) <<< (cI c &&& 31)) = nI (refS1 (aS a) i ||| 2 ^ (c - 1)) from by rw [show cI c = nI (c - 1) from by rw [← cI_s, Nat.sub_add_cancel (by omega)]]; exact bit_set _ hR _ (by omega)]
        refine V_goto (pc := 136) (tgt := 143) dX8_call_136 (by decide) ?_
        rw [← e3]
        refine V_putI (pc := 143) (ci := 8) (j := 11) dX8_call_143 fl_X8_132 (fun _ _ _ _ _ => rfl) rfl rfl (by decide) rfl ?_
        refine V_aload_n (pc := 146) dX8_call_146 rfl rfl ?_
        refine V_getR (pc := 147) (ci := 8) (j := 8) (k2 := 70) dX8_call_147 fl_X8_22 (fun _ _ _ _ => rfl) (by decide) rfl (rf_8_8 rfl) ?_
        refine V_iload_n (pc := 150) dX8_call_150 rfl rfl ?_
        refine V_iload_n (pc := 151) dX8_call_151 rfl rfl ?_
        refine V_iast (pc := 152) (j := i) dX8_call_152 (by decide) rfl rfl (by show i < 6; omega) ?_
        refine V_iload_n (pc := 153) dX8_call_153 rfl rfl ?_
        refine V_iret (pc := 154) dX8_call_154 rfl ?_
        exact ⟨rfl, hM.cal hi, (((FrS.rf.set (Or.inr ⟨rfl, by omega⟩)).set (Or.inr ⟨rfl, by omega⟩)).set (Or.inl ⟨by omega, by omega⟩)).X⟩
      have h94 := bI_e h94; have e4 : refS1 (aS a) i = clr (sS (aS a)) (sC (aS a) i - 1) := if_pos ⟨h80, h67, h94⟩
      refine V_aload_n (pc := 97) dX8_call_97 rfl rfl ?_
      refine V_getI (pc := 98) (ci := 8) (j := 11) dX8_call_98 fl_X8_132 (fun _ _ _ _ => rfl) (by decide) rfl ?_
      rw [m7]
      refine V_iconst (pc := 101) (v := 1) dX8_call_101 (by decide) ?_
      refine V_iload_n (pc := 102) dX8_call_102 rfl rfl ?_
      refine V_ishl (pc := 103) dX8_call_103 ?_
      refine V_iconst (pc := 104) (v := (-1)) dX8_call_104 (by decide) ?_
      refine V_ixor (pc := 105) dX8_call_105 ?_
      refine V_iand (pc := 106) dX8_call_106 ?_
      rw [show nI (sS (aS a)) &&& (((1 : Int32) <<< (cI (sC (aS a) i) &&& 31)) ^^^ (-1)) = nI (clr (sS (aS a)) (sC (aS a) i - 1)) from by rw [show cI (sC (aS a) i) = nI (sC (aS a) i - 1) from by rw [← cI_s, Nat.sub_add_cancel (by omega)]]; exact bit_clr _ s2 _ (by omega)]
      refine V_goto (pc := 107) (tgt := 114) dX8_call_107 (by decide) ?_
      rw [← e4]
      refine V_putI (pc := 114) (ci := 8) (j := 11) dX8_call_114 fl_X8_132 (fun _ _ _ _ _ => rfl) rfl rfl (by decide) rfl ?_
      refine V_aload_n (pc := 117) dX8_call_117 rfl rfl ?_
      refine V_iload_n (pc := 118) dX8_call_118 rfl rfl ?_
      refine V_iconst (pc := 119) (v := (-1)) dX8_call_119 (by decide) ?_
      refine V_icmpeq (pc := 120) (tgt := 139) dX8_call_120 (by decide) (fun h120 => ?_) (fun h120 => ?_)
      · have h120 := (cI_m1 (a := c) (by omega)).mp h120; have e2 : refS (aS a) i c = refS1 (aS a) i := refS_eq.trans (if_neg (fun q => q.1 h120))
        refine V_aload_n (pc := 139) dX8_call_139 rfl rfl ?_
        refine V_getI (pc := 140) (ci := 8) (j := 11) dX8_call_140 fl_X8_132 (fun _ _ _ _ => rfl) (by decide) rfl ?_
        rw [get_eq, ← e2]
        refine V_putI (pc := 143) (ci := 8) (j := 11) dX8_call_143 fl_X8_132 (fun _ _ _ _ _ => rfl) rfl rfl (by decide) rfl ?_
        refine V_aload_n (pc := 146) dX8_call_146 rfl rfl ?_
        refine V_getR (pc := 147) (ci := 8) (j := 8) (k2 := 70) dX8_call_147 fl_X8_22 (fun _ _ _ _ => rfl) (by decide) rfl (rf_8_8 rfl) ?_
        refine V_iload_n (pc := 150) dX8_call_150 rfl rfl ?_
        refine V_iload_n (pc := 151) dX8_call_151 rfl rfl ?_
        refine V_iast (pc := 152) (j := i) dX8_call_152 (by decide) rfl rfl (by show i < 6; omega) ?_
        refine V_iload_n (pc := 153) dX8_call_153 rfl rfl ?_
        refine V_iret (pc := 154) dX8_call_154 rfl ?_
        exact ⟨rfl, hM.cal hi, (((FrS.rf.set (Or.inr ⟨rfl, by omega⟩)).set (Or.inr ⟨rfl, by omega⟩)).set (Or.inl ⟨by omega, by omega⟩)).X⟩
      have h120 := mt (cI_m1 (a := c) (by omega)).mpr h120
      refine V_iload (pc := 123) dX8_call_123 rfl ?_
      refine V_ifeq (pc := 125) (tgt := 139) dX8_call_125 (by decide) (fun h125 => ?_) (fun h125 => ?_)
      · exact absurd h125 (by decide)
      have e3 : refS (aS a) i c = refS1 (aS a) i ||| 2 ^ (c - 1) := refS_eq.trans (if_pos ⟨h120, h67⟩)
      refine V_aload_n (pc := 128) dX8_call_128 rfl rfl ?_
      refine V_getI (pc := 129) (ci := 8) (j := 11) dX8_call_129 fl_X8_132 (fun _ _ _ _ => rfl) (by decide) rfl ?_
      rw [get_eq]
      refine V_iconst (pc := 132) (v := 1) dX8_call_132 (by decide) ?_
      refine V_iload_n (pc := 133) dX8_call_133 rfl rfl ?_
      refine V_ishl (pc := 134) dX8_call_134 ?_
      refine V_ior (pc := 135) dX8_call_135 ?_
      rw [show nI (refS1 (aS a) i) ||| ((1 : Int32) <<< (cI c &&& 31)) = nI (refS1 (aS a) i ||| 2 ^ (c - 1)) from by rw [show cI c = nI (c - 1) from by rw [← cI_s, Nat.sub_add_cancel (by omega)]]; exact bit_set _ hR _ (by omega)]
      refine V_goto (pc := 136) (tgt := 143) dX8_call_136 (by decide) ?_
      rw [← e3]
      refine V_putI (pc := 143) (ci := 8) (j := 11) dX8_call_143 fl_X8_132 (fun _ _ _ _ _ => rfl) rfl rfl (by decide) rfl ?_
      refine V_aload_n (pc := 146) dX8_call_146 rfl rfl ?_
      refine V_getR (pc := 147) (ci := 8) (j := 8) (k2 := 70) dX8_call_147 fl_X8_22 (fun _ _ _ _ => rfl) (by decide) rfl (rf_8_8 rfl) ?_
      refine V_iload_n (pc := 150) dX8_call_150 rfl rfl ?_
      refine V_iload_n (pc := 151) dX8_call_151 rfl rfl ?_
      refine V_iast (pc := 152) (j := i) dX8_call_152 (by decide) rfl rfl (by show i < 6; omega) ?_
      refine V_iload_n (pc := 153) dX8_call_153 rfl rfl ?_
      refine V_iret (pc := 154) dX8_call_154 rfl ?_
      exact ⟨rfl, hM.cal hi, (((FrS.rf.set (Or.inr ⟨rfl, by omega⟩)).set (Or.inr ⟨rfl, by omega⟩)).set (Or.inl ⟨by omega, by omega⟩)).X⟩
    have h47 := bI_ne h47
    refine V_bipush (pc := 50) (v := (-103)) dX8_call_50 (by decide) ?_
    refine V_iret (pc := 52) dX8_call_52 rfl ?_
    first
    | (rw [if_pos (Or.inl h31)]; exact ⟨rfl, hM, FrX.rf⟩)
    | (rw [if_pos (Or.inr ⟨h36, h47⟩)]; exact ⟨rfl, hM, FrX.rf⟩)
  refine V_iload_n (pc := 13) dX8_call_13 rfl rfl ?_
  refine V_ins1 (pc := 14) dX8_call_14 ml_X8_144 (by first | decide | omega) (Nat.le_of_ble_eq_true rfl) (c_X8_isName μ) ?_
  rintro _ μ2 ⟨rfl, hμ⟩
  obtain rfl := hμ.symm
  refine V_ifne (pc := 17) (tgt := 23) dX8_call_17 (by decide) (fun h17 => ?_) (fun h17 => ?_)
  · have h17 := bI_ne h17
    have hy : (decide (y = -1) || inN y 6) = true := by
      first
      | (rw [h17, Bool.or_true]; done)
      | (rw [decide_eq_true h10]; rfl)
    obtain ⟨c, hc6, hcy, rfl⟩ : ∃ c, c ≤ 6 ∧ cCode y = c ∧ y = cI c := by
      by_cases q : y = -1
      · exact ⟨0, by omega, if_pos q, q⟩
      · rw [decide_eq_false q] at hy
        obtain ⟨j, hj, rfl⟩ := inN_of (n := 6) (by decide) hy
        exact ⟨j + 1, by omega, by unfold cCode; rw [if_neg q, nn_nI (by omega)], (cI_s j).symm⟩
    have hx := h5
    obtain ⟨i, hi, rfl⟩ := inN_of (by omega) h5
    obtain ⟨n1, n2, n3, n4, n5⟩ := m6 i hi
    obtain ⟨k4, p9, c6⟩ := s4 i (by omega)
    have ef : fCall a (nI i) (cI c) = if sP (aS a) i = 9 ∨ (c ≠ 0 ∧ (sS (aS a)).testBit (c - 1) = true) then (-103, a) else (cI (sC (aS a) i), setA a (wS (wC (aS a) i c) (refS (aS a) i c))) := by
      unfold fCall
      rw [hx, hy, nn_nI (by omega), hcy, repC_ref hJ hi]
      simp only [Bool.and_self, if_true]
      by_cases q : c = 0
      · rw [q, cI_0]; simp
      · have q2 : ¬ cI c = -1 := fun e => q ((cI_m1 (by omega)).mp e)
        have q3 : nn (cI c) = c - 1 := by
          obtain ⟨j, rfl⟩ : ∃ j, c = j + 1 := ⟨c - 1, by omega⟩
          rw [cI_s, nn_nI (by omega)]; rfl
        simp [q, q2, q3]
    rw [ef]
    clear ef
    refine V_aload_n (pc := 23) dX8_call_23 rfl rfl ?_
    refine V_getR (pc := 24) (ci := 8) (j := 7) (k2 := 69) dX8_call_24 fl_X8_19 (fun _ _ _ _ => rfl) (by decide) rfl (rf_8_7 rfl) ?_
    refine V_iload_n (pc := 27) dX8_call_27 rfl rfl ?_
    refine V_iald (pc := 28) (j := i) dX8_call_28 (by decide) rfl rfl (by show i < 6; omega) ?_
    rw [n2]
    refine V_bipush (pc := 29) (v := 9) dX8_call_29 (by decide) ?_
    refine V_icmpeq (pc := 31) (tgt := 50) dX8_call_31 (by decide) (fun h31 => ?_) (fun h31 => ?_)
    · have h31 := (nI_eq (a := sP (aS a) i) (b := 9) (by omega) (by omega)).mp h31
      refine V_bipush (pc := 50) (v := (-103)) dX8_call_50 (by decide) ?_
      refine V_iret (pc := 52) dX8_call_52 rfl ?_
      first
      | (rw [if_pos (Or.inl h31)]; exact ⟨rfl, hM, FrX.rf⟩)
      | (rw [if_pos (Or.inr ⟨h36, h47⟩)]; exact ⟨rfl, hM, FrX.rf⟩)
    have h31 := mt (nI_eq (a := sP (aS a) i) (b := 9) (by omega) (by omega)).mpr h31
    refine V_iload_n (pc := 34) dX8_call_34 rfl rfl ?_
    refine V_iconst (pc := 35) (v := (-1)) dX8_call_35 (by decide) ?_
    refine V_icmpeq (pc := 36) (tgt := 53) dX8_call_36 (by decide) (fun h36 => ?_) (fun h36 => ?_)
    · have h36 := (cI_m1 (a := c) (by omega)).mp h36
      have hno : ¬ (sP (aS a) i = 9 ∨ (c ≠ 0 ∧ (sS (aS a)).testBit (c - 1) = true)) := by
        rintro (q | q)
        · exact h31 q
        · first
          | exact q.1 h36
          | (rw [h47] at q; exact absurd q.2 (by decide))
      rw [if_neg hno]
      have hR := refS1_lt (i := i) s2 c6
      refine V_aload_n (pc := 53) dX8_call_53 rfl rfl ?_
      refine V_getR (pc := 54) (ci := 8) (j := 8) (k2 := 70) dX8_call_54 fl_X8_22 (fun _ _ _ _ => rfl) (by decide) rfl (rf_8_8 rfl) ?_
      refine V_iload_n (pc := 57) dX8_call_57 rfl rfl ?_
      refine V_iald (pc := 58) (j := i) dX8_call_58 (by decide) rfl rfl (by show i < 6; omega) ?_
      rw [n3]
      refine V_istore3 (pc := 59) dX8_call_59 (by decide) rfl ?_
      refine V_aload_n (pc := 60) dX8_call_60 rfl rfl ?_
      refine V_getR (pc := 61) (ci := 8) (j := 6) (k2 := 68) dX8_call_61 fl_X8_16 (fun _ _ _ _ => rfl) (by decide) rfl (rf_8_6 rfl) ?_
      refine V_iload_n (pc := 64) dX8_call_64 rfl rfl ?_
      refine V_iald (pc := 65) (j := i) dX8_call_65 (by decide) rfl rfl (by show i < 6; omega) ?_
      rw [n1]
      refine V_iconst (pc := 66) (v := 4) dX8_call_66 (by decide) ?_
      refine V_icmpeq (pc := 67) (tgt := 74) dX8_call_67 (by decide) (fun h67 => ?_) (fun h67 => ?_)
      · have h67 := (nI_eq (a := sK (aS a) i) (b := 4) (by omega) (by omega)).mp h67
        refine V_iconst (pc := 74) (v := 0) dX8_call_74 (by decide) ?_
        refine V_istore4 (pc := 75) dX8_call_75 (by decide) rfl ?_
        refine V_aload_n (pc := 77) dX8_call_77 rfl rfl ?_
        refine V_iload_n (pc := 78) dX8_call_78 rfl rfl ?_
        refine V_iconst (pc := 79) (v := (-1)) dX8_call_79 (by decide) ?_
        refine V_icmpeq (pc := 80) (tgt := 110) dX8_call_80 (by decide) (fun h80 => ?_) (fun h80 => ?_)
        · have h80 := (cI_m1 (a := sC (aS a) i) (by omega)).mp h80; have e1 : refS1 (aS a) i = sS (aS a) := if_neg (fun q => q.1 h80)
          refine V_aload_n (pc := 110) dX8_call_110 rfl rfl ?_
          refine V_getI (pc := 111) (ci := 8) (j := 11) dX8_call_111 fl_X8_132 (fun _ _ _ _ => rfl) (by decide) rfl ?_
          rw [m7, ← e1]
          refine V_putI (pc := 114) (ci := 8) (j := 11) dX8_call_114 fl_X8_132 (fun _ _ _ _ _ => rfl) rfl rfl (by decide) rfl ?_
          refine V_aload_n (pc := 117) dX8_call_117 rfl rfl ?_
          refine V_iload_n (pc := 118) dX8_call_118 rfl rfl ?_
          refine V_iconst (pc := 119) (v := (-1)) dX8_call_119 (by decide) ?_
          refine V_icmpeq (pc := 120) (tgt := 139) dX8_call_120 (by decide) (fun h120 => ?_) (fun h120 => ?_)
          · have h120 := (cI_m1 (a := c) (by omega)).mp h120; have e2 : refS (aS a) i c = refS1 (aS a) i := refS_eq.trans (if_neg (fun q => q.1 h120))
            refine V_aload_n (pc := 139) dX8_call_139 rfl rfl ?_
            refine V_getI (pc := 140) (ci := 8) (j := 11) dX8_call_140 fl_X8_132 (fun _ _ _ _ => rfl) (by decide) rfl ?_
            rw [get_eq, ← e2]
            refine V_putI (pc := 143) (ci := 8) (j := 11) dX8_call_143 fl_X8_132 (fun _ _ _ _ _ => rfl) rfl rfl (by decide) rfl ?_
            refine V_aload_n (pc := 146) dX8_call_146 rfl rfl ?_
            refine V_getR (pc := 147) (ci := 8) (j := 8) (k2 := 70) dX8_call_147 fl_X8_22 (fun _ _ _ _ => rfl) (by decide) rfl (rf_8_8 rfl) ?_
            refine V_iload_n (pc := 150) dX8_call_150 rfl rfl ?_
            refine V_iload_n (pc := 151) dX8_call_151 rfl rfl ?_
            refine V_iast (pc := 152) (j := i) dX8_call_152 (by decide) rfl rfl (by show i < 6; omega) ?_
            refine V_iload_n (pc := 153) dX8_call_153 rfl rfl ?_
            refine V_iret (pc := 154) dX8_call_154 rfl ?_
            exact ⟨rfl, hM.cal hi, (((FrS.rf.set (Or.inr ⟨rfl, by omega⟩)).set (Or.inr ⟨rfl, by omega⟩)).set (Or.inl ⟨by omega, by omega⟩)).X⟩
          have h120 := mt (cI_m1 (a := c) (by omega)).mpr h120
          refine V_iload (pc := 123) dX8_call_123 rfl ?_
          refine V_ifeq (pc := 125) (tgt := 139) dX8_call_125 (by decide) (fun h125 => ?_) (fun h125 => ?_)
          · have e2 : refS (aS a) i c = refS1 (aS a) i := refS_eq.trans (if_neg (fun q => q.2 h67))
            refine V_aload_n (pc := 139) dX8_call_139 rfl rfl ?_
            refine V_getI (pc := 140) (ci := 8) (j := 11) dX8_call_140 fl_X8_132 (fun _ _ _ _ => rfl) (by decide) rfl ?_
            rw [get_eq, ← e2]
            refine V_putI (pc := 143) (ci := 8) (j := 11) dX8_call_143 fl_X8_132 (fun _ _ _ _ _ => rfl) rfl rfl (by decide) rfl ?_
            refine V_aload_n (pc := 146) dX8_call_146 rfl rfl ?_
            refine V_getR (pc := 147) (ci := 8) (j := 8) (k2 := 70) dX8_call_147 fl_X8_22 (fun _ _ _ _ => rfl) (by decide) rfl (rf_8_8 rfl) ?_
            refine V_iload_n (pc := 150) dX8_call_150 rfl rfl ?_
            refine V_iload_n (pc := 151) dX8_call_151 rfl rfl ?_
            refine V_iast (pc := 152) (j := i) dX8_call_152 (by decide) rfl rfl (by show i < 6; omega) ?_
            refine V_iload_n (pc := 153) dX8_call_153 rfl rfl ?_
            refine V_iret (pc := 154) dX8_call_154 rfl ?_
            exact ⟨rfl, hM.cal hi, (((FrS.rf.set (Or.inr ⟨rfl, by omega⟩)).set (Or.inr ⟨rfl, by omega⟩)).set (Or.inl ⟨by omega, by omega⟩)).X⟩
          exact absurd rfl h125
        have h80 := mt (cI_m1 (a := sC (aS a) i) (by omega)).mpr h80
        refine V_iload (pc := 83) dX8_call_83 rfl ?_
        refine V_ifeq (pc := 85) (tgt := 110) dX8_call_85 (by decide) (fun h85 => ?_) (fun h85 => ?_)
        · have e1 : refS1 (aS a) i = sS (aS a) := if_neg (fun q => q.2.1 h67)
          refine V_aload_n (pc := 110) dX8_call_110 rfl rfl ?_
          refine V_getI (pc := 111) (ci := 8) (j := 11) dX8_call_111 fl_X8_132 (fun _ _ _ _ => rfl) (by decide) rfl ?_
          rw [m7, ← e1]
          refine V_putI (pc := 114) (ci := 8) (j := 11) dX8_call_114 fl_X8_132 (fun _ _ _ _ _ => rfl) rfl rfl (by decide) rfl ?_
          refine V_aload_n (pc := 117) dX8_call_117 rfl rfl ?_
          refine V_iload_n (pc := 118) dX8_call_118 rfl rfl ?_
          refine V_iconst (pc := 119) (v := (-1)) dX8_call_119 (by decide) ?_
          refine V_icmpeq (pc := 120) (tgt := 139) dX8_call_120 (by decide) (fun h120 => ?_) (fun h120 => ?_)
          · have h120 := (cI_m1 (a := c) (by omega)).mp h120; have e2 : refS (aS a) i c = refS1 (aS a) i := refS_eq.trans (if_neg (fun q => q.1 h120))
            refine V_aload_n (pc := 139) dX8_call_139 rfl rfl ?_
            refine V_getI (pc := 140) (ci := 8) (j := 11) dX8_call_140 fl_X8_132 (fun _ _ _ _ => rfl) (by decide) rfl ?_
            rw [get_eq, ← e2]
            refine V_putI (pc := 143) (ci := 8) (j := 11) dX8_call_143 fl_X8_132 (fun _ _ _ _ _ => rfl) rfl rfl (by decide) rfl ?_
            refine V_aload_n (pc := 146) dX8_call_146 rfl rfl ?_
            refine V_getR (pc := 147) (ci := 8) (j := 8) (k2 := 70) dX8_call_147 fl_X8_22 (fun _ _ _ _ => rfl) (by decide) rfl (rf_8_8 rfl) ?_
            refine V_iload_n (pc := 150) dX8_call_150 rfl rfl ?_
            refine V_iload_n (pc := 151) dX8_call_151 rfl rfl ?_
            refine V_iast (pc := 152) (j := i) dX8_call_152 (by decide) rfl rfl (by show i < 6; omega) ?_
            refine V_iload_n (pc := 153) dX8_call_153 rfl rfl ?_
            refine V_iret (pc := 154) dX8_call_154 rfl ?_
            exact ⟨rfl, hM.cal hi, (((FrS.rf.set (Or.inr ⟨rfl, by omega⟩)).set (Or.inr ⟨rfl, by omega⟩)).set (Or.inl ⟨by omega, by omega⟩)).X⟩
          have h120 := mt (cI_m1 (a := c) (by omega)).mpr h120
          refine V_iload (pc := 123) dX8_call_123 rfl ?_
          refine V_ifeq (pc := 125) (tgt := 139) dX8_call_125 (by decide) (fun h125 => ?_) (fun h125 => ?_)
          · have e2 : refS (aS a) i c = refS1 (aS a) i := refS_eq.trans (if_neg (fun q => q.2 h67))
            refine V_aload_n (pc := 139) dX8_call_139 rfl rfl ?_
            refine V_getI (pc := 140) (ci := 8) (j := 11) dX8_call_140 fl_X8_132 (fun _ _ _ _ => rfl) (by decide) rfl ?_
            rw [get_eq, ← e2]
            refine V_putI (pc := 143) (ci := 8) (j := 11) dX8_call_143 fl_X8_132 (fun _ _ _ _ _ => rfl) rfl rfl (by decide) rfl ?_
            refine V_aload_n (pc := 146) dX8_call_146 rfl rfl ?_
            refine V_getR (pc := 147) (ci := 8) (j := 8) (k2 := 70) dX8_call_147 fl_X8_22 (fun _ _ _ _ => rfl) (by decide) rfl (rf_8_8 rfl) ?_
            refine V_iload_n (pc := 150) dX8_call_150 rfl rfl ?_
            refine V_iload_n (pc := 151) dX8_call_151 rfl rfl ?_
            refine V_iast (pc := 152) (j := i) dX8_call_152 (by decide) rfl rfl (by show i < 6; omega) ?_
            refine V_iload_n (pc := 153) dX8_call_153 rfl rfl ?_
            refine V_iret (pc := 154) dX8_call_154 rfl ?_
            exact ⟨rfl, hM.cal hi, (((FrS.rf.set (Or.inr ⟨rfl, by omega⟩)).set (Or.inr ⟨rfl, by omega⟩)).set (Or.inl ⟨by omega, by omega⟩)).X⟩
          exact absurd rfl h125
        exact absurd rfl h85
      have h67 := mt (nI_eq (a := sK (aS a) i) (b := 4) (by omega) (by omega)).mpr h67
      refine V_iconst (pc := 70) (v := 1) dX8_call_70 (by decide) ?_
      refine V_goto (pc := 71) (tgt := 75) dX8_call_71 (by decide) ?_
      refine V_istore4 (pc := 75) dX8_call_75 (by decide) rfl ?_
      refine V_aload_n (pc := 77) dX8_call_77 rfl rfl ?_
      refine V_iload_n (pc := 78) dX8_call_78 rfl rfl ?_
      refine V_iconst (pc := 79) (v := (-1)) dX8_call_79 (by decide) ?_
      refine V_icmpeq (pc := 80) (tgt := 110) dX8_call_80 (by decide) (fun h80 => ?_) (fun h80 => ?_)
      · have h80 := (cI_m1 (a := sC (aS a) i) (by omega)).mp h80; have e1 : refS1 (aS a) i = sS (aS a) := if_neg (fun q => q.1 h80)
        refine V_aload_n (pc := 110) dX8_call_110 rfl rfl ?_
        refine V_getI (pc := 111) (ci := 8) (j := 11) dX8_call_111 fl_X8_132 (fun _ _ _ _ => rfl) (by decide) rfl ?_
        rw [m7, ← e1]
        refine V_putI (pc := 114) (ci := 8) (j := 11) dX8_call_114 fl_X8_132 (fun _ _ _ _ _ => rfl) rfl rfl (by decide) rfl ?_
        refine V_aload_n (pc := 117) dX8_call_117 rfl rfl ?_
        refine V_iload_n (pc := 118) dX8_call_118 rfl rfl ?_
        refine V_iconst (pc := 119) (v := (-1)) dX8_call_119 (by decide) ?_
        refine V_icmpeq (pc := 120) (tgt := 139) dX8_call_120 (by decide) (fun h120 => ?_) (fun h120 => ?_)
        · have h120 := (cI_m1 (a := c) (by omega)).mp h120; have e2 : refS (aS a) i c = refS1 (aS a) i := refS_eq.trans (if_neg (fun q => q.1 h120))
          refine V_aload_n (pc := 139) dX8_call_139 rfl rfl ?_
          refine V_getI (pc := 140) (ci := 8) (j := 11) dX8_call_140 fl_X8_132 (fun _ _ _ _ => rfl) (by decide) rfl ?_
          rw [get_eq, ← e2]
          refine V_putI (pc := 143) (ci := 8) (j := 11) dX8_call_143 fl_X8_132 (fun _ _ _ _ _ => rfl) rfl rfl (by decide) rfl ?_
          refine V_aload_n (pc := 146) dX8_call_146 rfl rfl ?_
          refine V_getR (pc := 147) (ci := 8) (j := 8) (k2 := 70) dX8_call_147 fl_X8_22 (fun _ _ _ _ => rfl) (by decide) rfl (rf_8_8 rfl) ?_
          refine V_iload_n (pc := 150) dX8_call_150 rfl rfl ?_
          refine V_iload_n (pc := 151) dX8_call_151 rfl rfl ?_
          refine V_iast (pc := 152) (j := i) dX8_call_152 (by decide) rfl rfl (by show i < 6; omega) ?_
          refine V_iload_n (pc := 153) dX8_call_153 rfl rfl ?_
          refine V_iret (pc := 154) dX8_call_154 rfl ?_
          exact ⟨rfl, hM.cal hi, (((FrS.rf.set (Or.inr ⟨rfl, by omega⟩)).set (Or.inr ⟨rfl, by omega⟩)).set (Or.inl ⟨by omega, by omega⟩)).X⟩
        have h120 := mt (cI_m1 (a := c) (by omega)).mpr h120
        refine V_iload (pc := 123) dX8_call_123 rfl ?_
        refine V_ifeq (pc := 125) (tgt := 139) dX8_call_125 (by decide) (fun h125 => ?_) (fun h125 => ?_)
        · exact absurd h125 (by decide)
        have e3 : refS (aS a) i c = refS1 (aS a) i ||| 2 ^ (c - 1) := refS_eq.trans (if_pos ⟨h120, h67⟩)
        refine V_aload_n (pc := 128) dX8_call_128 rfl rfl ?_
        refine V_getI (pc := 129) (ci := 8) (j := 11) dX8_call_129 fl_X8_132 (fun _ _ _ _ => rfl) (by decide) rfl ?_
        rw [get_eq]
        refine V_iconst (pc := 132) (v := 1) dX8_call_132 (by decide) ?_
        refine V_iload_n (pc := 133) dX8_call_133 rfl rfl ?_
        refine V_ishl (pc := 134) dX8_call_134 ?_
        refine V_ior (pc := 135) dX8_call_135 ?_
        rw [show nI (refS1 (aS a) i) ||| ((1 : Int32) <<< (cI c &&& 31)) = nI (refS1 (aS a) i ||| 2 ^ (c - 1)) from by rw [show cI c = nI (c - 1) from by rw [← cI_s, Nat.sub_add_cancel (by omega)]]; exact bit_set _ hR _ (by omega)]
        refine V_goto (pc := 136) (tgt := 143) dX8_call_136 (by decide) ?_
        rw [← e3]
        refine V_putI (pc := 143) (ci := 8) (j := 11) dX8_call_143 fl_X8_132 (fun _ _ _ _ _ => rfl) rfl rfl (by decide) rfl ?_
        refine V_aload_n (pc := 146) dX8_call_146 rfl rfl ?_
        refine V_getR (pc := 147) (ci := 8) (j := 8) (k2 := 70) dX8_call_147 fl_X8_22 (fun _ _ _ _ => rfl) (by decide) rfl (rf_8_8 rfl) ?_
        refine V_iload_n (pc := 150) dX8_call_150 rfl rfl ?_
        refine V_iload_n (pc := 151) dX8_call_151 rfl rfl ?_
        refine V_iast (pc := 152) (j := i) dX8_call_152 (by decide) rfl rfl (by show i < 6; omega) ?_
        refine V_iload_n (pc := 153) dX8_call_153 rfl rfl ?_
        refine V_iret (pc := 154) dX8_call_154 rfl ?_
        exact ⟨rfl, hM.cal hi, (((FrS.rf.set (Or.inr ⟨rfl, by omega⟩)).set (Or.inr ⟨rfl, by omega⟩)).set (Or.inl ⟨by omega, by omega⟩)).X⟩
      have h80 := mt (cI_m1 (a := sC (aS a) i) (by omega)).mpr h80
      refine V_iload (pc := 83) dX8_call_83 rfl ?_
      refine V_ifeq (pc := 85) (tgt := 110) dX8_call_85 (by decide) (fun h85 => ?_) (fun h85 => ?_)
      · exact absurd h85 (by decide)
      refine V_aload_n (pc := 88) dX8_call_88 rfl rfl ?_
      refine V_iload_n (pc := 89) dX8_call_89 rfl rfl ?_
      refine V_iload_n (pc := 90) dX8_call_90 rfl rfl ?_
      refine V_inv2 (pc := 91) (ci := 8) dX8_call_91 ml_X8_159 (by decide) rfl ⟨by decide, rfl⟩ (by first | decide | omega) (Nat.le_of_ble_eq_true rfl) (c_X8_isCalledToo μ hO hM hi h80 (by omega)) ?_
      rintro _ μ2 ⟨rfl, hμ⟩
      obtain rfl := hμ.symm
      refine V_ifne (pc := 94) (tgt := 110) dX8_call_94 (by decide) (fun h94 => ?_) (fun h94 => ?_)
      · have h94 := bI_ne h94; have e1 : refS1 (aS a) i = sS (aS a) := if_neg (fun q => Bool.noConfusion (h94.symm.trans q.2.2))
        refine V_aload_n (pc := 110) dX8_call_110 rfl rfl ?_
        refine V_getI (pc := 111) (ci := 8) (j := 11) dX8_call_111 fl_X8_132 (fun _ _ _ _ => rfl) (by decide) rfl ?_
        rw [m7, ← e1]
        refine V_putI (pc := 114) (ci := 8) (j := 11) dX8_call_114 fl_X8_132 (fun _ _ _ _ _ => rfl) rfl rfl (by decide) rfl ?_
        refine V_aload_n (pc := 117) dX8_call_117 rfl rfl ?_
        refine V_iload_n (pc := 118) dX8_call_118 rfl rfl ?_
        refine V_iconst (pc := 119) (v := (-1)) dX8_call_119 (by decide) ?_
        refine V_icmpeq (pc := 120) (tgt := 139) dX8_call_120 (by decide) (fun h120 => ?_) (fun h120 => ?_)
        · have h120 := (cI_m1 (a := c) (by omega)).mp h120; have e2 : refS (aS a) i c = refS1 (aS a) i := refS_eq.trans (if_neg (fun q => q.1 h120))
          refine V_aload_n (pc := 139) dX8_call_139 rfl rfl ?_
          refine V_getI (pc := 140) (ci := 8) (j := 11) dX8_call_140 fl_X8_132 (fun _ _ _ _ => rfl) (by decide) rfl ?_
          rw [get_eq, ← e2]
          refine V_putI (pc := 143) (ci := 8) (j := 11) dX8_call_143 fl_X8_132 (fun _ _ _ _ _ => rfl) rfl rfl (by decide) rfl ?_
          refine V_aload_n (pc := 146) dX8_call_146 rfl rfl ?_
          refine V_getR (pc := 147) (ci := 8) (j := 8) (k2 := 70) dX8_call_147 fl_X8_22 (fun _ _ _ _ => rfl) (by decide) rfl (rf_8_8 rfl) ?_
          refine V_iload_n (pc := 150) dX8_call_150 rfl rfl ?_
          refine V_iload_n (pc := 151) dX8_call_151 rfl rfl ?_
          refine V_iast (pc := 152) (j := i) dX8_call_152 (by decide) rfl rfl (by show i < 6; omega) ?_
          refine V_iload_n (pc := 153) dX8_call_153 rfl rfl ?_
          refine V_iret (pc := 154) dX8_call_154 rfl ?_
          exact ⟨rfl, hM.cal hi, (((FrS.rf.set (Or.inr ⟨rfl, by omega⟩)).set (Or.inr ⟨rfl, by omega⟩)).set (Or.inl ⟨by omega, by omega⟩)).X⟩
        have h120 := mt (cI_m1 (a := c) (by omega)).mpr h120
        refine V_iload (pc := 123) dX8_call_123 rfl ?_
        refine V_ifeq (pc := 125) (tgt := 139) dX8_call_125 (by decide) (fun h125 => ?_) (fun h125 => ?_)
        · exact absurd h125 (by decide)
        have e3 : refS (aS a) i c = refS1 (aS a) i ||| 2 ^ (c - 1) := refS_eq.trans (if_pos ⟨h120, h67⟩)
        refine V_aload_n (pc := 128) dX8_call_128 rfl rfl ?_
        refine V_getI (pc := 129) (ci := 8) (j := 11) dX8_call_129 fl_X8_132 (fun _ _ _ _ => rfl) (by decide) rfl ?_
        rw [get_eq]
        refine V_iconst (pc := 132) (v := 1) dX8_call_132 (by decide) ?_
        refine V_iload_n (pc := 133) dX8_call_133 rfl rfl ?_
        refine V_ishl (pc := 134) dX8_call_134 ?_
        refine V_ior (pc := 135) dX8_call_135 ?_
        rw [show nI (refS1 (aS a) i) ||| ((1 : Int32) <<< (cI c &&& 31)) = nI (refS1 (aS a) i ||| 2 ^ (c - 1)) from by rw [show cI c = nI (c - 1) from by rw [← cI_s, Nat.sub_add_cancel (by omega)]]; exact bit_set _ hR _ (by omega)]
        refine V_goto (pc := 136) (tgt := 143) dX8_call_136 (by decide) ?_
        rw [← e3]
        refine V_putI (pc := 143) (ci := 8) (j := 11) dX8_call_143 fl_X8_132 (fun _ _ _ _ _ => rfl) rfl rfl (by decide) rfl ?_
        refine V_aload_n (pc := 146) dX8_call_146 rfl rfl ?_
        refine V_getR (pc := 147) (ci := 8) (j := 8) (k2 := 70) dX8_call_147 fl_X8_22 (fun _ _ _ _ => rfl) (by decide) rfl (rf_8_8 rfl) ?_
        refine V_iload_n (pc := 150) dX8_call_150 rfl rfl ?_
        refine V_iload_n (pc := 151) dX8_call_151 rfl rfl ?_
        refine V_iast (pc := 152) (j := i) dX8_call_152 (by decide) rfl rfl (by show i < 6; omega) ?_
        refine V_iload_n (pc := 153) dX8_call_153 rfl rfl ?_
        refine V_iret (pc := 154) dX8_call_154 rfl ?_
        exact ⟨rfl, hM.cal hi, (((FrS.rf.set (Or.inr ⟨rfl, by omega⟩)).set (Or.inr ⟨rfl, by omega⟩)).set (Or.inl ⟨by omega, by omega⟩)).X⟩
      have h94 := bI_e h94; have e4 : refS1 (aS a) i = clr (sS (aS a)) (sC (aS a) i - 1) := if_pos ⟨h80, h67, h94⟩
      refine V_aload_n (pc := 97) dX8_call_97 rfl rfl ?_
      refine V_getI (pc := 98) (ci := 8) (j := 11) dX8_call_98 fl_X8_132 (fun _ _ _ _ => rfl) (by decide) rfl ?_
      rw [m7]
      refine V_iconst (pc := 101) (v := 1) dX8_call_101 (by decide) ?_
      refine V_iload_n (pc := 102) dX8_call_102 rfl rfl ?_
      refine V_ishl (pc := 103) dX8_call_103 ?_
      refine V_iconst (pc := 104) (v := (-1)) dX8_call_104 (by decide) ?_
      refine V_ixor (pc := 105) dX8_call_105 ?_
      refine V_iand (pc := 106) dX8_call_106 ?_
      rw [show nI (sS (aS a)) &&& (((1 : Int32) <<< (cI (sC (aS a) i) &&& 31)) ^^^ (-1)) = nI (clr (sS (aS a)) (sC (aS a) i - 1)) from by rw [show cI (sC (aS a) i) = nI (sC (aS a) i - 1) from by rw [← cI_s, Nat.sub_add_cancel (by omega)]]; exact bit_clr _ s2 _ (by omega)]
      refine V_goto (pc := 107) (tgt := 114) dX8_call_107 (by decide) ?_
      rw [← e4]
      refine V_putI (pc := 114) (ci := 8) (j := 11) dX8_call_114 fl_X8_132 (fun _ _ _ _ _ => rfl) rfl rfl (by decide) rfl ?_
      refine V_aload_n (pc := 117) dX8_call_117 rfl rfl ?_
      refine V_iload_n (pc := 118) dX8_call_118 rfl rfl ?_
      refine V_iconst (pc := 119) (v := (-1)) dX8_call_119 (by decide) ?_
      refine V_icmpeq (pc := 120) (tgt := 139) dX8_call_120 (by decide) (fun h120 => ?_) (fun h120 => ?_)
      · have h120 := (cI_m1 (a := c) (by omega)).mp h120; have e2 : refS (aS a) i c = refS1 (aS a) i := refS_eq.trans (if_neg (fun q => q.1 h120))
        refine V_aload_n (pc := 139) dX8_call_139 rfl rfl ?_
        refine V_getI (pc := 140) (ci := 8) (j := 11) dX8_call_140 fl_X8_132 (fun _ _ _ _ => rfl) (by decide) rfl ?_
        rw [get_eq, ← e2]
        refine V_putI (pc := 143) (ci := 8) (j := 11) dX8_call_143 fl_X8_132 (fun _ _ _ _ _ => rfl) rfl rfl (by decide) rfl ?_
        refine V_aload_n (pc := 146) dX8_call_146 rfl rfl ?_
        refine V_getR (pc := 147) (ci := 8) (j := 8) (k2 := 70) dX8_call_147 fl_X8_22 (fun _ _ _ _ => rfl) (by decide) rfl (rf_8_8 rfl) ?_
        refine V_iload_n (pc := 150) dX8_call_150 rfl rfl ?_
        refine V_iload_n (pc := 151) dX8_call_151 rfl rfl ?_
        refine V_iast (pc := 152) (j := i) dX8_call_152 (by decide) rfl rfl (by show i < 6; omega) ?_
        refine V_iload_n (pc := 153) dX8_call_153 rfl rfl ?_
        refine V_iret (pc := 154) dX8_call_154 rfl ?_
        exact ⟨rfl, hM.cal hi, (((FrS.rf.set (Or.inr ⟨rfl, by omega⟩)).set (Or.inr ⟨rfl, by omega⟩)).set (Or.inl ⟨by omega, by omega⟩)).X⟩
      have h120 := mt (cI_m1 (a := c) (by omega)).mpr h120
      refine V_iload (pc := 123) dX8_call_123 rfl ?_
      refine V_ifeq (pc := 125) (tgt := 139) dX8_call_125 (by decide) (fun h125 => ?_) (fun h125 => ?_)
      · exact absurd h125 (by decide)
      have e3 : refS (aS a) i c = refS1 (aS a) i ||| 2 ^ (c - 1) := refS_eq.trans (if_pos ⟨h120, h67⟩)
      refine V_aload_n (pc := 128) dX8_call_128 rfl rfl ?_
      refine V_getI (pc := 129) (ci := 8) (j := 11) dX8_call_129 fl_X8_132 (fun _ _ _ _ => rfl) (by decide) rfl ?_
      rw [get_eq]
      refine V_iconst (pc := 132) (v := 1) dX8_call_132 (by decide) ?_
      refine V_iload_n (pc := 133) dX8_call_133 rfl rfl ?_
      refine V_ishl (pc := 134) dX8_call_134 ?_
      refine V_ior (pc := 135) dX8_call_135 ?_
      rw [show nI (refS1 (aS a) i) ||| ((1 : Int32) <<< (cI c &&& 31)) = nI (refS1 (aS a) i ||| 2 ^ (c - 1)) from by rw [show cI c = nI (c - 1) from by rw [← cI_s, Nat.sub_add_cancel (by omega)]]; exact bit_set _ hR _ (by omega)]
      refine V_goto (pc := 136) (tgt := 143) dX8_call_136 (by decide) ?_
      rw [← e3]
      refine V_putI (pc := 143) (ci := 8) (j := 11) dX8_call_143 fl_X8_132 (fun _ _ _ _ _ => rfl) rfl rfl (by decide) rfl ?_
      refine V_aload_n (pc := 146) dX8_call_146 rfl rfl ?_
      refine V_getR (pc := 147) (ci := 8) (j := 8) (k2 := 70) dX8_call_147 fl_X8_22 (fun _ _ _ _ => rfl) (by decide) rfl (rf_8_8 rfl) ?_
      refine V_iload_n (pc := 150) dX8_call_150 rfl rfl ?_
      refine V_iload_n (pc := 151) dX8_call_151 rfl rfl ?_
      refine V_iast (pc := 152) (j := i) dX8_call_152 (by decide) rfl rfl (by show i < 6; omega) ?_
      refine V_iload_n (pc := 153) dX8_call_153 rfl rfl ?_
      refine V_iret (pc := 154) dX8_call_154 rfl ?_
      exact ⟨rfl, hM.cal hi, (((FrS.rf.set (Or.inr ⟨rfl, by omega⟩)).set (Or.inr ⟨rfl, by omega⟩)).set (Or.inl ⟨by omega, by omega⟩)).X⟩
    have h36 := mt (cI_m1 (a := c) (by omega)).mpr h36; have hcn : nI (c - 1) = cI c := by rw [← cI_s, Nat.sub_add_cancel (by omega)]
    refine V_aload_n (pc := 39) dX8_call_39 rfl rfl ?_
    refine V_getI (pc := 40) (ci := 8) (j := 11) dX8_call_40 fl_X8_132 (fun _ _ _ _ => rfl) (by decide) rfl ?_
    rw [m7]
    refine V_iload_n (pc := 43) dX8_call_43 rfl rfl ?_
    refine V_ins2 (pc := 44) dX8_call_44 ml_X8_156 (by first | decide | omega) (Nat.le_of_ble_eq_true rfl) (hcn ▸ c_X8_has μ s2 (show c - 1 < 6 by omega)) ?_
    rintro _ μ2 ⟨rfl, hμ⟩
    obtain rfl := hμ.symm
    refine V_ifeq (pc := 47) (tgt := 53) dX8_call_47 (by decide) (fun h47 => ?_) (fun h47 => ?_)
    · have h47 := bI_e h47
      have hno : ¬ (sP (aS a) i = 9 ∨ (c ≠ 0 ∧ (sS (aS a)).testBit (c - 1) = true)) := by
        rintro (q | q)
        · exact h31 q
        · first
          | exact q.1 h36
          | (rw [h47] at q; exact absurd q.2 (by decide))
      rw [if_neg hno]
      have hR := refS1_lt (i := i) s2 c6
      refine V_aload_n (pc := 53) dX8_call_53 rfl rfl ?_
      refine V_getR (pc := 54) (ci := 8) (j := 8) (k2 := 70) dX8_call_54 fl_X8_22 (fun _ _ _ _ => rfl) (by decide) rfl (rf_8_8 rfl) ?_
      refine V_iload_n (pc := 57) dX8_call_57 rfl rfl ?_
      refine V_iald (pc := 58) (j := i) dX8_call_58 (by decide) rfl rfl (by show i < 6; omega) ?_
      rw [n3]
      refine V_istore3 (pc := 59) dX8_call_59 (by decide) rfl ?_
      refine V_aload_n (pc := 60) dX8_call_60 rfl rfl ?_
      refine V_getR (pc := 61) (ci := 8) (j := 6) (k2 := 68) dX8_call_61 fl_X8_16 (fun _ _ _ _ => rfl) (by decide) rfl (rf_8_6 rfl) ?_
      refine V_iload_n (pc := 64) dX8_call_64 rfl rfl ?_
      refine V_iald (pc := 65) (j := i) dX8_call_65 (by decide) rfl rfl (by show i < 6; omega) ?_
      rw [n1]
      refine V_iconst (pc := 66) (v := 4) dX8_call_66 (by decide) ?_
      refine V_icmpeq (pc := 67) (tgt := 74) dX8_call_67 (by decide) (fun h67 => ?_) (fun h67 => ?_)
      · have h67 := (nI_eq (a := sK (aS a) i) (b := 4) (by omega) (by omega)).mp h67
        refine V_iconst (pc := 74) (v := 0) dX8_call_74 (by decide) ?_
        refine V_istore4 (pc := 75) dX8_call_75 (by decide) rfl ?_
        refine V_aload_n (pc := 77) dX8_call_77 rfl rfl ?_
        refine V_iload_n (pc := 78) dX8_call_78 rfl rfl ?_
        refine V_iconst (pc := 79) (v := (-1)) dX8_call_79 (by decide) ?_
        refine V_icmpeq (pc := 80) (tgt := 110) dX8_call_80 (by decide) (fun h80 => ?_) (fun h80 => ?_)
        · have h80 := (cI_m1 (a := sC (aS a) i) (by omega)).mp h80; have e1 : refS1 (aS a) i = sS (aS a) := if_neg (fun q => q.1 h80)
          refine V_aload_n (pc := 110) dX8_call_110 rfl rfl ?_
          refine V_getI (pc := 111) (ci := 8) (j := 11) dX8_call_111 fl_X8_132 (fun _ _ _ _ => rfl) (by decide) rfl ?_
          rw [m7, ← e1]
          refine V_putI (pc := 114) (ci := 8) (j := 11) dX8_call_114 fl_X8_132 (fun _ _ _ _ _ => rfl) rfl rfl (by decide) rfl ?_
          refine V_aload_n (pc := 117) dX8_call_117 rfl rfl ?_
          refine V_iload_n (pc := 118) dX8_call_118 rfl rfl ?_
          refine V_iconst (pc := 119) (v := (-1)) dX8_call_119 (by decide) ?_
          refine V_icmpeq (pc := 120) (tgt := 139) dX8_call_120 (by decide) (fun h120 => ?_) (fun h120 => ?_)
          · have h120 := (cI_m1 (a := c) (by omega)).mp h120; have e2 : refS (aS a) i c = refS1 (aS a) i := refS_eq.trans (if_neg (fun q => q.1 h120))
            refine V_aload_n (pc := 139) dX8_call_139 rfl rfl ?_
            refine V_getI (pc := 140) (ci := 8) (j := 11) dX8_call_140 fl_X8_132 (fun _ _ _ _ => rfl) (by decide) rfl ?_
            rw [get_eq, ← e2]
            refine V_putI (pc := 143) (ci := 8) (j := 11) dX8_call_143 fl_X8_132 (fun _ _ _ _ _ => rfl) rfl rfl (by decide) rfl ?_
            refine V_aload_n (pc := 146) dX8_call_146 rfl rfl ?_
            refine V_getR (pc := 147) (ci := 8) (j := 8) (k2 := 70) dX8_call_147 fl_X8_22 (fun _ _ _ _ => rfl) (by decide) rfl (rf_8_8 rfl) ?_
            refine V_iload_n (pc := 150) dX8_call_150 rfl rfl ?_
            refine V_iload_n (pc := 151) dX8_call_151 rfl rfl ?_
            refine V_iast (pc := 152) (j := i) dX8_call_152 (by decide) rfl rfl (by show i < 6; omega) ?_
            refine V_iload_n (pc := 153) dX8_call_153 rfl rfl ?_
            refine V_iret (pc := 154) dX8_call_154 rfl ?_
            exact ⟨rfl, hM.cal hi, (((FrS.rf.set (Or.inr ⟨rfl, by omega⟩)).set (Or.inr ⟨rfl, by omega⟩)).set (Or.inl ⟨by omega, by omega⟩)).X⟩
          have h120 := mt (cI_m1 (a := c) (by omega)).mpr h120
          refine V_iload (pc := 123) dX8_call_123 rfl ?_
          refine V_ifeq (pc := 125) (tgt := 139) dX8_call_125 (by decide) (fun h125 => ?_) (fun h125 => ?_)
          · have e2 : refS (aS a) i c = refS1 (aS a) i := refS_eq.trans (if_neg (fun q => q.2 h67))
            refine V_aload_n (pc := 139) dX8_call_139 rfl rfl ?_
            refine V_getI (pc := 140) (ci := 8) (j := 11) dX8_call_140 fl_X8_132 (fun _ _ _ _ => rfl) (by decide) rfl ?_
            rw [get_eq, ← e2]
            refine V_putI (pc := 143) (ci := 8) (j := 11) dX8_call_143 fl_X8_132 (fun _ _ _ _ _ => rfl) rfl rfl (by decide) rfl ?_
            refine V_aload_n (pc := 146) dX8_call_146 rfl rfl ?_
            refine V_getR (pc := 147) (ci := 8) (j := 8) (k2 := 70) dX8_call_147 fl_X8_22 (fun _ _ _ _ => rfl) (by decide) rfl (rf_8_8 rfl) ?_
            refine V_iload_n (pc := 150) dX8_call_150 rfl rfl ?_
            refine V_iload_n (pc := 151) dX8_call_151 rfl rfl ?_
            refine V_iast (pc := 152) (j := i) dX8_call_152 (by decide) rfl rfl (by show i < 6; omega) ?_
            refine V_iload_n (pc := 153) dX8_call_153 rfl rfl ?_
            refine V_iret (pc := 154) dX8_call_154 rfl ?_
            exact ⟨rfl, hM.cal hi, (((FrS.rf.set (Or.inr ⟨rfl, by omega⟩)).set (Or.inr ⟨rfl, by omega⟩)).set (Or.inl ⟨by omega, by omega⟩)).X⟩
          exact absurd rfl h125
        have h80 := mt (cI_m1 (a := sC (aS a) i) (by omega)).mpr h80
        refine V_iload (pc := 83) dX8_call_83 rfl ?_
        refine V_ifeq (pc := 85) (tgt := 110) dX8_call_85 (by decide) (fun h85 => ?_) (fun h85 => ?_)
        · have e1 : refS1 (aS a) i = sS (aS a) := if_neg (fun q => q.2.1 h67)
          refine V_aload_n (pc := 110) dX8_call_110 rfl rfl ?_
          refine V_getI (pc := 111) (ci := 8) (j := 11) dX8_call_111 fl_X8_132 (fun _ _ _ _ => rfl) (by decide) rfl ?_
          rw [m7, ← e1]
          refine V_putI (pc := 114) (ci := 8) (j := 11) dX8_call_114 fl_X8_132 (fun _ _ _ _ _ => rfl) rfl rfl (by decide) rfl ?_
          refine V_aload_n (pc := 117) dX8_call_117 rfl rfl ?_
          refine V_iload_n (pc := 118) dX8_call_118 rfl rfl ?_
          refine V_iconst (pc := 119) (v := (-1)) dX8_call_119 (by decide) ?_
          refine V_icmpeq (pc := 120) (tgt := 139) dX8_call_120 (by decide) (fun h120 => ?_) (fun h120 => ?_)
          · have h120 := (cI_m1 (a := c) (by omega)).mp h120; have e2 : refS (aS a) i c = refS1 (aS a) i := refS_eq.trans (if_neg (fun q => q.1 h120))
            refine V_aload_n (pc := 139) dX8_call_139 rfl rfl ?_
            refine V_getI (pc := 140) (ci := 8) (j := 11) dX8_call_140 fl_X8_132 (fun _ _ _ _ => rfl) (by decide) rfl ?_
            rw [get_eq, ← e2]
            refine V_putI (pc := 143) (ci := 8) (j := 11) dX8_call_143 fl_X8_132 (fun _ _ _ _ _ => rfl) rfl rfl (by decide) rfl ?_
            refine V_aload_n (pc := 146) dX8_call_146 rfl rfl ?_
            refine V_getR (pc := 147) (ci := 8) (j := 8) (k2 := 70) dX8_call_147 fl_X8_22 (fun _ _ _ _ => rfl) (by decide) rfl (rf_8_8 rfl) ?_
            refine V_iload_n (pc := 150) dX8_call_150 rfl rfl ?_
            refine V_iload_n (pc := 151) dX8_call_151 rfl rfl ?_
            refine V_iast (pc := 152) (j := i) dX8_call_152 (by decide) rfl rfl (by show i < 6; omega) ?_
            refine V_iload_n (pc := 153) dX8_call_153 rfl rfl ?_
            refine V_iret (pc := 154) dX8_call_154 rfl ?_
            exact ⟨rfl, hM.cal hi, (((FrS.rf.set (Or.inr ⟨rfl, by omega⟩)).set (Or.inr ⟨rfl, by omega⟩)).set (Or.inl ⟨by omega, by omega⟩)).X⟩
          have h120 := mt (cI_m1 (a := c) (by omega)).mpr h120
          refine V_iload (pc := 123) dX8_call_123 rfl ?_
          refine V_ifeq (pc := 125) (tgt := 139) dX8_call_125 (by decide) (fun h125 => ?_) (fun h125 => ?_)
          · have e2 : refS (aS a) i c = refS1 (aS a) i := refS_eq.trans (if_neg (fun q => q.2 h67))
            refine V_aload_n (pc := 139) dX8_call_139 rfl rfl ?_
            refine V_getI (pc := 140) (ci := 8) (j := 11) dX8_call_140 fl_X8_132 (fun _ _ _ _ => rfl) (by decide) rfl ?_
            rw [get_eq, ← e2]
            refine V_putI (pc := 143) (ci := 8) (j := 11) dX8_call_143 fl_X8_132 (fun _ _ _ _ _ => rfl) rfl rfl (by decide) rfl ?_
            refine V_aload_n (pc := 146) dX8_call_146 rfl rfl ?_
            refine V_getR (pc := 147) (ci := 8) (j := 8) (k2 := 70) dX8_call_147 fl_X8_22 (fun _ _ _ _ => rfl) (by decide) rfl (rf_8_8 rfl) ?_
            refine V_iload_n (pc := 150) dX8_call_150 rfl rfl ?_
            refine V_iload_n (pc := 151) dX8_call_151 rfl rfl ?_
            refine V_iast (pc := 152) (j := i) dX8_call_152 (by decide) rfl rfl (by show i < 6; omega) ?_
            refine V_iload_n (pc := 153) dX8_call_153 rfl rfl ?_
            refine V_iret (pc := 154) dX8_call_154 rfl ?_
            exact ⟨rfl, hM.cal hi, (((FrS.rf.set (Or.inr ⟨rfl, by omega⟩)).set (Or.inr ⟨rfl, by omega⟩)).set (Or.inl ⟨by omega, by omega⟩)).X⟩
          exact absurd rfl h125
        exact absurd rfl h85
      have h67 := mt (nI_eq (a := sK (aS a) i) (b := 4) (by omega) (by omega)).mpr h67
      refine V_iconst (pc := 70) (v := 1) dX8_call_70 (by decide) ?_
      refine V_goto (pc := 71) (tgt := 75) dX8_call_71 (by decide) ?_
      refine V_istore4 (pc := 75) dX8_call_75 (by decide) rfl ?_
      refine V_aload_n (pc := 77) dX8_call_77 rfl rfl ?_
      refine V_iload_n (pc := 78) dX8_call_78 rfl rfl ?_
      refine V_iconst (pc := 79) (v := (-1)) dX8_call_79 (by decide) ?_
      refine V_icmpeq (pc := 80) (tgt := 110) dX8_call_80 (by decide) (fun h80 => ?_) (fun h80 => ?_)
      · have h80 := (cI_m1 (a := sC (aS a) i) (by omega)).mp h80; have e1 : refS1 (aS a) i = sS (aS a) := if_neg (fun q => q.1 h80)
        refine V_aload_n (pc := 110) dX8_call_110 rfl rfl ?_
        refine V_getI (pc := 111) (ci := 8) (j := 11) dX8_call_111 fl_X8_132 (fun _ _ _ _ => rfl) (by decide) rfl ?_
        rw [m7, ← e1]
        refine V_putI (pc := 114) (ci := 8) (j := 11) dX8_call_114 fl_X8_132 (fun _ _ _ _ _ => rfl) rfl rfl (by decide) rfl ?_
        refine V_aload_n (pc := 117) dX8_call_117 rfl rfl ?_
        refine V_iload_n (pc := 118) dX8_call_118 rfl rfl ?_
        refine V_iconst (pc := 119) (v := (-1)) dX8_call_119 (by decide) ?_
        refine V_icmpeq (pc := 120) (tgt := 139) dX8_call_120 (by decide) (fun h120 => ?_) (fun h120 => ?_)
        · have h120 := (cI_m1 (a := c) (by omega)).mp h120; have e2 : refS (aS a) i c = refS1 (aS a) i := refS_eq.trans (if_neg (fun q => q.1 h120))
          refine V_aload_n (pc := 139) dX8_call_139 rfl rfl ?_
          refine V_getI (pc := 140) (ci := 8) (j := 11) dX8_call_140 fl_X8_132 (fun _ _ _ _ => rfl) (by decide) rfl ?_
          rw [get_eq, ← e2]
          refine V_putI (pc := 143) (ci := 8) (j := 11) dX8_call_143 fl_X8_132 (fun _ _ _ _ _ => rfl) rfl rfl (by decide) rfl ?_
          refine V_aload_n (pc := 146) dX8_call_146 rfl rfl ?_
          refine V_getR (pc := 147) (ci := 8) (j := 8) (k2 := 70) dX8_call_147 fl_X8_22 (fun _ _ _ _ => rfl) (by decide) rfl (rf_8_8 rfl) ?_
          refine V_iload_n (pc := 150) dX8_call_150 rfl rfl ?_
          refine V_iload_n (pc := 151) dX8_call_151 rfl rfl ?_
          refine V_iast (pc := 152) (j := i) dX8_call_152 (by decide) rfl rfl (by show i < 6; omega) ?_
          refine V_iload_n (pc := 153) dX8_call_153 rfl rfl ?_
          refine V_iret (pc := 154) dX8_call_154 rfl ?_
          exact ⟨rfl, hM.cal hi, (((FrS.rf.set (Or.inr ⟨rfl, by omega⟩)).set (Or.inr ⟨rfl, by omega⟩)).set (Or.inl ⟨by omega, by omega⟩)).X⟩
        have h120 := mt (cI_m1 (a := c) (by omega)).mpr h120
        refine V_iload (pc := 123) dX8_call_123 rfl ?_
        refine V_ifeq (pc := 125) (tgt := 139) dX8_call_125 (by decide) (fun h125 => ?_) (fun h125 => ?_)
        · exact absurd h125 (by decide)
        have e3 : refS (aS a) i c = refS1 (aS a) i ||| 2 ^ (c - 1) := refS_eq.trans (if_pos ⟨h120, h67⟩)
        refine V_aload_n (pc := 128) dX8_call_128 rfl rfl ?_
        refine V_getI (pc := 129) (ci := 8) (j := 11) dX8_call_129 fl_X8_132 (fun _ _ _ _ => rfl) (by decide) rfl ?_
        rw [get_eq]
        refine V_iconst (pc := 132) (v := 1) dX8_call_132 (by decide) ?_
        refine V_iload_n (pc := 133) dX8_call_133 rfl rfl ?_
        refine V_ishl (pc := 134) dX8_call_134 ?_
        refine V_ior (pc := 135) dX8_call_135 ?_
        rw [show nI (refS1 (aS a) i) ||| ((1 : Int32) <<< (cI c &&& 31)) = nI (refS1 (aS a) i ||| 2 ^ (c - 1)) from by rw [show cI c = nI (c - 1) from by rw [← cI_s, Nat.sub_add_cancel (by omega)]]; exact bit_set _ hR _ (by omega)]
        refine V_goto (pc := 136) (tgt := 143) dX8_call_136 (by decide) ?_
        rw [← e3]
        refine V_putI (pc := 143) (ci := 8) (j := 11) dX8_call_143 fl_X8_132 (fun _ _ _ _ _ => rfl) rfl rfl (by decide) rfl ?_
        refine V_aload_n (pc := 146) dX8_call_146 rfl rfl ?_
        refine V_getR (pc := 147) (ci := 8) (j := 8) (k2 := 70) dX8_call_147 fl_X8_22 (fun _ _ _ _ => rfl) (by decide) rfl (rf_8_8 rfl) ?_
        refine V_iload_n (pc := 150) dX8_call_150 rfl rfl ?_
        refine V_iload_n (pc := 151) dX8_call_151 rfl rfl ?_
        refine V_iast (pc := 152) (j := i) dX8_call_152 (by decide) rfl rfl (by show i < 6; omega) ?_
        refine V_iload_n (pc := 153) dX8_call_153 rfl rfl ?_
        refine V_iret (pc := 154) dX8_call_154 rfl ?_
        exact ⟨rfl, hM.cal hi, (((FrS.rf.set (Or.inr ⟨rfl, by omega⟩)).set (Or.inr ⟨rfl, by omega⟩)).set (Or.inl ⟨by omega, by omega⟩)).X⟩
      have h80 := mt (cI_m1 (a := sC (aS a) i) (by omega)).mpr h80
      refine V_iload (pc := 83) dX8_call_83 rfl ?_
      refine V_ifeq (pc := 85) (tgt := 110) dX8_call_85 (by decide) (fun h85 => ?_) (fun h85 => ?_)
      · exact absurd h85 (by decide)
      refine V_aload_n (pc := 88) dX8_call_88 rfl rfl ?_
      refine V_iload_n (pc := 89) dX8_call_89 rfl rfl ?_
      refine V_iload_n (pc := 90) dX8_call_90 rfl rfl ?_
      refine V_inv2 (pc := 91) (ci := 8) dX8_call_91 ml_X8_159 (by decide) rfl ⟨by decide, rfl⟩ (by first | decide | omega) (Nat.le_of_ble_eq_true rfl) (c_X8_isCalledToo μ hO hM hi h80 (by omega)) ?_
      rintro _ μ2 ⟨rfl, hμ⟩
      obtain rfl := hμ.symm
      refine V_ifne (pc := 94) (tgt := 110) dX8_call_94 (by decide) (fun h94 => ?_) (fun h94 => ?_)
      · have h94 := bI_ne h94; have e1 : refS1 (aS a) i = sS (aS a) := if_neg (fun q => Bool.noConfusion (h94.symm.trans q.2.2))
        refine V_aload_n (pc := 110) dX8_call_110 rfl rfl ?_
        refine V_getI (pc := 111) (ci := 8) (j := 11) dX8_call_111 fl_X8_132 (fun _ _ _ _ => rfl) (by decide) rfl ?_
        rw [m7, ← e1]
        refine V_putI (pc := 114) (ci := 8) (j := 11) dX8_call_114 fl_X8_132 (fun _ _ _ _ _ => rfl) rfl rfl (by decide) rfl ?_
        refine V_aload_n (pc := 117) dX8_call_117 rfl rfl ?_
        refine V_iload_n (pc := 118) dX8_call_118 rfl rfl ?_
        refine V_iconst (pc := 119) (v := (-1)) dX8_call_119 (by decide) ?_
        refine V_icmpeq (pc := 120) (tgt := 139) dX8_call_120 (by decide) (fun h120 => ?_) (fun h120 => ?_)
        · have h120 := (cI_m1 (a := c) (by omega)).mp h120; have e2 : refS (aS a) i c = refS1 (aS a) i := refS_eq.trans (if_neg (fun q => q.1 h120))
          refine V_aload_n (pc := 139) dX8_call_139 rfl rfl ?_
          refine V_getI (pc := 140) (ci := 8) (j := 11) dX8_call_140 fl_X8_132 (fun _ _ _ _ => rfl) (by decide) rfl ?_
          rw [get_eq, ← e2]
          refine V_putI (pc := 143) (ci := 8) (j := 11) dX8_call_143 fl_X8_132 (fun _ _ _ _ _ => rfl) rfl rfl (by decide) rfl ?_
          refine V_aload_n (pc := 146) dX8_call_146 rfl rfl ?_
          refine V_getR (pc := 147) (ci := 8) (j := 8) (k2 := 70) dX8_call_147 fl_X8_22 (fun _ _ _ _ => rfl) (by decide) rfl (rf_8_8 rfl) ?_
          refine V_iload_n (pc := 150) dX8_call_150 rfl rfl ?_
          refine V_iload_n (pc := 151) dX8_call_151 rfl rfl ?_
          refine V_iast (pc := 152) (j := i) dX8_call_152 (by decide) rfl rfl (by show i < 6; omega) ?_
          refine V_iload_n (pc := 153) dX8_call_153 rfl rfl ?_
          refine V_iret (pc := 154) dX8_call_154 rfl ?_
          exact ⟨rfl, hM.cal hi, (((FrS.rf.set (Or.inr ⟨rfl, by omega⟩)).set (Or.inr ⟨rfl, by omega⟩)).set (Or.inl ⟨by omega, by omega⟩)).X⟩
        have h120 := mt (cI_m1 (a := c) (by omega)).mpr h120
        refine V_iload (pc := 123) dX8_call_123 rfl ?_
        refine V_ifeq (pc := 125) (tgt := 139) dX8_call_125 (by decide) (fun h125 => ?_) (fun h125 => ?_)
        · exact absurd h125 (by decide)
        have e3 : refS (aS a) i c = refS1 (aS a) i ||| 2 ^ (c - 1) := refS_eq.trans (if_pos ⟨h120, h67⟩)
        refine V_aload_n (pc := 128) dX8_call_128 rfl rfl ?_
        refine V_getI (pc := 129) (ci := 8) (j := 11) dX8_call_129 fl_X8_132 (fun _ _ _ _ => rfl) (by decide) rfl ?_
        rw [get_eq]
        refine V_iconst (pc := 132) (v := 1) dX8_call_132 (by decide) ?_
        refine V_iload_n (pc := 133) dX8_call_133 rfl rfl ?_
        refine V_ishl (pc := 134) dX8_call_134 ?_
        refine V_ior (pc := 135) dX8_call_135 ?_
        rw [show nI (refS1 (aS a) i) ||| ((1 : Int32) <<< (cI c &&& 31)) = nI (refS1 (aS a) i ||| 2 ^ (c - 1)) from by rw [show cI c = nI (c - 1) from by rw [← cI_s, Nat.sub_add_cancel (by omega)]]; exact bit_set _ hR _ (by omega)]
        refine V_goto (pc := 136) (tgt := 143) dX8_call_136 (by decide) ?_
        rw [← e3]
        refine V_putI (pc := 143) (ci := 8) (j := 11) dX8_call_143 fl_X8_132 (fun _ _ _ _ _ => rfl) rfl rfl (by decide) rfl ?_
        refine V_aload_n (pc := 146) dX8_call_146 rfl rfl ?_
        refine V_getR (pc := 147) (ci := 8) (j := 8) (k2 := 70) dX8_call_147 fl_X8_22 (fun _ _ _ _ => rfl) (by decide) rfl (rf_8_8 rfl) ?_
        refine V_iload_n (pc := 150) dX8_call_150 rfl rfl ?_
        refine V_iload_n (pc := 151) dX8_call_151 rfl rfl ?_
        refine V_iast (pc := 152) (j := i) dX8_call_152 (by decide) rfl rfl (by show i < 6; omega) ?_
        refine V_iload_n (pc := 153) dX8_call_153 rfl rfl ?_
        refine V_iret (pc := 154) dX8_call_154 rfl ?_
        exact ⟨rfl, hM.cal hi, (((FrS.rf.set (Or.inr ⟨rfl, by omega⟩)).set (Or.inr ⟨rfl, by omega⟩)).set (Or.inl ⟨by omega, by omega⟩)).X⟩
      have h94 := bI_e h94; have e4 : refS1 (aS a) i = clr (sS (aS a)) (sC (aS a) i - 1) := if_pos ⟨h80, h67, h94⟩
      refine V_aload_n (pc := 97) dX8_call_97 rfl rfl ?_
      refine V_getI (pc := 98) (ci := 8) (j := 11) dX8_call_98 fl_X8_132 (fun _ _ _ _ => rfl) (by decide) rfl ?_
      rw [m7]
      refine V_iconst (pc := 101) (v := 1) dX8_call_101 (by decide) ?_
      refine V_iload_n (pc := 102) dX8_call_102 rfl rfl ?_
      refine V_ishl (pc := 103) dX8_call_103 ?_
      refine V_iconst (pc := 104) (v := (-1)) dX8_call_104 (by decide) ?_
      refine V_ixor (pc := 105) dX8_call_105 ?_
      refine V_iand (pc := 106) dX8_call_106 ?_
      rw [show nI (sS (aS a)) &&& (((1 : Int32) <<< (cI (sC (aS a) i) &&& 31)) ^^^ (-1)) = nI (clr (sS (aS a)) (sC (aS a) i - 1)) from by rw [show cI (sC (aS a) i) = nI (sC (aS a) i - 1) from by rw [← cI_s, Nat.sub_add_cancel (by omega)]]; exact bit_clr _ s2 _ (by omega)]
      refine V_goto (pc := 107) (tgt := 114) dX8_call_107 (by decide) ?_
      rw [← e4]
      refine V_putI (pc := 114) (ci := 8) (j := 11) dX8_call_114 fl_X8_132 (fun _ _ _ _ _ => rfl) rfl rfl (by decide) rfl ?_
      refine V_aload_n (pc := 117) dX8_call_117 rfl rfl ?_
      refine V_iload_n (pc := 118) dX8_call_118 rfl rfl ?_
      refine V_iconst (pc := 119) (v := (-1)) dX8_call_119 (by decide) ?_
      refine V_icmpeq (pc := 120) (tgt := 139) dX8_call_120 (by decide) (fun h120 => ?_) (fun h120 => ?_)
      · have h120 := (cI_m1 (a := c) (by omega)).mp h120; have e2 : refS (aS a) i c = refS1 (aS a) i := refS_eq.trans (if_neg (fun q => q.1 h120))
        refine V_aload_n (pc := 139) dX8_call_139 rfl rfl ?_
        refine V_getI (pc := 140) (ci := 8) (j := 11) dX8_call_140 fl_X8_132 (fun _ _ _ _ => rfl) (by decide) rfl ?_
        rw [get_eq, ← e2]
        refine V_putI (pc := 143) (ci := 8) (j := 11) dX8_call_143 fl_X8_132 (fun _ _ _ _ _ => rfl) rfl rfl (by decide) rfl ?_
        refine V_aload_n (pc := 146) dX8_call_146 rfl rfl ?_
        refine V_getR (pc := 147) (ci := 8) (j := 8) (k2 := 70) dX8_call_147 fl_X8_22 (fun _ _ _ _ => rfl) (by decide) rfl (rf_8_8 rfl) ?_
        refine V_iload_n (pc := 150) dX8_call_150 rfl rfl ?_
        refine V_iload_n (pc := 151) dX8_call_151 rfl rfl ?_
        refine V_iast (pc := 152) (j := i) dX8_call_152 (by decide) rfl rfl (by show i < 6; omega) ?_
        refine V_iload_n (pc := 153) dX8_call_153 rfl rfl ?_
        refine V_iret (pc := 154) dX8_call_154 rfl ?_
        exact ⟨rfl, hM.cal hi, (((FrS.rf.set (Or.inr ⟨rfl, by omega⟩)).set (Or.inr ⟨rfl, by omega⟩)).set (Or.inl ⟨by omega, by omega⟩)).X⟩
      have h120 := mt (cI_m1 (a := c) (by omega)).mpr h120
      refine V_iload (pc := 123) dX8_call_123 rfl ?_
      refine V_ifeq (pc := 125) (tgt := 139) dX8_call_125 (by decide) (fun h125 => ?_) (fun h125 => ?_)
      · exact absurd h125 (by decide)
      have e3 : refS (aS a) i c = refS1 (aS a) i ||| 2 ^ (c - 1) := refS_eq.trans (if_pos ⟨h120, h67⟩)
      refine V_aload_n (pc := 128) dX8_call_128 rfl rfl ?_
      refine V_getI (pc := 129) (ci := 8) (j := 11) dX8_call_129 fl_X8_132 (fun _ _ _ _ => rfl) (by decide) rfl ?_
      rw [get_eq]
      refine V_iconst (pc := 132) (v := 1) dX8_call_132 (by decide) ?_
      refine V_iload_n (pc := 133) dX8_call_133 rfl rfl ?_
      refine V_ishl (pc := 134) dX8_call_134 ?_
      refine V_ior (pc := 135) dX8_call_135 ?_
      rw [show nI (refS1 (aS a) i) ||| ((1 : Int32) <<< (cI c &&& 31)) = nI (refS1 (aS a) i ||| 2 ^ (c - 1)) from by rw [show cI c = nI (c - 1) from by rw [← cI_s, Nat.sub_add_cancel (by omega)]]; exact bit_set _ hR _ (by omega)]
      refine V_goto (pc := 136) (tgt := 143) dX8_call_136 (by decide) ?_
      rw [← e3]
      refine V_putI (pc := 143) (ci := 8) (j := 11) dX8_call_143 fl_X8_132 (fun _ _ _ _ _ => rfl) rfl rfl (by decide) rfl ?_
      refine V_aload_n (pc := 146) dX8_call_146 rfl rfl ?_
      refine V_getR (pc := 147) (ci := 8) (j := 8) (k2 := 70) dX8_call_147 fl_X8_22 (fun _ _ _ _ => rfl) (by decide) rfl (rf_8_8 rfl) ?_
      refine V_iload_n (pc := 150) dX8_call_150 rfl rfl ?_
      refine V_iload_n (pc := 151) dX8_call_151 rfl rfl ?_
      refine V_iast (pc := 152) (j := i) dX8_call_152 (by decide) rfl rfl (by show i < 6; omega) ?_
      refine V_iload_n (pc := 153) dX8_call_153 rfl rfl ?_
      refine V_iret (pc := 154) dX8_call_154 rfl ?_
      exact ⟨rfl, hM.cal hi, (((FrS.rf.set (Or.inr ⟨rfl, by omega⟩)).set (Or.inr ⟨rfl, by omega⟩)).set (Or.inl ⟨by omega, by omega⟩)).X⟩
    have h47 := bI_ne h47
    refine V_bipush (pc := 50) (v := (-103)) dX8_call_50 (by decide) ?_
    refine V_iret (pc := 52) dX8_call_52 rfl ?_
    first
    | (rw [if_pos (Or.inl h31)]; exact ⟨rfl, hM, FrX.rf⟩)
    | (rw [if_pos (Or.inr ⟨h36, h47⟩)]; exact ⟨rfl, hM, FrX.rf⟩)
  have h17 := bI_e h17
  refine V_bipush (pc := 20) (v := (-101)) dX8_call_20 (by decide) ?_
  refine V_iret (pc := 22) dX8_call_22 rfl ?_
  rw [show fCall a x y = (-101, a) from by unfold fCall; first | (rw [h5]; rfl) | (rw [h5, h17, decide_eq_false h10]; rfl)]
  exact ⟨rfl, hM, FrX.rf⟩
theorem dX8_answer_0 : decode cX8_answer 0 = .ok (.aload_n 0, 1) := by decide +kernel
theorem dX8_answer_1 : decode cX8_answer 1 = .ok (.getfield 22, 3) := by decide +kernel
theorem dX8_answer_4 : decode cX8_answer 4 = .ok (.iload_n 1, 1) := by decide +kernel
theorem dX8_answer_5 : decode cX8_answer 5 = .ok (.iaload, 1) := by decide +kernel
theorem dX8_answer_6 : decode cX8_answer 6 = .ok (.istore_n 3, 1) := by decide +kernel
theorem dX8_answer_7 : decode cX8_answer 7 = .ok (.iload_n 3, 1) := by decide +kernel
theorem dX8_answer_8 : decode cX8_answer 8 = .ok (.iconst (-1), 1) := by decide +kernel
theorem dX8_answer_9 : decode cX8_answer 9 = .ok (.if_icmp .eq 8, 3) := by decide +kernel
theorem dX8_answer_12 : decode cX8_answer 12 = .ok (.iload_n 2, 1) := by decide +kernel
theorem dX8_answer_13 : decode cX8_answer 13 = .ok (.iconst 4, 1) := by decide +kernel
theorem dX8_answer_14 : decode cX8_answer 14 = .ok (.if_icmp .ne 4, 3) := by decide +kernel
theorem dX8_answer_17 : decode cX8_answer 17 = .ok (.return_, 1) := by decide +kernel
theorem dX8_answer_18 : decode cX8_answer 18 = .ok (.aload_n 0, 1) := by decide +kernel
theorem dX8_answer_19 : decode cX8_answer 19 = .ok (.getfield 13, 3) := by decide +kernel
theorem dX8_answer_22 : decode cX8_answer 22 = .ok (.iload_n 3, 1) := by decide +kernel
theorem dX8_answer_23 : decode cX8_answer 23 = .ok (.iaload, 1) := by decide +kernel
theorem dX8_answer_24 : decode cX8_answer 24 = .ok (.iload_n 2, 1) := by decide +kernel
theorem dX8_answer_25 : decode cX8_answer 25 = .ok (.if_icmp .ne 7, 3) := by decide +kernel
theorem dX8_answer_28 : decode cX8_answer 28 = .ok (.iconst 1, 1) := by decide +kernel
theorem dX8_answer_29 : decode cX8_answer 29 = .ok (.goto 4, 3) := by decide +kernel
theorem dX8_answer_32 : decode cX8_answer 32 = .ok (.iconst 0, 1) := by decide +kernel
theorem dX8_answer_33 : decode cX8_answer 33 = .ok (.istore 4, 2) := by decide +kernel
theorem dX8_answer_35 : decode cX8_answer 35 = .ok (.aload_n 0, 1) := by decide +kernel
theorem dX8_answer_36 : decode cX8_answer 36 = .ok (.getfield 25, 3) := by decide +kernel
theorem dX8_answer_39 : decode cX8_answer 39 = .ok (.iload_n 1, 1) := by decide +kernel
theorem dX8_answer_40 : decode cX8_answer 40 = .ok (.dup2, 1) := by decide +kernel
theorem dX8_answer_41 : decode cX8_answer 41 = .ok (.iaload, 1) := by decide +kernel
theorem dX8_answer_42 : decode cX8_answer 42 = .ok (.iload 4, 2) := by decide +kernel
theorem dX8_answer_44 : decode cX8_answer 44 = .ok (.ifCond .eq 7, 3) := by decide +kernel
theorem dX8_answer_47 : decode cX8_answer 47 = .ok (.iconst 1, 1) := by decide +kernel
theorem dX8_answer_48 : decode cX8_answer 48 = .ok (.goto 4, 3) := by decide +kernel
theorem dX8_answer_51 : decode cX8_answer 51 = .ok (.iconst 0, 1) := by decide +kernel
theorem dX8_answer_52 : decode cX8_answer 52 = .ok (.iadd, 1) := by decide +kernel
theorem dX8_answer_53 : decode cX8_answer 53 = .ok (.iastore, 1) := by decide +kernel
theorem dX8_answer_54 : decode cX8_answer 54 = .ok (.aload_n 0, 1) := by decide +kernel
theorem dX8_answer_55 : decode cX8_answer 55 = .ok (.getfield 28, 3) := by decide +kernel
theorem dX8_answer_58 : decode cX8_answer 58 = .ok (.iload_n 1, 1) := by decide +kernel
theorem dX8_answer_59 : decode cX8_answer 59 = .ok (.dup2, 1) := by decide +kernel
theorem dX8_answer_60 : decode cX8_answer 60 = .ok (.iaload, 1) := by decide +kernel
theorem dX8_answer_61 : decode cX8_answer 61 = .ok (.iload 4, 2) := by decide +kernel
theorem dX8_answer_63 : decode cX8_answer 63 = .ok (.ifCond .eq 7, 3) := by decide +kernel
theorem dX8_answer_66 : decode cX8_answer 66 = .ok (.iconst 0, 1) := by decide +kernel
theorem dX8_answer_67 : decode cX8_answer 67 = .ok (.goto 4, 3) := by decide +kernel
theorem dX8_answer_70 : decode cX8_answer 70 = .ok (.iconst 1, 1) := by decide +kernel
theorem dX8_answer_71 : decode cX8_answer 71 = .ok (.iadd, 1) := by decide +kernel
theorem dX8_answer_72 : decode cX8_answer 72 = .ok (.iastore, 1) := by decide +kernel
theorem dX8_answer_73 : decode cX8_answer 73 = .ok (.aload_n 0, 1) := by decide +kernel
theorem dX8_answer_74 : decode cX8_answer 74 = .ok (.getfield 138, 3) := by decide +kernel
theorem dX8_answer_77 : decode cX8_answer 77 = .ok (.bipush 40, 2) := by decide +kernel
theorem dX8_answer_79 : decode cX8_answer 79 = .ok (.if_icmp .ge 40, 3) := by decide +kernel
theorem dX8_answer_82 : decode cX8_answer 82 = .ok (.aload_n 0, 1) := by decide +kernel
theorem dX8_answer_83 : decode cX8_answer 83 = .ok (.getfield 31, 3) := by decide +kernel
theorem dX8_answer_86 : decode cX8_answer 86 = .ok (.aload_n 0, 1) := by decide +kernel
theorem dX8_answer_87 : decode cX8_answer 87 = .ok (.getfield 138, 3) := by decide +kernel
theorem dX8_answer_90 : decode cX8_answer 90 = .ok (.iload_n 3, 1) := by decide +kernel
theorem dX8_answer_91 : decode cX8_answer 91 = .ok (.bipush 8, 2) := by decide +kernel
theorem dX8_answer_93 : decode cX8_answer 93 = .ok (.iload_n 2, 1) := by decide +kernel
theorem dX8_answer_94 : decode cX8_answer 94 = .ok (.imul, 1) := by decide +kernel
theorem dX8_answer_95 : decode cX8_answer 95 = .ok (.iadd, 1) := by decide +kernel
theorem dX8_answer_96 : decode cX8_answer 96 = .ok (.iload 4, 2) := by decide +kernel
theorem dX8_answer_98 : decode cX8_answer 98 = .ok (.ifCond .eq 8, 3) := by decide +kernel
theorem dX8_answer_101 : decode cX8_answer 101 = .ok (.bipush 64, 2) := by decide +kernel
theorem dX8_answer_103 : decode cX8_answer 103 = .ok (.goto 4, 3) := by decide +kernel
theorem dX8_answer_106 : decode cX8_answer 106 = .ok (.iconst 0, 1) := by decide +kernel
theorem dX8_answer_107 : decode cX8_answer 107 = .ok (.iadd, 1) := by decide +kernel
theorem dX8_answer_108 : decode cX8_answer 108 = .ok (.iastore, 1) := by decide +kernel
theorem dX8_answer_109 : decode cX8_answer 109 = .ok (.aload_n 0, 1) := by decide +kernel
theorem dX8_answer_110 : decode cX8_answer 110 = .ok (.dup, 1) := by decide +kernel
theorem dX8_answer_111 : decode cX8_answer 111 = .ok (.getfield 138, 3) := by decide +kernel
theorem dX8_answer_114 : decode cX8_answer 114 = .ok (.iconst 1, 1) := by decide +kernel
theorem dX8_answer_115 : decode cX8_answer 115 = .ok (.iadd, 1) := by decide +kernel
theorem dX8_answer_116 : decode cX8_answer 116 = .ok (.putfield 138, 3) := by decide +kernel
theorem dX8_answer_119 : decode cX8_answer 119 = .ok (.return_, 1) := by decide +kernel
set_option maxHeartbeats 4000000 in
set_option maxRecDepth 100000 in
theorem c_X8_answer {l : Launch} {g : GW} {a : AT} {i w : Nat} (μ : Mm) (hO : AOK a) (hM : RM μ a) (hnb : 0 < aNb a) (hi : i < sN (aS a)) (hw : w ≤ 4) : Con l g yX8_answer cX8_answer 5 none 0 [.ref 65, .int (nI i), .int (nI w)] μ (fun r μ' => r = none ∧ RM μ' (setA a (if sC (aS a) i ≠ 0 ∧ w ≠ 4 then ansT (aOw a) w i (aS a) else aS a)) ∧ FrS μ μ') := by
  obtain ⟨m1, m2, m3, m4, m5, m6, m7, m8, m9, m10, m11, m12, m13⟩ := id hM
  obtain ⟨o1, o2, o3, o4, o5, ⟨s1, s2, s3, s4⟩, oK, o8, o9, o10⟩ := id hO
  obtain ⟨n1, n2, n3, n4, n5⟩ := m6 i hi
  obtain ⟨k4, p9, c6⟩ := s4 i (by omega)
  have hB := m4 hnb
  refine Con.of [.ref 65, .int (nI i), .int (nI w), .null, .null] 2 (by decide +kernel) (Nat.le_of_ble_eq_true rfl) rfl ?_
  refine V_aload_n (pc := 0) dX8_answer_0 rfl rfl ?_
  refine V_getR (pc := 1) (ci := 8) (j := 8) (k2 := 70) dX8_answer_1 fl_X8_22 (fun _ _ _ _ => rfl) (by decide) rfl (rf_8_8 rfl) ?_
  refine V_iload_n (pc := 4) dX8_answer_4 rfl rfl ?_
  refine V_iald (pc := 5) (j := i) dX8_answer_5 (by decide) rfl rfl (by show i < 6; omega) ?_
  rw [n3]
  refine V_istore3 (pc := 6) dX8_answer_6 (by decide) rfl ?_
  refine V_iload_n (pc := 7) dX8_answer_7 rfl rfl ?_
  refine V_iconst (pc := 8) (v := (-1)) dX8_answer_8 (by decide) ?_
  refine V_icmpeq (pc := 9) (tgt := 17) dX8_answer_9 (by decide) (fun h9 => ?_) (fun h9 => ?_)
  · have h9 := (cI_m1 (a := sC (aS a) i) (by omega)).mp h9
    refine V_vret (pc := 17) dX8_answer_17 rfl ?_
    have hn : ¬ (sC (aS a) i ≠ 0 ∧ w ≠ 4) := by omega
    rw [if_neg hn]
    exact ⟨rfl, hM, FrS.rf⟩
  have h9 := mt (cI_m1 (a := sC (aS a) i) (by omega)).mpr h9; have hcn : nI (sC (aS a) i - 1) = cI (sC (aS a) i) := (by rw [← cI_s, Nat.sub_add_cancel (by omega)])
  refine V_iload_n (pc := 12) dX8_answer_12 rfl rfl ?_
  refine V_iconst (pc := 13) (v := 4) dX8_answer_13 (by decide) ?_
  refine V_icmpne (pc := 14) (tgt := 18) dX8_answer_14 (by decide) (fun h14 => ?_) (fun h14 => ?_)
  · have h14 := mt (nI_eq (a := w) (b := 4) (by omega) (by omega)).mpr h14
    refine V_aload_n (pc := 18) dX8_answer_18 rfl rfl ?_
    refine V_getR (pc := 19) (ci := 8) (j := 4) (k2 := 67) dX8_answer_19 fl_X8_13 (fun _ _ _ _ => rfl) (by decide) rfl (rf_8_4 rfl) ?_
    refine V_iload_n (pc := 22) dX8_answer_22 rfl rfl ?_
    refine V_iald (pc := 23) (j := (sC (aS a) i - 1)) dX8_answer_23 (by decide) rfl hcn.symm (by show _ < 6; omega) ?_
    refine V_iload_n (pc := 24) dX8_answer_24 rfl rfl ?_
    refine V_icmpne (pc := 25) (tgt := 32) dX8_answer_25 (by decide) (fun h25 => ?_) (fun h25 => ?_)
    · rw [hB.2 (sC (aS a) i - 1) (by omega), ← cI_s w, cI_eq (by have := o5 (sC (aS a) i - 1) (by omega); omega) (by omega)] at h25; have hfv : fav (aOw a) (sC (aS a) i) w = false := by unfold fav; rw [if_neg h9]; simpa using h25
      refine V_iconst (pc := 32) (v := 0) dX8_answer_32 (by decide) ?_
      refine V_istore4 (pc := 33) dX8_answer_33 (by decide) rfl ?_
      refine V_aload_n (pc := 35) dX8_answer_35 rfl rfl ?_
      refine V_getR (pc := 36) (ci := 8) (j := 9) (k2 := 71) dX8_answer_36 fl_X8_25 (fun _ _ _ _ => rfl) (by decide) rfl (rf_8_9 rfl) ?_
      refine V_iload_n (pc := 39) dX8_answer_39 rfl rfl ?_
      refine V_dup2_11 (pc := 40) dX8_answer_40 rfl rfl ?_
      refine V_iald (pc := 41) (j := i) dX8_answer_41 (by decide) rfl rfl (by show i < 6; omega) ?_
      refine V_iload (pc := 42) dX8_answer_42 rfl ?_
      refine V_ifeq (pc := 44) (tgt := 51) dX8_answer_44 (by decide) (fun h44 => ?_) (fun h44 => ?_)
      · refine V_iconst (pc := 51) (v := 0) dX8_answer_51 (by decide) ?_
        refine V_iadd (pc := 52) dX8_answer_52 ?_
        refine V_iast (pc := 53) (j := i) dX8_answer_53 (by decide) rfl rfl (by show i < 6; omega) ?_
        refine V_aload_n (pc := 54) dX8_answer_54 rfl rfl ?_
        refine V_getR (pc := 55) (ci := 8) (j := 10) (k2 := 72) dX8_answer_55 fl_X8_28 (fun _ _ _ _ => rfl) (by decide) rfl (rf_8_10 rfl) ?_
        refine V_iload_n (pc := 58) dX8_answer_58 rfl rfl ?_
        refine V_dup2_11 (pc := 59) dX8_answer_59 rfl rfl ?_
        refine V_iald (pc := 60) (j := i) dX8_answer_60 (by decide) rfl rfl (by show i < 6; omega) ?_
        refine V_iload (pc := 61) dX8_answer_61 rfl ?_
        refine V_ifeq (pc := 63) (tgt := 70) dX8_answer_63 (by decide) (fun h63 => ?_) (fun h63 => ?_)
        · refine V_iconst (pc := 70) (v := 1) dX8_answer_70 (by decide) ?_
          refine V_iadd (pc := 71) dX8_answer_71 ?_
          refine V_iast (pc := 72) (j := i) dX8_answer_72 (by decide) rfl rfl (by show i < 6; omega) ?_
          refine V_aload_n (pc := 73) dX8_answer_73 rfl rfl ?_
          refine V_getI (pc := 74) (ci := 8) (j := 13) dX8_answer_74 fl_X8_138 (fun _ _ _ _ => rfl) (by decide) rfl ?_
          rw [get_ne (by omega), get_ne (by omega), m9]
          refine V_bipush (pc := 77) (v := 40) dX8_answer_77 (by decide) ?_
          refine V_icmpge (pc := 79) (tgt := 119) dX8_answer_79 (by decide) (fun h79 => ?_) (fun h79 => ?_)
          · have h79 := (nI_leI (a := 40) (b := sA (aS a)) (by omega) (by omega)).mp h79
            refine V_vret (pc := 119) dX8_answer_119 rfl ?_
            rw [if_pos ⟨h9, h14⟩]
            generalize hμ2 : setI _ _ _ _ = μ2
            have hJ : FrS μ μ2 := by
              rw [← hμ2]
              first
              | exact (((FrS.rf.set (Or.inl ⟨by omega, by omega⟩)).set (Or.inl ⟨by omega, by omega⟩)).set (Or.inl ⟨by omega, by omega⟩)).set (Or.inr ⟨rfl, by omega⟩)
              | exact (FrS.rf.set (Or.inl ⟨by omega, by omega⟩)).set (Or.inl ⟨by omega, by omega⟩)
            refine ⟨rfl, hM.ans hO hi h9 (by omega) hJ ?_ ?_ ?_ ?_ ?_, hJ⟩
            · rw [hfv, ← hμ2]; simp [get_set, n4]
            · rw [hfv, ← hμ2]; simp [get_set, n5]
            · intro k j g1 g2 g3 g4
              rw [← hμ2]
              simp only [get_set, if_neg g1, if_neg g2, if_neg g3, if_neg g4]
            · rw [← hμ2]
              first
              | (rw [if_pos (by omega), get_eq, get_ne (by omega), get_ne (by omega), get_ne (by omega), m9, nI_1]; done)
              | (rw [if_neg (by omega), get_ne (by omega), get_ne (by omega), m9]; done)
            · intro hs
              rw [hfv, ← hμ2]
              first
              | (exfalso; omega)
              | (rw [get_ne (by omega), get_eq]; rfl)
          have h79 := mt (nI_leI (a := 40) (b := sA (aS a)) (by omega) (by omega)).mpr h79
          refine V_aload_n (pc := 82) dX8_answer_82 rfl rfl ?_
          refine V_getR (pc := 83) (ci := 8) (j := 14) (k2 := 73) dX8_answer_83 fl_X8_31 (fun _ _ _ _ => rfl) (by decide) rfl (rf_8_14 rfl) ?_
          refine V_aload_n (pc := 86) dX8_answer_86 rfl rfl ?_
          refine V_getI (pc := 87) (ci := 8) (j := 13) dX8_answer_87 fl_X8_138 (fun _ _ _ _ => rfl) (by decide) rfl ?_
          refine V_iload_n (pc := 90) dX8_answer_90 rfl rfl ?_
          refine V_bipush (pc := 91) (v := 8) dX8_answer_91 (by decide) ?_
          refine V_iload_n (pc := 93) dX8_answer_93 rfl rfl ?_
          refine V_imul (pc := 94) dX8_answer_94 ?_
          refine V_iadd (pc := 95) dX8_answer_95 ?_
          refine V_iload (pc := 96) dX8_answer_96 rfl ?_
          refine V_ifeq (pc := 98) (tgt := 106) dX8_answer_98 (by decide) (fun h98 => ?_) (fun h98 => ?_)
          · refine V_iconst (pc := 106) (v := 0) dX8_answer_106 (by decide) ?_
            refine V_iadd (pc := 107) dX8_answer_107 ?_
            first
            | (rw [show cI (sC (aS a) i) + (8 : Int32) * nI w + 64 = nI (sC (aS a) i - 1 + 8 * w + 64) from by rw [← hcn, show (8 : Int32) = nI 8 from rfl, show (64 : Int32) = nI 64 from rfl, pk_mul, nI_add, nI_add]])
            | (rw [show cI (sC (aS a) i) + (8 : Int32) * nI w + 0 = nI (sC (aS a) i - 1 + 8 * w + 0) from by rw [← hcn, show (8 : Int32) = nI 8 from rfl, show (0 : Int32) = nI 0 from rfl, pk_mul, nI_add, nI_add]])
            refine V_iast (pc := 108) (j := (sA (aS a))) dX8_answer_108 (by decide) rfl (by rw [get_ne (by omega), get_ne (by omega), m9]) (by show _ < 40; omega) ?_
            refine V_aload_n (pc := 109) dX8_answer_109 rfl rfl ?_
            refine V_dup (pc := 110) dX8_answer_110 rfl ?_
            refine V_getI (pc := 111) (ci := 8) (j := 13) dX8_answer_111 fl_X8_138 (fun _ _ _ _ => rfl) (by decide) rfl ?_
            refine V_iconst (pc := 114) (v := 1) dX8_answer_114 (by decide) ?_
            refine V_iadd (pc := 115) dX8_answer_115 ?_
            refine V_putI (pc := 116) (ci := 8) (j := 13) dX8_answer_116 fl_X8_138 (fun _ _ _ _ _ => rfl) rfl rfl (by decide) rfl ?_
            refine V_vret (pc := 119) dX8_answer_119 rfl ?_
            rw [if_pos ⟨h9, h14⟩]
            generalize hμ2 : setI _ _ _ _ = μ2
            have hJ : FrS μ μ2 := by
              rw [← hμ2]
              first
              | exact (((FrS.rf.set (Or.inl ⟨by omega, by omega⟩)).set (Or.inl ⟨by omega, by omega⟩)).set (Or.inl ⟨by omega, by omega⟩)).set (Or.inr ⟨rfl, by omega⟩)
              | exact (FrS.rf.set (Or.inl ⟨by omega, by omega⟩)).set (Or.inl ⟨by omega, by omega⟩)
            refine ⟨rfl, hM.ans hO hi h9 (by omega) hJ ?_ ?_ ?_ ?_ ?_, hJ⟩
            · rw [hfv, ← hμ2]; simp [get_set, n4]
            · rw [hfv, ← hμ2]; simp [get_set, n5]
            · intro k j g1 g2 g3 g4
              rw [← hμ2]
              simp only [get_set, if_neg g1, if_neg g2, if_neg g3, if_neg g4]
            · rw [← hμ2]
              first
              | (rw [if_pos (by omega), get_eq, get_ne (by omega), get_ne (by omega), get_ne (by omega), m9, nI_1]; done)
              | (rw [if_neg (by omega), get_ne (by omega), get_ne (by omega), m9]; done)
            · intro hs
              rw [hfv, ← hμ2]
              first
              | (exfalso; omega)
              | (rw [get_ne (by omega), get_eq]; rfl)
          exact absurd rfl h98
        exact absurd rfl h63
      exact absurd rfl h44
    rw [hB.2 (sC (aS a) i - 1) (by omega), ← cI_s w, cI_eq (by have := o5 (sC (aS a) i - 1) (by omega); omega) (by omega)] at h25; have hfv : fav (aOw a) (sC (aS a) i) w = true := by unfold fav; rw [if_neg h9]; simpa using h25
    refine V_iconst (pc := 28) (v := 1) dX8_answer_28 (by decide) ?_
    refine V_goto (pc := 29) (tgt := 33) dX8_answer_29 (by decide) ?_
    refine V_istore4 (pc := 33) dX8_answer_33 (by decide) rfl ?_
    refine V_aload_n (pc := 35) dX8_answer_35 rfl rfl ?_
    refine V_getR (pc := 36) (ci := 8) (j := 9) (k2 := 71) dX8_answer_36 fl_X8_25 (fun _ _ _ _ => rfl) (by decide) rfl (rf_8_9 rfl) ?_
    refine V_iload_n (pc := 39) dX8_answer_39 rfl rfl ?_
    refine V_dup2_11 (pc := 40) dX8_answer_40 rfl rfl ?_
    refine V_iald (pc := 41) (j := i) dX8_answer_41 (by decide) rfl rfl (by show i < 6; omega) ?_
    refine V_iload (pc := 42) dX8_answer_42 rfl ?_
    refine V_ifeq (pc := 44) (tgt := 51) dX8_answer_44 (by decide) (fun h44 => ?_) (fun h44 => ?_)
    · exact absurd h44 (by decide)
    refine V_iconst (pc := 47) (v := 1) dX8_answer_47 (by decide) ?_
    refine V_goto (pc := 48) (tgt := 52) dX8_answer_48 (by decide) ?_
    refine V_iadd (pc := 52) dX8_answer_52 ?_
    refine V_iast (pc := 53) (j := i) dX8_answer_53 (by decide) rfl rfl (by show i < 6; omega) ?_
    refine V_aload_n (pc := 54) dX8_answer_54 rfl rfl ?_
    refine V_getR (pc := 55) (ci := 8) (j := 10) (k2 := 72) dX8_answer_55 fl_X8_28 (fun _ _ _ _ => rfl) (by decide) rfl (rf_8_10 rfl) ?_
    refine V_iload_n (pc := 58) dX8_answer_58 rfl rfl ?_
    refine V_dup2_11 (pc := 59) dX8_answer_59 rfl rfl ?_
    refine V_iald (pc := 60) (j := i) dX8_answer_60 (by decide) rfl rfl (by show i < 6; omega) ?_
    refine V_iload (pc := 61) dX8_answer_61 rfl ?_
    refine V_ifeq (pc := 63) (tgt := 70) dX8_answer_63 (by decide) (fun h63 => ?_) (fun h63 => ?_)
    · exact absurd h63 (by decide)
    refine V_iconst (pc := 66) (v := 0) dX8_answer_66 (by decide) ?_
    refine V_goto (pc := 67) (tgt := 71) dX8_answer_67 (by decide) ?_
    refine V_iadd (pc := 71) dX8_answer_71 ?_
    refine V_iast (pc := 72) (j := i) dX8_answer_72 (by decide) rfl rfl (by show i < 6; omega) ?_
    refine V_aload_n (pc := 73) dX8_answer_73 rfl rfl ?_
    refine V_getI (pc := 74) (ci := 8) (j := 13) dX8_answer_74 fl_X8_138 (fun _ _ _ _ => rfl) (by decide) rfl ?_
    rw [get_ne (by omega), get_ne (by omega), m9]
    refine V_bipush (pc := 77) (v := 40) dX8_answer_77 (by decide) ?_
    refine V_icmpge (pc := 79) (tgt := 119) dX8_answer_79 (by decide) (fun h79 => ?_) (fun h79 => ?_)
    · have h79 := (nI_leI (a := 40) (b := sA (aS a)) (by omega) (by omega)).mp h79
      refine V_vret (pc := 119) dX8_answer_119 rfl ?_
      rw [if_pos ⟨h9, h14⟩]
      generalize hμ2 : setI _ _ _ _ = μ2
      have hJ : FrS μ μ2 := by
        rw [← hμ2]
        first
        | exact (((FrS.rf.set (Or.inl ⟨by omega, by omega⟩)).set (Or.inl ⟨by omega, by omega⟩)).set (Or.inl ⟨by omega, by omega⟩)).set (Or.inr ⟨rfl, by omega⟩)
        | exact (FrS.rf.set (Or.inl ⟨by omega, by omega⟩)).set (Or.inl ⟨by omega, by omega⟩)
      refine ⟨rfl, hM.ans hO hi h9 (by omega) hJ ?_ ?_ ?_ ?_ ?_, hJ⟩
      · rw [hfv, ← hμ2]; simp [get_set, n4]
      · rw [hfv, ← hμ2]; simp [get_set, n5]
      · intro k j g1 g2 g3 g4
        rw [← hμ2]
        simp only [get_set, if_neg g1, if_neg g2, if_neg g3, if_neg g4]
      · rw [← hμ2]
        first
        | (rw [if_pos (by omega), get_eq, get_ne (by omega), get_ne (by omega), get_ne (by omega), m9, nI_1]; done)
        | (rw [if_neg (by omega), get_ne (by omega), get_ne (by omega), m9]; done)
      · intro hs
        rw [hfv, ← hμ2]
        first
        | (exfalso; omega)
        | (rw [get_ne (by omega), get_eq]; rfl)
    have h79 := mt (nI_leI (a := 40) (b := sA (aS a)) (by omega) (by omega)).mpr h79
    refine V_aload_n (pc := 82) dX8_answer_82 rfl rfl ?_
    refine V_getR (pc := 83) (ci := 8) (j := 14) (k2 := 73) dX8_answer_83 fl_X8_31 (fun _ _ _ _ => rfl) (by decide) rfl (rf_8_14 rfl) ?_
    refine V_aload_n (pc := 86) dX8_answer_86 rfl rfl ?_
    refine V_getI (pc := 87) (ci := 8) (j := 13) dX8_answer_87 fl_X8_138 (fun _ _ _ _ => rfl) (by decide) rfl ?_
    refine V_iload_n (pc := 90) dX8_answer_90 rfl rfl ?_
    refine V_bipush (pc := 91) (v := 8) dX8_answer_91 (by decide) ?_
    refine V_iload_n (pc := 93) dX8_answer_93 rfl rfl ?_
    refine V_imul (pc := 94) dX8_answer_94 ?_
    refine V_iadd (pc := 95) dX8_answer_95 ?_
    refine V_iload (pc := 96) dX8_answer_96 rfl ?_
    refine V_ifeq (pc := 98) (tgt := 106) dX8_answer_98 (by decide) (fun h98 => ?_) (fun h98 => ?_)
    · exact absurd h98 (by decide)
    refine V_bipush (pc := 101) (v := 64) dX8_answer_101 (by decide) ?_
    refine V_goto (pc := 103) (tgt := 107) dX8_answer_103 (by decide) ?_
    refine V_iadd (pc := 107) dX8_answer_107 ?_
    first
    | (rw [show cI (sC (aS a) i) + (8 : Int32) * nI w + 64 = nI (sC (aS a) i - 1 + 8 * w + 64) from by rw [← hcn, show (8 : Int32) = nI 8 from rfl, show (64 : Int32) = nI 64 from rfl, pk_mul, nI_add, nI_add]])
    | (rw [show cI (sC (aS a) i) + (8 : Int32) * nI w + 0 = nI (sC (aS a) i - 1 + 8 * w + 0) from by rw [← hcn, show (8 : Int32) = nI 8 from rfl, show (0 : Int32) = nI 0 from rfl, pk_mul, nI_add, nI_add]])
    refine V_iast (pc := 108) (j := (sA (aS a))) dX8_answer_108 (by decide) rfl (by rw [get_ne (by omega), get_ne (by omega), m9]) (by show _ < 40; omega) ?_
    refine V_aload_n (pc := 109) dX8_answer_109 rfl rfl ?_
    refine V_dup (pc := 110) dX8_answer_110 rfl ?_
    refine V_getI (pc := 111) (ci := 8) (j := 13) dX8_answer_111 fl_X8_138 (fun _ _ _ _ => rfl) (by decide) rfl ?_
    refine V_iconst (pc := 114) (v := 1) dX8_answer_114 (by decide) ?_
    refine V_iadd (pc := 115) dX8_answer_115 ?_
    refine V_putI (pc := 116) (ci := 8) (j := 13) dX8_answer_116 fl_X8_138 (fun _ _ _ _ _ => rfl) rfl rfl (by decide) rfl ?_
    refine V_vret (pc := 119) dX8_answer_119 rfl ?_
    rw [if_pos ⟨h9, h14⟩]
    generalize hμ2 : setI _ _ _ _ = μ2
    have hJ : FrS μ μ2 := by
      rw [← hμ2]
      first
      | exact (((FrS.rf.set (Or.inl ⟨by omega, by omega⟩)).set (Or.inl ⟨by omega, by omega⟩)).set (Or.inl ⟨by omega, by omega⟩)).set (Or.inr ⟨rfl, by omega⟩)
      | exact (FrS.rf.set (Or.inl ⟨by omega, by omega⟩)).set (Or.inl ⟨by omega, by omega⟩)
    refine ⟨rfl, hM.ans hO hi h9 (by omega) hJ ?_ ?_ ?_ ?_ ?_, hJ⟩
    · rw [hfv, ← hμ2]; simp [get_set, n4]
    · rw [hfv, ← hμ2]; simp [get_set, n5]
    · intro k j g1 g2 g3 g4
      rw [← hμ2]
      simp only [get_set, if_neg g1, if_neg g2, if_neg g3, if_neg g4]
    · rw [← hμ2]
      first
      | (rw [if_pos (by omega), get_eq, get_ne (by omega), get_ne (by omega), get_ne (by omega), m9, nI_1]; done)
      | (rw [if_neg (by omega), get_ne (by omega), get_ne (by omega), m9]; done)
    · intro hs
      rw [hfv, ← hμ2]
      first
      | (exfalso; omega)
      | (rw [get_ne (by omega), get_eq]; rfl)
  have h14 := (nI_eq (a := w) (b := 4) (by omega) (by omega)).mp h14
  refine V_vret (pc := 17) dX8_answer_17 rfl ?_
  have hn : ¬ (sC (aS a) i ≠ 0 ∧ w ≠ 4) := by omega
  rw [if_neg hn]
  exact ⟨rfl, hM, FrS.rf⟩
theorem dX8_blow_0 : decode cX8_blow 0 = .ok (.iload_n 1, 1) := by decide +kernel
theorem dX8_blow_1 : decode cX8_blow 1 = .ok (.iconst 0, 1) := by decide +kernel
theorem dX8_blow_2 : decode cX8_blow 2 = .ok (.iconst 4, 1) := by decide +kernel
theorem dX8_blow_3 : decode cX8_blow 3 = .ok (.invokestatic 88, 3) := by decide +kernel
theorem dX8_blow_6 : decode cX8_blow 6 = .ok (.ifCond .ne 6, 3) := by decide +kernel
theorem dX8_blow_9 : decode cX8_blow 9 = .ok (.bipush (-101), 2) := by decide +kernel
theorem dX8_blow_11 : decode cX8_blow 11 = .ok (.ireturn, 1) := by decide +kernel
theorem dX8_blow_12 : decode cX8_blow 12 = .ok (.aload_n 0, 1) := by decide +kernel
theorem dX8_blow_13 : decode cX8_blow 13 = .ok (.getfield 123, 3) := by decide +kernel
theorem dX8_blow_16 : decode cX8_blow 16 = .ok (.ifCond .ne 6, 3) := by decide +kernel
theorem dX8_blow_19 : decode cX8_blow 19 = .ok (.bipush (-103), 2) := by decide +kernel
theorem dX8_blow_21 : decode cX8_blow 21 = .ok (.ireturn, 1) := by decide +kernel
theorem dX8_blow_22 : decode cX8_blow 22 = .ok (.iconst 0, 1) := by decide +kernel
theorem dX8_blow_23 : decode cX8_blow 23 = .ok (.istore_n 2, 1) := by decide +kernel
theorem dX8_blow_24 : decode cX8_blow 24 = .ok (.iload_n 2, 1) := by decide +kernel
theorem dX8_blow_25 : decode cX8_blow 25 = .ok (.aload_n 0, 1) := by decide +kernel
theorem dX8_blow_26 : decode cX8_blow 26 = .ok (.getfield 129, 3) := by decide +kernel
theorem dX8_blow_29 : decode cX8_blow 29 = .ok (.if_icmp .ge 51, 3) := by decide +kernel
theorem dX8_blow_32 : decode cX8_blow 32 = .ok (.aload_n 0, 1) := by decide +kernel
theorem dX8_blow_33 : decode cX8_blow 33 = .ok (.iload_n 2, 1) := by decide +kernel
theorem dX8_blow_34 : decode cX8_blow 34 = .ok (.iload_n 1, 1) := by decide +kernel
theorem dX8_blow_35 : decode cX8_blow 35 = .ok (.invokevirtual 162, 3) := by decide +kernel
theorem dX8_blow_38 : decode cX8_blow 38 = .ok (.aload_n 0, 1) := by decide +kernel
theorem dX8_blow_39 : decode cX8_blow 39 = .ok (.getfield 19, 3) := by decide +kernel
theorem dX8_blow_42 : decode cX8_blow 42 = .ok (.iload_n 2, 1) := by decide +kernel
theorem dX8_blow_43 : decode cX8_blow 43 = .ok (.aload_n 0, 1) := by decide +kernel
theorem dX8_blow_44 : decode cX8_blow 44 = .ok (.aload_n 0, 1) := by decide +kernel
theorem dX8_blow_45 : decode cX8_blow 45 = .ok (.getfield 16, 3) := by decide +kernel
theorem dX8_blow_48 : decode cX8_blow 48 = .ok (.iload_n 2, 1) := by decide +kernel
theorem dX8_blow_49 : decode cX8_blow 49 = .ok (.iaload, 1) := by decide +kernel
theorem dX8_blow_50 : decode cX8_blow 50 = .ok (.aload_n 0, 1) := by decide +kernel
theorem dX8_blow_51 : decode cX8_blow 51 = .ok (.getfield 19, 3) := by decide +kernel
theorem dX8_blow_54 : decode cX8_blow 54 = .ok (.iload_n 2, 1) := by decide +kernel
theorem dX8_blow_55 : decode cX8_blow 55 = .ok (.iaload, 1) := by decide +kernel
theorem dX8_blow_56 : decode cX8_blow 56 = .ok (.iload_n 1, 1) := by decide +kernel
theorem dX8_blow_57 : decode cX8_blow 57 = .ok (.aload_n 0, 1) := by decide +kernel
theorem dX8_blow_58 : decode cX8_blow 58 = .ok (.getfield 22, 3) := by decide +kernel
theorem dX8_blow_61 : decode cX8_blow 61 = .ok (.iload_n 2, 1) := by decide +kernel
theorem dX8_blow_62 : decode cX8_blow 62 = .ok (.iaload, 1) := by decide +kernel
theorem dX8_blow_63 : decode cX8_blow 63 = .ok (.invokevirtual 166, 3) := by decide +kernel
theorem dX8_blow_66 : decode cX8_blow 66 = .ok (.iastore, 1) := by decide +kernel
theorem dX8_blow_67 : decode cX8_blow 67 = .ok (.aload_n 0, 1) := by decide +kernel
theorem dX8_blow_68 : decode cX8_blow 68 = .ok (.getfield 22, 3) := by decide +kernel
theorem dX8_blow_71 : decode cX8_blow 71 = .ok (.iload_n 2, 1) := by decide +kernel
theorem dX8_blow_72 : decode cX8_blow 72 = .ok (.iconst (-1), 1) := by decide +kernel
theorem dX8_blow_73 : decode cX8_blow 73 = .ok (.iastore, 1) := by decide +kernel
theorem dX8_blow_74 : decode cX8_blow 74 = .ok (.iinc 2 1, 3) := by decide +kernel
theorem dX8_blow_77 : decode cX8_blow 77 = .ok (.goto (-53), 3) := by decide +kernel
theorem dX8_blow_80 : decode cX8_blow 80 = .ok (.aload_n 0, 1) := by decide +kernel
theorem dX8_blow_81 : decode cX8_blow 81 = .ok (.dup, 1) := by decide +kernel
theorem dX8_blow_82 : decode cX8_blow 82 = .ok (.getfield 135, 3) := by decide +kernel
theorem dX8_blow_85 : decode cX8_blow 85 = .ok (.iconst 1, 1) := by decide +kernel
theorem dX8_blow_86 : decode cX8_blow 86 = .ok (.iadd, 1) := by decide +kernel
theorem dX8_blow_87 : decode cX8_blow 87 = .ok (.putfield 135, 3) := by decide +kernel
theorem dX8_blow_90 : decode cX8_blow 90 = .ok (.aload_n 0, 1) := by decide +kernel
theorem dX8_blow_91 : decode cX8_blow 91 = .ok (.invokevirtual 170, 3) := by decide +kernel
theorem dX8_blow_94 : decode cX8_blow 94 = .ok (.ireturn, 1) := by decide +kernel
set_option maxHeartbeats 4000000 in
set_option maxRecDepth 100000 in
theorem c_X8_blow {l : Launch} {g : GW} {a : AT} {x : Int32} (μ : Mm) (hO : AOK a) (hM : RM μ a)  : Con l g yX8_blow cX8_blow 3 (some .int) 3 [.ref 65, .int x] μ (fun r μ' => r = some (.int (fBlow a x).1) ∧ RM μ' (fBlow a x).2 ∧ FrX μ μ') := by
  obtain ⟨m1, m2, m3, m4, m5, m6, m7, m8, m9, m10, m11, m12, m13⟩ := id hM
  obtain ⟨o1, o2, o3, o4, o5, ⟨s1, s2, s3, s4⟩, oK, o8, o9, o10⟩ := id hO
  refine Con.of [.ref 65, .int x, .null] 1 (by decide +kernel) (Nat.le_of_ble_eq_true rfl) rfl ?_
  refine V_iload_n (pc := 0) dX8_blow_0 rfl rfl ?_
  refine V_iconst (pc := 1) (v := 0) dX8_blow_1 (by decide) ?_
  refine V_iconst (pc := 2) (v := 4) dX8_blow_2 (by decide) ?_
  refine V_ins3 (pc := 3) dX8_blow_3 ml_X8_88 (by first | decide | omega) (Nat.le_of_ble_eq_true rfl) (c_X8_within μ) ?_
  rintro _ μ2 ⟨rfl, hμ⟩
  obtain rfl := hμ.symm
  rw [inW_N (n := 5) (by decide)]
  refine V_ifne (pc := 6) (tgt := 12) dX8_blow_6 (by decide) (fun h6 => ?_) (fun h6 => ?_)
  · have h6 := bI_ne h6
    refine V_aload_n (pc := 12) dX8_blow_12 rfl rfl ?_
    refine V_getI (pc := 13) (ci := 8) (j := 0) dX8_blow_13 fl_X8_123 (fun _ _ _ _ => rfl) (by decide) rfl ?_
    rw [m1]
    refine V_ifne (pc := 16) (tgt := 22) dX8_blow_16 (by decide) (fun h16 => ?_) (fun h16 => ?_)
    · have h16 := of_decide_eq_true (bI_ne h16)
      have hx := h6
      obtain ⟨w, hw, rfl⟩ := inN_of (by decide) h6
      have ef : fBlow a (nI w) = (nI (homeT (sP (dayT (aOw a) w (aS a))) (sN (dayT (aOw a) w (aS a)))), setA a (dayT (aOw a) w (aS a))) := by unfold fBlow; rw [hx, if_pos rfl, if_pos h16, nn_nI (by omega)]
      rw [ef]
      clear ef
      refine V_iconst (pc := 22) (v := 0) dX8_blow_22 (by decide) ?_
      refine V_istore2 (pc := 23) dX8_blow_23 (by decide) rfl ?_
      have loopA : ∀ (nA i : Nat) (μ1 : Mm), i ≤ sN (aS a) → sN (aS a) < i + nA → (RM μ1 (setA a (pdT (aOw a) w (aS a) i))) → (FrS μ μ1) → V l g RX8 cX8_blow 3 (some .int) 3 24 [.ref 65, .int (nI w), .int (nI i)] [] μ1 (fun r μ' => r = some (.int (nI (homeT (sP (dayT (aOw a) w (aS a))) (sN (dayT (aOw a) w (aS a)))))) ∧ RM μ' (setA a (dayT (aOw a) w (aS a))) ∧ FrX μ μ') := by
        intro nA
        induction nA with
        | zero => intro i μ1 h1 h2; exact absurd h2 (by omega)
        | succ nA ihA =>
          intro i μ1 hleA hfuA hM1 hF1
          refine V_iload_n (pc := 24) dX8_blow_24 rfl rfl ?_
          refine V_aload_n (pc := 25) dX8_blow_25 rfl rfl ?_
          refine V_getI (pc := 26) (ci := 8) (j := 5) dX8_blow_26 fl_X8_129 (fun _ _ _ _ => rfl) (by decide) rfl ?_
          refine V_icmpge (pc := 29) (tgt := 80) dX8_blow_29 (by decide) (fun h29 => ?_) (fun h29 => ?_)
          · have e5 : μ1.1 65 5 = nI (sN (aS a)) := (by have q := hM1.2.2.2.2.1; rwa [show aS (setA a (pdT (aOw a) w (aS a) i)) = pdT (aOw a) w (aS a) i from rfl, pdT_N] at q); rw [e5, nI_leI (by omega) (by omega)] at h29; have hn : i = sN (aS a) := (by omega); subst hn
            refine V_aload_n (pc := 80) dX8_blow_80 rfl rfl ?_
            refine V_dup (pc := 81) dX8_blow_81 rfl ?_
            refine V_getI (pc := 82) (ci := 8) (j := 12) dX8_blow_82 fl_X8_135 (fun _ _ _ _ => rfl) (by decide) rfl ?_
            rw [show μ1.1 65 12 = sD (pdT (aOw a) w (aS a) (sN (aS a))) from hM1.2.2.2.2.2.2.2.1]
            refine V_iconst (pc := 85) (v := 1) dX8_blow_85 (by decide) ?_
            refine V_iadd (pc := 86) dX8_blow_86 ?_
            refine V_putI (pc := 87) (ci := 8) (j := 12) dX8_blow_87 fl_X8_135 (fun _ _ _ _ _ => rfl) rfl rfl (by decide) rfl ?_
            refine V_aload_n (pc := 90) dX8_blow_90 rfl rfl ?_
            refine V_inv0 (pc := 91) (ci := 8) dX8_blow_91 ml_X8_170 (by decide) rfl ⟨by decide, rfl⟩ (by first | decide | omega) (Nat.le_of_ble_eq_true rfl) (c_X8_homeMany (a := setA a (dayT (aOw a) w (aS a))) _ (hO.sea (pd_ok (ow := aOw a) (w := w) hO.2.2.2.2.2.1 (sN (aS a)) (by omega))) (hM1.dy)) ?_
            rintro _ μ3 ⟨rfl, hμ⟩
            obtain rfl := hμ.symm
            refine V_iret (pc := 94) dX8_blow_94 rfl ?_
            exact ⟨rfl, hM1.dy, (hF1.set (Or.inr ⟨rfl, by omega⟩)).X⟩
          have e5 : μ1.1 65 5 = nI (sN (aS a)) := (by have q := hM1.2.2.2.2.1; rwa [show aS (setA a (pdT (aOw a) w (aS a) i)) = pdT (aOw a) w (aS a) i from rfl, pdT_N] at q); rw [e5, nI_leI (by omega) (by omega)] at h29; have hlt : i < sN (aS a) := (by omega)
          refine V_aload_n (pc := 32) dX8_blow_32 rfl rfl ?_
          refine V_iload_n (pc := 33) dX8_blow_33 rfl rfl ?_
          refine V_iload_n (pc := 34) dX8_blow_34 rfl rfl ?_
          refine V_inv2 (pc := 35) (ci := 8) dX8_blow_35 ml_X8_162 (by decide) rfl ⟨by decide, rfl⟩ (by first | decide | omega) (Nat.le_of_ble_eq_true rfl) (c_X8_answer (a := setA a (pdT (aOw a) w (aS a) i)) μ1 (hO.sea (pd_ok hO.2.2.2.2.2.1 i (by omega))) hM1 h16 (by rw [show aS (setA a (pdT (aOw a) w (aS a) i)) = pdT (aOw a) w (aS a) i from rfl, pdT_N]; exact hlt) (show w ≤ 4 by omega)) ?_
          rintro _ μ2 ⟨rfl, hM2, hF2⟩
          have ok1 := pd_ok (ow := aOw a) (w := w) hO.2.2.2.2.2.1 i (by omega)
          have ok2 : SeaOK (if sC (pdT (aOw a) w (aS a) i) i ≠ 0 ∧ w ≠ 4 then ansT (aOw a) w i (pdT (aOw a) w (aS a) i) else pdT (aOw a) w (aS a) i) := by
            split
            · exact ans_ok ok1 (by omega)
            · exact ok1
          have eN : sN (if sC (pdT (aOw a) w (aS a) i) i ≠ 0 ∧ w ≠ 4 then ansT (aOw a) w i (pdT (aOw a) w (aS a) i) else pdT (aOw a) w (aS a) i) = sN (aS a) := by
            split
            · rw [ansT_N, pdT_N]
            · rw [pdT_N]
          have hM2 : RM μ2 (setA a (if sC (pdT (aOw a) w (aS a) i) i ≠ 0 ∧ w ≠ 4 then ansT (aOw a) w i (pdT (aOw a) w (aS a) i) else pdT (aOw a) w (aS a) i)) := hM2
          have ep : pdT (aOw a) w (aS a) (i + 1) = wShip (if sC (pdT (aOw a) w (aS a) i) i ≠ 0 ∧ w ≠ 4 then ansT (aOw a) w i (pdT (aOw a) w (aS a) i) else pdT (aOw a) w (aS a) i) i (sK (if sC (pdT (aOw a) w (aS a) i) i ≠ 0 ∧ w ≠ 4 then ansT (aOw a) w i (pdT (aOw a) w (aS a) i) else pdT (aOw a) w (aS a) i) i) _ 0 _ _ := rfl
          generalize (if sC (pdT (aOw a) w (aS a) i) i ≠ 0 ∧ w ≠ 4 then ansT (aOw a) w i (pdT (aOw a) w (aS a) i) else pdT (aOw a) w (aS a) i) = σ2 at hM2 ok2 eN ep
          obtain ⟨n1, n2, n3, n4, n5⟩ := hM2.2.2.2.2.2.1 i (by rw [show aS (setA a σ2) = σ2 from rfl, eN]; exact hlt)
          have n1 : μ2.1 68 i = nI (sK σ2 i) := n1
          have n2 : μ2.1 69 i = nI (sP σ2 i) := n2
          have n3 : μ2.1 70 i = cI (sC σ2 i) := n3
          obtain ⟨u1, u2, u3⟩ := ok2.2.2.2 i (by omega)
          refine V_aload_n (pc := 38) dX8_blow_38 rfl rfl ?_
          refine V_getR (pc := 39) (ci := 8) (j := 7) (k2 := 69) dX8_blow_39 fl_X8_19 (fun _ _ _ _ => rfl) (by decide) rfl (rf_8_7 rfl) ?_
          refine V_iload_n (pc := 42) dX8_blow_42 rfl rfl ?_
          refine V_aload_n (pc := 43) dX8_blow_43 rfl rfl ?_
          refine V_aload_n (pc := 44) dX8_blow_44 rfl rfl ?_
          refine V_getR (pc := 45) (ci := 8) (j := 6) (k2 := 68) dX8_blow_45 fl_X8_16 (fun _ _ _ _ => rfl) (by decide) rfl (rf_8_6 rfl) ?_
          refine V_iload_n (pc := 48) dX8_blow_48 rfl rfl ?_
          refine V_iald (pc := 49) (j := i) dX8_blow_49 (by decide) rfl rfl (by show i < 6; omega) ?_
          rw [n1]
          refine V_aload_n (pc := 50) dX8_blow_50 rfl rfl ?_
          refine V_getR (pc := 51) (ci := 8) (j := 7) (k2 := 69) dX8_blow_51 fl_X8_19 (fun _ _ _ _ => rfl) (by decide) rfl (rf_8_7 rfl) ?_
          refine V_iload_n (pc := 54) dX8_blow_54 rfl rfl ?_
          refine V_iald (pc := 55) (j := i) dX8_blow_55 (by decide) rfl rfl (by show i < 6; omega) ?_
          rw [n2]
          refine V_iload_n (pc := 56) dX8_blow_56 rfl rfl ?_
          refine V_aload_n (pc := 57) dX8_blow_57 rfl rfl ?_
          refine V_getR (pc := 58) (ci := 8) (j := 8) (k2 := 70) dX8_blow_58 fl_X8_22 (fun _ _ _ _ => rfl) (by decide) rfl (rf_8_8 rfl) ?_
          refine V_iload_n (pc := 61) dX8_blow_61 rfl rfl ?_
          refine V_iald (pc := 62) (j := i) dX8_blow_62 (by decide) rfl rfl (by show i < 6; omega) ?_
          rw [n3]
          refine V_inv4 (pc := 63) (ci := 8) dX8_blow_63 ml_X8_166 (by decide) rfl ⟨by decide, rfl⟩ (by first | decide | omega) (Nat.le_of_ble_eq_true rfl) (c_X8_behind (a := setA a σ2) μ2 (hO.sea ok2) hM2 h16 u1 u2 (show w ≤ 4 by omega) u3) ?_
          rintro _ μ3 ⟨rfl, hμ⟩
          obtain rfl := hμ.symm
          refine V_iast (pc := 66) (j := i) dX8_blow_66 (by decide) rfl rfl (by show i < 6; omega) ?_
          refine V_aload_n (pc := 67) dX8_blow_67 rfl rfl ?_
          refine V_getR (pc := 68) (ci := 8) (j := 8) (k2 := 70) dX8_blow_68 fl_X8_22 (fun _ _ _ _ => rfl) (by decide) rfl (rf_8_8 rfl) ?_
          refine V_iload_n (pc := 71) dX8_blow_71 rfl rfl ?_
          refine V_iconst (pc := 72) (v := (-1)) dX8_blow_72 (by decide) ?_
          refine V_iast (pc := 73) (j := i) dX8_blow_73 (by decide) rfl rfl (by show i < 6; omega) ?_
          refine V_iinc2 (pc := 74) (v := nI (i + 1)) dX8_blow_74 (nI_1 i) (by decide) rfl ?_
          refine V_goto (pc := 77) (tgt := 24) dX8_blow_77 (by decide) ?_
          refine ihA (i + 1) _ (by omega) (by omega) ?_ ((((hF1.tr hF2).set (Or.inl ⟨by omega, by omega⟩)).set (Or.inl ⟨by omega, by omega⟩)))
          rw [ep]
          exact hM2.mv (by rw [show aS (setA a σ2) = σ2 from rfl, eN]; exact hlt)
      exact loopA (sN (aS a) + 1) 0 _ (by omega) (by omega) hM FrS.rf
    have h16 := of_decide_eq_false (bI_e h16)
    refine V_bipush (pc := 19) (v := (-103)) dX8_blow_19 (by decide) ?_
    refine V_iret (pc := 21) dX8_blow_21 rfl ?_
    rw [show fBlow a x = (-103, a) from by unfold fBlow; rw [h6, if_pos rfl, if_neg h16]]
    exact ⟨rfl, hM, FrX.rf⟩
  have h6 := bI_e h6
  refine V_bipush (pc := 9) (v := (-101)) dX8_blow_9 (by decide) ?_
  refine V_iret (pc := 11) dX8_blow_11 rfl ?_
  rw [show fBlow a x = (-101, a) from by unfold fBlow; rw [h6]; rfl]
  exact ⟨rfl, hM, FrX.rf⟩
