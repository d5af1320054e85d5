theorem dX8_letters_0 : decode cX8_letters 0 = .ok (.iconst 0, 1) := by decide +kernel
theorem dX8_letters_1 : decode cX8_letters 1 = .ok (.istore_n 3, 1) := by decide +kernel
theorem dX8_letters_2 : decode cX8_letters 2 = .ok (.iconst 0, 1) := by decide +kernel
theorem dX8_letters_3 : decode cX8_letters 3 = .ok (.istore 4, 2) := by decide +kernel
theorem dX8_letters_5 : decode cX8_letters 5 = .ok (.iconst 0, 1) := by decide +kernel
theorem dX8_letters_6 : decode cX8_letters 6 = .ok (.istore 5, 2) := by decide +kernel
theorem dX8_letters_8 : decode cX8_letters 8 = .ok (.iload 5, 2) := by decide +kernel
theorem dX8_letters_10 : decode cX8_letters 10 = .ok (.bipush 8, 2) := by decide +kernel
theorem dX8_letters_12 : decode cX8_letters 12 = .ok (.if_icmp .ge 73, 3) := by decide +kernel
theorem dX8_letters_15 : decode cX8_letters 15 = .ok (.lload_n 1, 1) := by decide +kernel
theorem dX8_letters_16 : decode cX8_letters 16 = .ok (.bipush 8, 2) := by decide +kernel
theorem dX8_letters_18 : decode cX8_letters 18 = .ok (.iload 5, 2) := by decide +kernel
theorem dX8_letters_20 : decode cX8_letters 20 = .ok (.imul, 1) := by decide +kernel
theorem dX8_letters_21 : decode cX8_letters 21 = .ok (.lshr, 1) := by decide +kernel
theorem dX8_letters_22 : decode cX8_letters 22 = .ok (.ldc2_w 83, 3) := by decide +kernel
theorem dX8_letters_25 : decode cX8_letters 25 = .ok (.land, 1) := by decide +kernel
theorem dX8_letters_26 : decode cX8_letters 26 = .ok (.l2i, 1) := by decide +kernel
theorem dX8_letters_27 : decode cX8_letters 27 = .ok (.istore 6, 2) := by decide +kernel
theorem dX8_letters_29 : decode cX8_letters 29 = .ok (.iload 6, 2) := by decide +kernel
theorem dX8_letters_31 : decode cX8_letters 31 = .ok (.bipush 126, 2) := by decide +kernel
theorem dX8_letters_33 : decode cX8_letters 33 = .ok (.if_icmp .gt 13, 3) := by decide +kernel
theorem dX8_letters_36 : decode cX8_letters 36 = .ok (.iload 4, 2) := by decide +kernel
theorem dX8_letters_38 : decode cX8_letters 38 = .ok (.ifCond .eq 11, 3) := by decide +kernel
theorem dX8_letters_41 : decode cX8_letters 41 = .ok (.iload 6, 2) := by decide +kernel
theorem dX8_letters_43 : decode cX8_letters 43 = .ok (.ifCond .eq 6, 3) := by decide +kernel
theorem dX8_letters_46 : decode cX8_letters 46 = .ok (.bipush (-102), 2) := by decide +kernel
theorem dX8_letters_48 : decode cX8_letters 48 = .ok (.ireturn, 1) := by decide +kernel
theorem dX8_letters_49 : decode cX8_letters 49 = .ok (.iload 4, 2) := by decide +kernel
theorem dX8_letters_51 : decode cX8_letters 51 = .ok (.ifCond .ne 8, 3) := by decide +kernel
theorem dX8_letters_54 : decode cX8_letters 54 = .ok (.iload 6, 2) := by decide +kernel
theorem dX8_letters_56 : decode cX8_letters 56 = .ok (.ifCond .ne 7, 3) := by decide +kernel
theorem dX8_letters_59 : decode cX8_letters 59 = .ok (.iconst 1, 1) := by decide +kernel
theorem dX8_letters_60 : decode cX8_letters 60 = .ok (.goto 4, 3) := by decide +kernel
theorem dX8_letters_63 : decode cX8_letters 63 = .ok (.iconst 0, 1) := by decide +kernel
theorem dX8_letters_64 : decode cX8_letters 64 = .ok (.istore 4, 2) := by decide +kernel
theorem dX8_letters_66 : decode cX8_letters 66 = .ok (.iload_n 3, 1) := by decide +kernel
theorem dX8_letters_67 : decode cX8_letters 67 = .ok (.iload 6, 2) := by decide +kernel
theorem dX8_letters_69 : decode cX8_letters 69 = .ok (.ifCond .ne 7, 3) := by decide +kernel
theorem dX8_letters_72 : decode cX8_letters 72 = .ok (.iconst 0, 1) := by decide +kernel
theorem dX8_letters_73 : decode cX8_letters 73 = .ok (.goto 4, 3) := by decide +kernel
theorem dX8_letters_76 : decode cX8_letters 76 = .ok (.iconst 1, 1) := by decide +kernel
theorem dX8_letters_77 : decode cX8_letters 77 = .ok (.iadd, 1) := by decide +kernel
theorem dX8_letters_78 : decode cX8_letters 78 = .ok (.istore_n 3, 1) := by decide +kernel
theorem dX8_letters_79 : decode cX8_letters 79 = .ok (.iinc 5 1, 3) := by decide +kernel
theorem dX8_letters_82 : decode cX8_letters 82 = .ok (.goto (-74), 3) := by decide +kernel
theorem dX8_letters_85 : decode cX8_letters 85 = .ok (.aload_n 0, 1) := by decide +kernel
theorem dX8_letters_86 : decode cX8_letters 86 = .ok (.getfield 85, 3) := by decide +kernel
theorem dX8_letters_89 : decode cX8_letters 89 = .ok (.iload_n 3, 1) := by decide +kernel
theorem dX8_letters_90 : decode cX8_letters 90 = .ok (.iadd, 1) := by decide +kernel
theorem dX8_letters_91 : decode cX8_letters 91 = .ok (.bipush 30, 2) := by decide +kernel
theorem dX8_letters_93 : decode cX8_letters 93 = .ok (.if_icmp .le 6, 3) := by decide +kernel
theorem dX8_letters_96 : decode cX8_letters 96 = .ok (.bipush (-104), 2) := by decide +kernel
theorem dX8_letters_98 : decode cX8_letters 98 = .ok (.ireturn, 1) := by decide +kernel
theorem dX8_letters_99 : decode cX8_letters 99 = .ok (.iconst 0, 1) := by decide +kernel
theorem dX8_letters_100 : decode cX8_letters 100 = .ok (.istore 5, 2) := by decide +kernel
theorem dX8_letters_102 : decode cX8_letters 102 = .ok (.iload 5, 2) := by decide +kernel
theorem dX8_letters_104 : decode cX8_letters 104 = .ok (.iload_n 3, 1) := by decide +kernel
theorem dX8_letters_105 : decode cX8_letters 105 = .ok (.if_icmp .ge 30, 3) := by decide +kernel
theorem dX8_letters_108 : decode cX8_letters 108 = .ok (.aload_n 0, 1) := by decide +kernel
theorem dX8_letters_109 : decode cX8_letters 109 = .ok (.getfield 41, 3) := by decide +kernel
theorem dX8_letters_112 : decode cX8_letters 112 = .ok (.aload_n 0, 1) := by decide +kernel
theorem dX8_letters_113 : decode cX8_letters 113 = .ok (.getfield 85, 3) := by decide +kernel
theorem dX8_letters_116 : decode cX8_letters 116 = .ok (.iload 5, 2) := by decide +kernel
theorem dX8_letters_118 : decode cX8_letters 118 = .ok (.iadd, 1) := by decide +kernel
theorem dX8_letters_119 : decode cX8_letters 119 = .ok (.lload_n 1, 1) := by decide +kernel
theorem dX8_letters_120 : decode cX8_letters 120 = .ok (.bipush 8, 2) := by decide +kernel
theorem dX8_letters_122 : decode cX8_letters 122 = .ok (.iload 5, 2) := by decide +kernel
theorem dX8_letters_124 : decode cX8_letters 124 = .ok (.imul, 1) := by decide +kernel
theorem dX8_letters_125 : decode cX8_letters 125 = .ok (.lshr, 1) := by decide +kernel
theorem dX8_letters_126 : decode cX8_letters 126 = .ok (.l2i, 1) := by decide +kernel
theorem dX8_letters_127 : decode cX8_letters 127 = .ok (.i2b, 1) := by decide +kernel
theorem dX8_letters_128 : decode cX8_letters 128 = .ok (.bastore, 1) := by decide +kernel
theorem dX8_letters_129 : decode cX8_letters 129 = .ok (.iinc 5 1, 3) := by decide +kernel
theorem dX8_letters_132 : decode cX8_letters 132 = .ok (.goto (-30), 3) := by decide +kernel
theorem dX8_letters_135 : decode cX8_letters 135 = .ok (.aload_n 0, 1) := by decide +kernel
theorem dX8_letters_136 : decode cX8_letters 136 = .ok (.dup, 1) := by decide +kernel
theorem dX8_letters_137 : decode cX8_letters 137 = .ok (.getfield 85, 3) := by decide +kernel
theorem dX8_letters_140 : decode cX8_letters 140 = .ok (.iload_n 3, 1) := by decide +kernel
theorem dX8_letters_141 : decode cX8_letters 141 = .ok (.iadd, 1) := by decide +kernel
theorem dX8_letters_142 : decode cX8_letters 142 = .ok (.putfield 85, 3) := by decide +kernel
theorem dX8_letters_145 : decode cX8_letters 145 = .ok (.aload_n 0, 1) := by decide +kernel
theorem dX8_letters_146 : decode cX8_letters 146 = .ok (.getfield 85, 3) := by decide +kernel
theorem dX8_letters_149 : decode cX8_letters 149 = .ok (.ireturn, 1) := by decide +kernel
set_option maxHeartbeats 4000000 in
set_option maxRecDepth 100000 in
theorem c_X8_letters {l : Launch} {g : GW} {a : AT} {w : Int64} (μ : Mm) (hO : AOK a) (hM : RM μ a)  : Con l g yX8_letters cX8_letters 7 (some .int) 0 [.ref 65, .long w] μ (fun r μ' => r = some (.int (fLetters a w).1) ∧ RM μ' (fLetters a w).2 ∧ FrX μ μ') := by
  obtain ⟨m1, m2, m3, m4, m5, m6, m7, m8, m9, m10, m11, m12, m13⟩ := id hM
  obtain ⟨o1, o2, o3, o4, o5, ⟨s1, s2, s3, s4⟩, oK, o8, o9, o10⟩ := id hO
  refine Con.of [.ref 65, .long w, .null, .null, .null, .null, .null] 4 (by decide +kernel) (Nat.le_of_ble_eq_true rfl) rfl ?_
  refine V_iconst (pc := 0) (v := 0) dX8_letters_0 (by decide) ?_
  refine V_istore3 (pc := 1) dX8_letters_1 (by decide) rfl ?_
  refine V_iconst (pc := 2) (v := 0) dX8_letters_2 (by decide) ?_
  refine V_istore4 (pc := 3) dX8_letters_3 (by decide) rfl ?_
  refine V_iconst (pc := 5) (v := 0) dX8_letters_5 (by decide) ?_
  refine V_istore5 (pc := 6) dX8_letters_6 (by decide) rfl ?_
  have loopA : ∀ (nA k : Nat) (f : Nat) (u e : Int32) (y6 : Value), k ≤ 8 → 8 < k + nA → (leT w k = some f) → (u = nI f) → (e = bI (decide (f < k))) → V l g RX8 cX8_letters 7 (some .int) 0 8 [.ref 65, .long w, .null, .int u, .int e, .int (nI k), y6] [] μ (fun r μ' => r = some (.int (fLetters a w).1) ∧ RM μ' (fLetters a w).2 ∧ FrX μ μ') := by
    intro nA
    induction nA with
    | zero => intro k f u e y6 h1 h2; exact absurd h2 (by omega)
    | succ nA ihA =>
      intro k f u e y6 hleA hfuA hf hu he
      refine V_iload (pc := 8) dX8_letters_8 rfl ?_
      refine V_bipush (pc := 10) (v := 8) dX8_letters_10 (by decide) ?_
      refine V_icmpge (pc := 12) (tgt := 85) dX8_letters_12 (by decide) (fun h12 => ?_) (fun h12 => ?_)
      · have h12 := (nI_leI (a := 8) (b := k) (by decide) (by omega)).mp h12; obtain rfl : k = 8 := by omega
        subst hu
        have hk := leK_some hf
        have hf8 := (leT_some hf).1
        refine V_aload_n (pc := 85) dX8_letters_85 rfl rfl ?_
        refine V_getI (pc := 86) (ci := 8) (j := 18) dX8_letters_86 fl_X8_85 (fun _ _ _ _ => rfl) (by decide) rfl ?_
        refine V_iload_n (pc := 89) dX8_letters_89 rfl rfl ?_
        refine V_iadd (pc := 90) dX8_letters_90 ?_
        rw [m12.1, nI_add]
        refine V_bipush (pc := 91) (v := 30) dX8_letters_91 (by decide) ?_
        refine V_icmple (pc := 93) (tgt := 99) dX8_letters_93 (by decide) (fun h93 => ?_) (fun h93 => ?_)
        · have h93 := (nI_leI (a := aPn a + f) (b := 30) (by omega) (by decide)).mp h93
          refine V_iconst (pc := 99) (v := 0) dX8_letters_99 (by decide) ?_
          refine V_istore5 (pc := 100) dX8_letters_100 (by decide) rfl ?_
          have loopB : ∀ (nB i : Nat) (μ1 : Mm), i ≤ f → f < i + nB → (FrK 75 μ μ1) → (∀ j, j < 30 → μ1.1 75 j = nI (pgW (aPn a) i w (aPc a) j)) → V l g RX8 cX8_letters 7 (some .int) 0 102 [.ref 65, .long w, .null, .int (nI f), .int e, .int (nI i), y6] [] μ1 (fun r μ' => r = some (.int (fLetters a w).1) ∧ RM μ' (fLetters a w).2 ∧ FrX μ μ') := by
            intro nB
            induction nB with
            | zero => intro i μ1 h1 h2; exact absurd h2 (by omega)
            | succ nB ihB =>
              intro i μ1 hleB hfuB hF hc
              refine V_iload (pc := 102) dX8_letters_102 rfl ?_
              refine V_iload_n (pc := 104) dX8_letters_104 rfl rfl ?_
              refine V_icmpge (pc := 105) (tgt := 135) dX8_letters_105 (by decide) (fun h105 => ?_) (fun h105 => ?_)
              · have h105 := (nI_leI (a := f) (b := i) (by omega) (by omega)).mp h105; have hif : i = f := (by omega)
                refine V_aload_n (pc := 135) dX8_letters_135 rfl rfl ?_
                refine V_dup (pc := 136) dX8_letters_136 rfl ?_
                refine V_getI (pc := 137) (ci := 8) (j := 18) dX8_letters_137 fl_X8_85 (fun _ _ _ _ => rfl) (by decide) rfl ?_
                refine V_iload_n (pc := 140) dX8_letters_140 rfl rfl ?_
                refine V_iadd (pc := 141) dX8_letters_141 ?_
                refine V_putI (pc := 142) (ci := 8) (j := 18) dX8_letters_142 fl_X8_85 (fun _ _ _ _ _ => rfl) rfl rfl (by decide) rfl ?_
                refine V_aload_n (pc := 145) dX8_letters_145 rfl rfl ?_
                refine V_getI (pc := 146) (ci := 8) (j := 18) dX8_letters_146 fl_X8_85 (fun _ _ _ _ => rfl) (by decide) rfl ?_
                refine V_iret (pc := 149) dX8_letters_149 rfl ?_
                have e1 : μ1.1 65 18 + nI f = nI (aPn a + f) := by rw [hF.1 65 (by decide), m12.1, nI_add]
                have ef : fLetters a w = (nI (aPn a + f), setP a (aPn a + f) (pgW (aPn a) f w (aPc a))) := by unfold fLetters; rw [if_neg (by omega), if_neg (by omega), show leK w - 1 = f by omega]
                have hJ : FrJ pageP μ (setI μ1 65 18 (μ1.1 65 18 + nI f)) := (FrJ.ofK hF (fun j => Or.inl rfl)).set (Or.inr ⟨rfl, rfl⟩)
                rw [ef]
                exact ⟨by rw [get_eq, e1], hM.page hJ (by rw [get_eq, e1]) (fun j hj => by rw [get_ne (by omega), hc j hj, hif]), hJ.X pageX⟩
              have hlt2 : i < f := by have := mt (nI_leI (a := f) (b := i) (by omega) (by omega)).mpr h105; omega
              refine V_aload_n (pc := 108) dX8_letters_108 rfl rfl ?_
              refine V_getR (pc := 109) (ci := 8) (j := 19) (k2 := 75) dX8_letters_109 fl_X8_41 (fun _ _ _ _ => rfl) (by decide) rfl (rf_8_19 rfl) ?_
              refine V_aload_n (pc := 112) dX8_letters_112 rfl rfl ?_
              refine V_getI (pc := 113) (ci := 8) (j := 18) dX8_letters_113 fl_X8_85 (fun _ _ _ _ => rfl) (by decide) rfl ?_
              refine V_iload (pc := 116) dX8_letters_116 rfl ?_
              refine V_iadd (pc := 118) dX8_letters_118 ?_
              refine V_lload_n (pc := 119) dX8_letters_119 rfl rfl ?_
              refine V_bipush (pc := 120) (v := 8) dX8_letters_120 (by decide) ?_
              refine V_iload (pc := 122) dX8_letters_122 rfl ?_
              refine V_imul (pc := 124) dX8_letters_124 ?_
              refine V_lshr (pc := 125) dX8_letters_125 ?_
              refine V_l2i (pc := 126) dX8_letters_126 ?_
              refine V_i2b (pc := 127) dX8_letters_127 ?_
              refine V_bast (pc := 128) (j := (aPn a + i)) dX8_letters_128 (by decide) rfl (by rw [hF.1 65 (by decide), m12.1, nI_add]) (by show aPn a + i < 30; omega) ?_
              refine V_iinc5 (pc := 129) (v := nI (i + 1)) dX8_letters_129 (nI_1 i) (by decide) rfl ?_
              refine V_goto (pc := 132) (tgt := 102) dX8_letters_132 (by decide) ?_
              refine ihB (i + 1) _ (by omega) (by omega) hF.set (fun j hj => ?_)
              by_cases e2 : j = aPn a + i
              · rw [e2, get_eq]; unfold pgW; rw [if_pos (by omega), show aPn a + i - aPn a = i by omega]; exact byt_eq w (by omega) (leK_by (by omega) (by omega))
              · rw [get_ne (by omega), hc j hj]; unfold pgW
                by_cases e3 : aPn a ≤ j ∧ j < aPn a + i
                · rw [if_pos e3, if_pos (by omega)]
                · rw [if_neg e3, if_neg (by omega)]
          exact loopB (f + 1) 0 _ (by omega) (by omega) FrK.rf (fun j hj => by rw [m12.2 j hj]; unfold pgW; rw [if_neg (by omega)])
        have h93 := mt (nI_leI (a := aPn a + f) (b := 30) (by omega) (by decide)).mpr h93
        refine V_bipush (pc := 96) (v := (-104)) dX8_letters_96 (by decide) ?_
        refine V_iret (pc := 98) dX8_letters_98 rfl ?_
        rw [show fLetters a w = (-104, a) from by unfold fLetters; rw [if_neg (by omega), if_pos (by omega)]]
        exact ⟨rfl, hM, FrX.rf⟩
      have hlt : k < 8 := nI_l3 (a := 8) (by decide) (by omega) h12
      refine V_lload_n (pc := 15) dX8_letters_15 rfl rfl ?_
      refine V_bipush (pc := 16) (v := 8) dX8_letters_16 (by decide) ?_
      refine V_iload (pc := 18) dX8_letters_18 rfl ?_
      refine V_imul (pc := 20) dX8_letters_20 ?_
      refine V_lshr (pc := 21) dX8_letters_21 ?_
      refine V_ldc2 (pc := 22) (v := 255) ct_X8_83 dX8_letters_22 ?_
      refine V_land (pc := 25) dX8_letters_25 ?_
      refine V_l2i (pc := 26) dX8_letters_26 ?_
      rw [cod_eq w hlt]
      refine V_istore6 (pc := 27) dX8_letters_27 (by decide) rfl ?_
      have hb256 := byN_lt w k
      obtain ⟨hfk, hby⟩ := leT_some hf
      subst hu
      subst he
      refine V_iload (pc := 29) dX8_letters_29 rfl ?_
      refine V_bipush (pc := 31) (v := 126) dX8_letters_31 (by decide) ?_
      refine V_icmpgt (pc := 33) (tgt := 46) dX8_letters_33 (by decide) (fun h33 => ?_) (fun h33 => ?_)
      · have h33 := (nI_ltI (a := 126) (b := byN w k) (by decide) (by omega)).mp h33
        refine V_bipush (pc := 46) (v := (-102)) dX8_letters_46 (by decide) ?_
        refine V_iret (pc := 48) dX8_letters_48 rfl ?_
        have hno : leT w (k + 1) = none := by simp only [leT]; rw [hf]; exact if_pos (by omega)
        rw [show fLetters a w = (-102, a) from if_pos (leK_none (leT_none (k + 1) 8 hno (by omega)))]
        exact ⟨rfl, hM, FrX.rf⟩
      have h33 := mt (nI_ltI (a := 126) (b := byN w k) (by decide) (by omega)).mpr h33
      refine V_iload (pc := 36) dX8_letters_36 rfl ?_
      refine V_ifeq (pc := 38) (tgt := 49) dX8_letters_38 (by decide) (fun h38 => ?_) (fun h38 => ?_)
      · have h38 := of_decide_eq_false (bI_e h38)
        refine V_iload (pc := 49) dX8_letters_49 rfl ?_
        refine V_ifne (pc := 51) (tgt := 59) dX8_letters_51 (by decide) (fun h51 => ?_) (fun h51 => ?_)
        · have h51 := of_decide_eq_true (bI_ne h51)
          refine V_iconst (pc := 59) (v := 1) dX8_letters_59 (by decide) ?_
          refine V_goto (pc := 60) (tgt := 64) dX8_letters_60 (by decide) ?_
          refine V_istore4 (pc := 64) dX8_letters_64 (by decide) rfl ?_
          refine V_iload_n (pc := 66) dX8_letters_66 rfl rfl ?_
          refine V_iload (pc := 67) dX8_letters_67 rfl ?_
          refine V_ifne (pc := 69) (tgt := 76) dX8_letters_69 (by decide) (fun h69 => ?_) (fun h69 => ?_)
          · have h69 := mt (nI_eq (a := byN w k) (b := 0) (by omega) (by decide)).mpr h69
            refine V_iconst (pc := 76) (v := 1) dX8_letters_76 (by decide) ?_
            refine V_iadd (pc := 77) dX8_letters_77 ?_
            refine V_istore3 (pc := 78) dX8_letters_78 (by decide) rfl ?_
            refine V_iinc5 (pc := 79) (v := nI (k + 1)) dX8_letters_79 (nI_1 k) (by decide) rfl ?_
            refine V_goto (pc := 82) (tgt := 8) dX8_letters_82 (by decide) ?_
            first
            | (exfalso; omega)
            | (have e0 : byN w k = 0 := by omega
               refine ihA (k + 1) f _ _ _ (by omega) (by omega) ?_ (nI_add f 0) (by rw [decide_eq_true (by omega : f < k + 1)]; rfl)
               simp only [leT]; rw [hf]; simp only; rw [if_neg (by omega), if_neg (by omega)])
            | (have e0 : f = k := by omega
               refine ihA (k + 1) (f + 1) _ _ _ (by omega) (by omega) ?_ (nI_1 f) (by rw [decide_eq_false (by omega : ¬ f + 1 < k + 1)]; rfl)
               simp only [leT]; rw [hf]; simp only; rw [if_neg (by omega), if_pos (by omega)])
          have h69 := (nI_eq (a := byN w k) (b := 0) (by omega) (by decide)).mp h69
          refine V_iconst (pc := 72) (v := 0) dX8_letters_72 (by decide) ?_
          refine V_goto (pc := 73) (tgt := 77) dX8_letters_73 (by decide) ?_
          refine V_iadd (pc := 77) dX8_letters_77 ?_
          refine V_istore3 (pc := 78) dX8_letters_78 (by decide) rfl ?_
          refine V_iinc5 (pc := 79) (v := nI (k + 1)) dX8_letters_79 (nI_1 k) (by decide) rfl ?_
          refine V_goto (pc := 82) (tgt := 8) dX8_letters_82 (by decide) ?_
          first
          | (exfalso; omega)
          | (have e0 : byN w k = 0 := by omega
             refine ihA (k + 1) f _ _ _ (by omega) (by omega) ?_ (nI_add f 0) (by rw [decide_eq_true (by omega : f < k + 1)]; rfl)
             simp only [leT]; rw [hf]; simp only; rw [if_neg (by omega), if_neg (by omega)])
          | (have e0 : f = k := by omega
             refine ihA (k + 1) (f + 1) _ _ _ (by omega) (by omega) ?_ (nI_1 f) (by rw [decide_eq_false (by omega : ¬ f + 1 < k + 1)]; rfl)
             simp only [leT]; rw [hf]; simp only; rw [if_neg (by omega), if_pos (by omega)])
        have h51 := of_decide_eq_false (bI_e h51)
        refine V_iload (pc := 54) dX8_letters_54 rfl ?_
        refine V_ifne (pc := 56) (tgt := 63) dX8_letters_56 (by decide) (fun h56 => ?_) (fun h56 => ?_)
        · have h56 := mt (nI_eq (a := byN w k) (b := 0) (by omega) (by decide)).mpr h56
          refine V_iconst (pc := 63) (v := 0) dX8_letters_63 (by decide) ?_
          refine V_istore4 (pc := 64) dX8_letters_64 (by decide) rfl ?_
          refine V_iload_n (pc := 66) dX8_letters_66 rfl rfl ?_
          refine V_iload (pc := 67) dX8_letters_67 rfl ?_
          refine V_ifne (pc := 69) (tgt := 76) dX8_letters_69 (by decide) (fun h69 => ?_) (fun h69 => ?_)
          · have h69 := mt (nI_eq (a := byN w k) (b := 0) (by omega) (by decide)).mpr h69
            refine V_iconst (pc := 76) (v := 1) dX8_letters_76 (by decide) ?_
            refine V_iadd (pc := 77) dX8_letters_77 ?_
            refine V_istore3 (pc := 78) dX8_letters_78 (by decide) rfl ?_
            refine V_iinc5 (pc := 79) (v := nI (k + 1)) dX8_letters_79 (nI_1 k) (by decide) rfl ?_
            refine V_goto (pc := 82) (tgt := 8) dX8_letters_82 (by decide) ?_
            first
            | (exfalso; omega)
            | (have e0 : byN w k = 0 := by omega
               refine ihA (k + 1) f _ _ _ (by omega) (by omega) ?_ (nI_add f 0) (by rw [decide_eq_true (by omega : f < k + 1)]; rfl)
               simp only [leT]; rw [hf]; simp only; rw [if_neg (by omega), if_neg (by omega)])
            | (have e0 : f = k := by omega
               refine ihA (k + 1) (f + 1) _ _ _ (by omega) (by omega) ?_ (nI_1 f) (by rw [decide_eq_false (by omega : ¬ f + 1 < k + 1)]; rfl)
               simp only [leT]; rw [hf]; simp only; rw [if_neg (by omega), if_pos (by omega)])
          have h69 := (nI_eq (a := byN w k) (b := 0) (by omega) (by decide)).mp h69
          refine V_iconst (pc := 72) (v := 0) dX8_letters_72 (by decide) ?_
          refine V_goto (pc := 73) (tgt := 77) dX8_letters_73 (by decide) ?_
          refine V_iadd (pc := 77) dX8_letters_77 ?_
          refine V_istore3 (pc := 78) dX8_letters_78 (by decide) rfl ?_
          refine V_iinc5 (pc := 79) (v := nI (k + 1)) dX8_letters_79 (nI_1 k) (by decide) rfl ?_
          refine V_goto (pc := 82) (tgt := 8) dX8_letters_82 (by decide) ?_
          first
          | (exfalso; omega)
          | (have e0 : byN w k = 0 := by omega
             refine ihA (k + 1) f _ _ _ (by omega) (by omega) ?_ (nI_add f 0) (by rw [decide_eq_true (by omega : f < k + 1)]; rfl)
             simp only [leT]; rw [hf]; simp only; rw [if_neg (by omega), if_neg (by omega)])
          | (have e0 : f = k := by omega
             refine ihA (k + 1) (f + 1) _ _ _ (by omega) (by omega) ?_ (nI_1 f) (by rw [decide_eq_false (by omega : ¬ f + 1 < k + 1)]; rfl)
             simp only [leT]; rw [hf]; simp only; rw [if_neg (by omega), if_pos (by omega)])
        have h56 := (nI_eq (a := byN w k) (b := 0) (by omega) (by decide)).mp h56
        refine V_iconst (pc := 59) (v := 1) dX8_letters_59 (by decide) ?_
        refine V_goto (pc := 60) (tgt := 64) dX8_letters_60 (by decide) ?_
        refine V_istore4 (pc := 64) dX8_letters_64 (by decide) rfl ?_
        refine V_iload_n (pc := 66) dX8_letters_66 rfl rfl ?_
        refine V_iload (pc := 67) dX8_letters_67 rfl ?_
        refine V_ifne (pc := 69) (tgt := 76) dX8_letters_69 (by decide) (fun h69 => ?_) (fun h69 => ?_)
        · have h69 := mt (nI_eq (a := byN w k) (b := 0) (by omega) (by decide)).mpr h69
          refine V_iconst (pc := 76) (v := 1) dX8_letters_76 (by decide) ?_
          refine V_iadd (pc := 77) dX8_letters_77 ?_
          refine V_istore3 (pc := 78) dX8_letters_78 (by decide) rfl ?_
          refine V_iinc5 (pc := 79) (v := nI (k + 1)) dX8_letters_79 (nI_1 k) (by decide) rfl ?_
          refine V_goto (pc := 82) (tgt := 8) dX8_letters_82 (by decide) ?_
          first
          | (exfalso; omega)
          | (have e0 : byN w k = 0 := by omega
             refine ihA (k + 1) f _ _ _ (by omega) (by omega) ?_ (nI_add f 0) (by rw [decide_eq_true (by omega : f < k + 1)]; rfl)
             simp only [leT]; rw [hf]; simp only; rw [if_neg (by omega), if_neg (by omega)])
          | (have e0 : f = k := by omega
             refine ihA (k + 1) (f + 1) _ _ _ (by omega) (by omega) ?_ (nI_1 f) (by rw [decide_eq_false (by omega : ¬ f + 1 < k + 1)]; rfl)
             simp only [leT]; rw [hf]; simp only; rw [if_neg (by omega), if_pos (by omega)])
        have h69 := (nI_eq (a := byN w k) (b := 0) (by omega) (by decide)).mp h69
        refine V_iconst (pc := 72) (v := 0) dX8_letters_72 (by decide) ?_
        refine V_goto (pc := 73) (tgt := 77) dX8_letters_73 (by decide) ?_
        refine V_iadd (pc := 77) dX8_letters_77 ?_
        refine V_istore3 (pc := 78) dX8_letters_78 (by decide) rfl ?_
        refine V_iinc5 (pc := 79) (v := nI (k + 1)) dX8_letters_79 (nI_1 k) (by decide) rfl ?_
        refine V_goto (pc := 82) (tgt := 8) dX8_letters_82 (by decide) ?_
        first
        | (exfalso; omega)
        | (have e0 : byN w k = 0 := by omega
           refine ihA (k + 1) f _ _ _ (by omega) (by omega) ?_ (nI_add f 0) (by rw [decide_eq_true (by omega : f < k + 1)]; rfl)
           simp only [leT]; rw [hf]; simp only; rw [if_neg (by omega), if_neg (by omega)])
        | (have e0 : f = k := by omega
           refine ihA (k + 1) (f + 1) _ _ _ (by omega) (by omega) ?_ (nI_1 f) (by rw [decide_eq_false (by omega : ¬ f + 1 < k + 1)]; rfl)
           simp only [leT]; rw [hf]; simp only; rw [if_neg (by omega), if_pos (by omega)])
      have h38 := of_decide_eq_true (bI_ne h38)
      refine V_iload (pc := 41) dX8_letters_41 rfl ?_
      refine V_ifeq (pc := 43) (tgt := 49) dX8_letters_43 (by decide) (fun h43 => ?_) (fun h43 => ?_)
      · have h43 := (nI_eq (a := byN w k) (b := 0) (by omega) (by decide)).mp h43
        refine V_iload (pc := 49) dX8_letters_49 rfl ?_
        refine V_ifne (pc := 51) (tgt := 59) dX8_letters_51 (by decide) (fun h51 => ?_) (fun h51 => ?_)
        · have h51 := of_decide_eq_true (bI_ne h51)
          refine V_iconst (pc := 59) (v := 1) dX8_letters_59 (by decide) ?_
          refine V_goto (pc := 60) (tgt := 64) dX8_letters_60 (by decide) ?_
          refine V_istore4 (pc := 64) dX8_letters_64 (by decide) rfl ?_
          refine V_iload_n (pc := 66) dX8_letters_66 rfl rfl ?_
          refine V_iload (pc := 67) dX8_letters_67 rfl ?_
          refine V_ifne (pc := 69) (tgt := 76) dX8_letters_69 (by decide) (fun h69 => ?_) (fun h69 => ?_)
          · have h69 := mt (nI_eq (a := byN w k) (b := 0) (by omega) (by decide)).mpr h69
            refine V_iconst (pc := 76) (v := 1) dX8_letters_76 (by decide) ?_
            refine V_iadd (pc := 77) dX8_letters_77 ?_
            refine V_istore3 (pc := 78) dX8_letters_78 (by decide) rfl ?_
            refine V_iinc5 (pc := 79) (v := nI (k + 1)) dX8_letters_79 (nI_1 k) (by decide) rfl ?_
            refine V_goto (pc := 82) (tgt := 8) dX8_letters_82 (by decide) ?_
            first
            | (exfalso; omega)
            | (have e0 : byN w k = 0 := by omega
               refine ihA (k + 1) f _ _ _ (by omega) (by omega) ?_ (nI_add f 0) (by rw [decide_eq_true (by omega : f < k + 1)]; rfl)
               simp only [leT]; rw [hf]; simp only; rw [if_neg (by omega), if_neg (by omega)])
            | (have e0 : f = k := by omega
               refine ihA (k + 1) (f + 1) _ _ _ (by omega) (by omega) ?_ (nI_1 f) (by rw [decide_eq_false (by omega : ¬ f + 1 < k + 1)]; rfl)
               simp only [leT]; rw [hf]; simp only; rw [if_neg (by omega), if_pos (by omega)])
          have h69 := (nI_eq (a := byN w k) (b := 0) (by omega) (by decide)).mp h69
          refine V_iconst (pc := 72) (v := 0) dX8_letters_72 (by decide) ?_
          refine V_goto (pc := 73) (tgt := 77) dX8_letters_73 (by decide) ?_
          refine V_iadd (pc := 77) dX8_letters_77 ?_
          refine V_istore3 (pc := 78) dX8_letters_78 (by decide) rfl ?_
          refine V_iinc5 (pc := 79) (v := nI (k + 1)) dX8_letters_79 (nI_1 k) (by decide) rfl ?_
          refine V_goto (pc := 82) (tgt := 8) dX8_letters_82 (by decide) ?_
          first
          | (exfalso; omega)
          | (have e0 : byN w k = 0 := by omega
             refine ihA (k + 1) f _ _ _ (by omega) (by omega) ?_ (nI_add f 0) (by rw [decide_eq_true (by omega : f < k + 1)]; rfl)
             simp only [leT]; rw [hf]; simp only; rw [if_neg (by omega), if_neg (by omega)])
          | (have e0 : f = k := by omega
             refine ihA (k + 1) (f + 1) _ _ _ (by omega) (by omega) ?_ (nI_1 f) (by rw [decide_eq_false (by omega : ¬ f + 1 < k + 1)]; rfl)
             simp only [leT]; rw [hf]; simp only; rw [if_neg (by omega), if_pos (by omega)])
        have h51 := of_decide_eq_false (bI_e h51)
        refine V_iload (pc := 54) dX8_letters_54 rfl ?_
        refine V_ifne (pc := 56) (tgt := 63) dX8_letters_56 (by decide) (fun h56 => ?_) (fun h56 => ?_)
        · have h56 := mt (nI_eq (a := byN w k) (b := 0) (by omega) (by decide)).mpr h56
          refine V_iconst (pc := 63) (v := 0) dX8_letters_63 (by decide) ?_
          refine V_istore4 (pc := 64) dX8_letters_64 (by decide) rfl ?_
          refine V_iload_n (pc := 66) dX8_letters_66 rfl rfl ?_
          refine V_iload (pc := 67) dX8_letters_67 rfl ?_
          refine V_ifne (pc := 69) (tgt := 76) dX8_letters_69 (by decide) (fun h69 => ?_) (fun h69 => ?_)
          · have h69 := mt (nI_eq (a := byN w k) (b := 0) (by omega) (by decide)).mpr h69
            refine V_iconst (pc := 76) (v := 1) dX8_letters_76 (by decide) ?_
            refine V_iadd (pc := 77) dX8_letters_77 ?_
            refine V_istore3 (pc := 78) dX8_letters_78 (by decide) rfl ?_
            refine V_iinc5 (pc := 79) (v := nI (k + 1)) dX8_letters_79 (nI_1 k) (by decide) rfl ?_
            refine V_goto (pc := 82) (tgt := 8) dX8_letters_82 (by decide) ?_
            first
            | (exfalso; omega)
            | (have e0 : byN w k = 0 := by omega
               refine ihA (k + 1) f _ _ _ (by omega) (by omega) ?_ (nI_add f 0) (by rw [decide_eq_true (by omega : f < k + 1)]; rfl)
               simp only [leT]; rw [hf]; simp only; rw [if_neg (by omega), if_neg (by omega)])
            | (have e0 : f = k := by omega
               refine ihA (k + 1) (f + 1) _ _ _ (by omega) (by omega) ?_ (nI_1 f) (by rw [decide_eq_false (by omega : ¬ f + 1 < k + 1)]; rfl)
               simp only [leT]; rw [hf]; simp only; rw [if_neg (by omega), if_pos (by omega)])
          have h69 := (nI_eq (a := byN w k) (b := 0) (by omega) (by decide)).mp h69
          refine V_iconst (pc := 72) (v := 0) dX8_letters_72 (by decide) ?_
          refine V_goto (pc := 73) (tgt := 77) dX8_letters_73 (by decide) ?_
          refine V_iadd (pc := 77) dX8_letters_77 ?_
          refine V_istore3 (pc := 78) dX8_letters_78 (by decide) rfl ?_
          refine V_iinc5 (pc := 79) (v := nI (k + 1)) dX8_letters_79 (nI_1 k) (by decide) rfl ?_
          refine V_goto (pc := 82) (tgt := 8) dX8_letters_82 (by decide) ?_
          first
          | (exfalso; omega)
          | (have e0 : byN w k = 0 := by omega
             refine ihA (k + 1) f _ _ _ (by omega) (by omega) ?_ (nI_add f 0) (by rw [decide_eq_true (by omega : f < k + 1)]; rfl)
             simp only [leT]; rw [hf]; simp only; rw [if_neg (by omega), if_neg (by omega)])
          | (have e0 : f = k := by omega
             refine ihA (k + 1) (f + 1) _ _ _ (by omega) (by omega) ?_ (nI_1 f) (by rw [decide_eq_false (by omega : ¬ f + 1 < k + 1)]; rfl)
             simp only [leT]; rw [hf]; simp only; rw [if_neg (by omega), if_pos (by omega)])
        have h56 := (nI_eq (a := byN w k) (b := 0) (by omega) (by decide)).mp h56
        refine V_iconst (pc := 59) (v := 1) dX8_letters_59 (by decide) ?_
        refine V_goto (pc := 60) (tgt := 64) dX8_letters_60 (by decide) ?_
        refine V_istore4 (pc := 64) dX8_letters_64 (by decide) rfl ?_
        refine V_iload_n (pc := 66) dX8_letters_66 rfl rfl ?_
        refine V_iload (pc := 67) dX8_letters_67 rfl ?_
        refine V_ifne (pc := 69) (tgt := 76) dX8_letters_69 (by decide) (fun h69 => ?_) (fun h69 => ?_)
        · have h69 := mt (nI_eq (a := byN w k) (b := 0) (by omega) (by decide)).mpr h69
          refine V_iconst (pc := 76) (v := 1) dX8_letters_76 (by decide) ?_
          refine V_iadd (pc := 77) dX8_letters_77 ?_
          refine V_istore3 (pc := 78) dX8_letters_78 (by decide) rfl ?_
          refine V_iinc5 (pc := 79) (v := nI (k + 1)) dX8_letters_79 (nI_1 k) (by decide) rfl ?_
          refine V_goto (pc := 82) (tgt := 8) dX8_letters_82 (by decide) ?_
          first
          | (exfalso; omega)
          | (have e0 : byN w k = 0 := by omega
             refine ihA (k + 1) f _ _ _ (by omega) (by omega) ?_ (nI_add f 0) (by rw [decide_eq_true (by omega : f < k + 1)]; rfl)
             simp only [leT]; rw [hf]; simp only; rw [if_neg (by omega), if_neg (by omega)])
          | (have e0 : f = k := by omega
             refine ihA (k + 1) (f + 1) _ _ _ (by omega) (by omega) ?_ (nI_1 f) (by rw [decide_eq_false (by omega : ¬ f + 1 < k + 1)]; rfl)
             simp only [leT]; rw [hf]; simp only; rw [if_neg (by omega), if_pos (by omega)])
        have h69 := (nI_eq (a := byN w k) (b := 0) (by omega) (by decide)).mp h69
        refine V_iconst (pc := 72) (v := 0) dX8_letters_72 (by decide) ?_
        refine V_goto (pc := 73) (tgt := 77) dX8_letters_73 (by decide) ?_
        refine V_iadd (pc := 77) dX8_letters_77 ?_
        refine V_istore3 (pc := 78) dX8_letters_78 (by decide) rfl ?_
        refine V_iinc5 (pc := 79) (v := nI (k + 1)) dX8_letters_79 (nI_1 k) (by decide) rfl ?_
        refine V_goto (pc := 82) (tgt := 8) dX8_letters_82 (by decide) ?_
        first
        | (exfalso; omega)
        | (have e0 : byN w k = 0 := by omega
           refine ihA (k + 1) f _ _ _ (by omega) (by omega) ?_ (nI_add f 0) (by rw [decide_eq_true (by omega : f < k + 1)]; rfl)
           simp only [leT]; rw [hf]; simp only; rw [if_neg (by omega), if_neg (by omega)])
        | (have e0 : f = k := by omega
           refine ihA (k + 1) (f + 1) _ _ _ (by omega) (by omega) ?_ (nI_1 f) (by rw [decide_eq_false (by omega : ¬ f + 1 < k + 1)]; rfl)
           simp only [leT]; rw [hf]; simp only; rw [if_neg (by omega), if_pos (by omega)])
      have h43 := mt (nI_eq (a := byN w k) (b := 0) (by omega) (by decide)).mpr h43
      refine V_bipush (pc := 46) (v := (-102)) dX8_letters_46 (by decide) ?_
      refine V_iret (pc := 48) dX8_letters_48 rfl ?_
      have hno : leT w (k + 1) = none := by simp only [leT]; rw [hf]; exact if_pos (by omega)
      rw [show fLetters a w = (-102, a) from if_pos (leK_none (leT_none (k + 1) 8 hno (by omega)))]
      exact ⟨rfl, hM, FrX.rf⟩
  exact loopA (8 + 1) 0 0 _ _ _ (by omega) (by omega) rfl rfl rfl
theorem dX8_blank_0 : decode cX8_blank 0 = .ok (.aload_n 0, 1) := by decide +kernel
theorem dX8_blank_1 : decode cX8_blank 1 = .ok (.getfield 85, 3) := by decide +kernel
theorem dX8_blank_4 : decode cX8_blank 4 = .ok (.istore_n 1, 1) := by decide +kernel
theorem dX8_blank_5 : decode cX8_blank 5 = .ok (.aload_n 0, 1) := by decide +kernel
theorem dX8_blank_6 : decode cX8_blank 6 = .ok (.iconst 0, 1) := by decide +kernel
theorem dX8_blank_7 : decode cX8_blank 7 = .ok (.putfield 85, 3) := by decide +kernel
theorem dX8_blank_10 : decode cX8_blank 10 = .ok (.iload_n 1, 1) := by decide +kernel
theorem dX8_blank_11 : decode cX8_blank 11 = .ok (.ireturn, 1) := by decide +kernel
set_option maxHeartbeats 4000000 in
set_option maxRecDepth 100000 in
theorem c_X8_blank {l : Launch} {g : GW} {a : AT}  (μ : Mm) (hO : AOK a) (hM : RM μ a)  : Con l g yX8_blank cX8_blank 2 (some .int) 0 [.ref 65] μ (fun r μ' => r = some (.int (nI (aPn a))) ∧ RM μ' (setP a 0 (aPc a)) ∧ FrX μ μ') := by
  obtain ⟨m1, m2, m3, m4, m5, m6, m7, m8, m9, m10, m11, m12, m13⟩ := id hM
  obtain ⟨o1, o2, o3, o4, o5, ⟨s1, s2, s3, s4⟩, oK, o8, o9, o10⟩ := id hO
  refine Con.of [.ref 65, .null] 1 (by decide +kernel) (Nat.le_of_ble_eq_true rfl) rfl ?_
  refine V_aload_n (pc := 0) dX8_blank_0 rfl rfl ?_
  refine V_getI (pc := 1) (ci := 8) (j := 18) dX8_blank_1 fl_X8_85 (fun _ _ _ _ => rfl) (by decide) rfl ?_
  refine V_istore1 (pc := 4) dX8_blank_4 (by decide) rfl ?_
  refine V_aload_n (pc := 5) dX8_blank_5 rfl rfl ?_
  refine V_iconst (pc := 6) (v := 0) dX8_blank_6 (by decide) ?_
  refine V_putI (pc := 7) (ci := 8) (j := 18) dX8_blank_7 fl_X8_85 (fun _ _ _ _ _ => rfl) rfl rfl (by decide) rfl ?_
  refine V_iload_n (pc := 10) dX8_blank_10 rfl rfl ?_
  refine V_iret (pc := 11) dX8_blank_11 rfl ?_
  have hJ : FrJ pageP μ (setI μ 65 18 0) := FrJ.rf.set (Or.inr ⟨rfl, rfl⟩)
  exact ⟨by rw [m12.1], hM.page hJ (by rw [get_eq]; rfl) (fun j hj => by rw [get_ne (by omega)]; exact m12.2 j hj), hJ.X pageX⟩
theorem dX8_ship_0 : decode cX8_ship 0 = .ok (.iload_n 2, 1) := by decide +kernel
theorem dX8_ship_1 : decode cX8_ship 1 = .ok (.invokestatic 147, 3) := by decide +kernel
theorem dX8_ship_4 : decode cX8_ship 4 = .ok (.ifCond .ne 6, 3) := by decide +kernel
theorem dX8_ship_7 : decode cX8_ship 7 = .ok (.bipush (-101), 2) := by decide +kernel
theorem dX8_ship_9 : decode cX8_ship 9 = .ok (.ireturn, 1) := by decide +kernel
theorem dX8_ship_10 : decode cX8_ship 10 = .ok (.iload_n 1, 1) := by decide +kernel
theorem dX8_ship_11 : decode cX8_ship 11 = .ok (.iconst 0, 1) := by decide +kernel
theorem dX8_ship_12 : decode cX8_ship 12 = .ok (.iconst 4, 1) := by decide +kernel
theorem dX8_ship_13 : decode cX8_ship 13 = .ok (.invokestatic 88, 3) := by decide +kernel
theorem dX8_ship_16 : decode cX8_ship 16 = .ok (.ifCond .ne 6, 3) := by decide +kernel
theorem dX8_ship_19 : decode cX8_ship 19 = .ok (.bipush (-102), 2) := by decide +kernel
theorem dX8_ship_21 : decode cX8_ship 21 = .ok (.ireturn, 1) := by decide +kernel
theorem dX8_ship_22 : decode cX8_ship 22 = .ok (.aload_n 0, 1) := by decide +kernel
theorem dX8_ship_23 : decode cX8_ship 23 = .ok (.getfield 123, 3) := by decide +kernel
theorem dX8_ship_26 : decode cX8_ship 26 = .ok (.ifCond .ne 6, 3) := by decide +kernel
theorem dX8_ship_29 : decode cX8_ship 29 = .ok (.bipush (-103), 2) := by decide +kernel
theorem dX8_ship_31 : decode cX8_ship 31 = .ok (.ireturn, 1) := by decide +kernel
theorem dX8_ship_32 : decode cX8_ship 32 = .ok (.aload_n 0, 1) := by decide +kernel
theorem dX8_ship_33 : decode cX8_ship 33 = .ok (.getfield 129, 3) := by decide +kernel
theorem dX8_ship_36 : decode cX8_ship 36 = .ok (.bipush 6, 2) := by decide +kernel
theorem dX8_ship_38 : decode cX8_ship 38 = .ok (.if_icmp .ne 6, 3) := by decide +kernel
theorem dX8_ship_41 : decode cX8_ship 41 = .ok (.bipush (-104), 2) := by decide +kernel
theorem dX8_ship_43 : decode cX8_ship 43 = .ok (.ireturn, 1) := by decide +kernel
theorem dX8_ship_44 : decode cX8_ship 44 = .ok (.aload_n 0, 1) := by decide +kernel
theorem dX8_ship_45 : decode cX8_ship 45 = .ok (.getfield 16, 3) := by decide +kernel
theorem dX8_ship_48 : decode cX8_ship 48 = .ok (.aload_n 0, 1) := by decide +kernel
theorem dX8_ship_49 : decode cX8_ship 49 = .ok (.getfield 129, 3) := by decide +kernel
theorem dX8_ship_52 : decode cX8_ship 52 = .ok (.iload_n 1, 1) := by decide +kernel
theorem dX8_ship_53 : decode cX8_ship 53 = .ok (.iastore, 1) := by decide +kernel
theorem dX8_ship_54 : decode cX8_ship 54 = .ok (.aload_n 0, 1) := by decide +kernel
theorem dX8_ship_55 : decode cX8_ship 55 = .ok (.getfield 19, 3) := by decide +kernel
theorem dX8_ship_58 : decode cX8_ship 58 = .ok (.aload_n 0, 1) := by decide +kernel
theorem dX8_ship_59 : decode cX8_ship 59 = .ok (.getfield 129, 3) := by decide +kernel
theorem dX8_ship_62 : decode cX8_ship 62 = .ok (.iload_n 2, 1) := by decide +kernel
theorem dX8_ship_63 : decode cX8_ship 63 = .ok (.iastore, 1) := by decide +kernel
theorem dX8_ship_64 : decode cX8_ship 64 = .ok (.aload_n 0, 1) := by decide +kernel
theorem dX8_ship_65 : decode cX8_ship 65 = .ok (.getfield 22, 3) := by decide +kernel
theorem dX8_ship_68 : decode cX8_ship 68 = .ok (.aload_n 0, 1) := by decide +kernel
theorem dX8_ship_69 : decode cX8_ship 69 = .ok (.getfield 129, 3) := by decide +kernel
theorem dX8_ship_72 : decode cX8_ship 72 = .ok (.iconst (-1), 1) := by decide +kernel
theorem dX8_ship_73 : decode cX8_ship 73 = .ok (.iastore, 1) := by decide +kernel
theorem dX8_ship_74 : decode cX8_ship 74 = .ok (.aload_n 0, 1) := by decide +kernel
theorem dX8_ship_75 : decode cX8_ship 75 = .ok (.getfield 25, 3) := by decide +kernel
theorem dX8_ship_78 : decode cX8_ship 78 = .ok (.aload_n 0, 1) := by decide +kernel
theorem dX8_ship_79 : decode cX8_ship 79 = .ok (.getfield 129, 3) := by decide +kernel
theorem dX8_ship_82 : decode cX8_ship 82 = .ok (.iconst 0, 1) := by decide +kernel
theorem dX8_ship_83 : decode cX8_ship 83 = .ok (.iastore, 1) := by decide +kernel
theorem dX8_ship_84 : decode cX8_ship 84 = .ok (.aload_n 0, 1) := by decide +kernel
theorem dX8_ship_85 : decode cX8_ship 85 = .ok (.getfield 28, 3) := by decide +kernel
theorem dX8_ship_88 : decode cX8_ship 88 = .ok (.aload_n 0, 1) := by decide +kernel
theorem dX8_ship_89 : decode cX8_ship 89 = .ok (.getfield 129, 3) := by decide +kernel
theorem dX8_ship_92 : decode cX8_ship 92 = .ok (.iconst 0, 1) := by decide +kernel
theorem dX8_ship_93 : decode cX8_ship 93 = .ok (.iastore, 1) := by decide +kernel
theorem dX8_ship_94 : decode cX8_ship 94 = .ok (.aload_n 0, 1) := by decide +kernel
theorem dX8_ship_95 : decode cX8_ship 95 = .ok (.dup, 1) := by decide +kernel
theorem dX8_ship_96 : decode cX8_ship 96 = .ok (.getfield 129, 3) := by decide +kernel
theorem dX8_ship_99 : decode cX8_ship 99 = .ok (.iconst 1, 1) := by decide +kernel
theorem dX8_ship_100 : decode cX8_ship 100 = .ok (.iadd, 1) := by decide +kernel
theorem dX8_ship_101 : decode cX8_ship 101 = .ok (.putfield 129, 3) := by decide +kernel
theorem dX8_ship_104 : decode cX8_ship 104 = .ok (.aload_n 0, 1) := by decide +kernel
theorem dX8_ship_105 : decode cX8_ship 105 = .ok (.getfield 129, 3) := by decide +kernel
theorem dX8_ship_108 : decode cX8_ship 108 = .ok (.iconst 1, 1) := by decide +kernel
theorem dX8_ship_109 : decode cX8_ship 109 = .ok (.isub, 1) := by decide +kernel
theorem dX8_ship_110 : decode cX8_ship 110 = .ok (.ireturn, 1) := by decide +kernel
set_option maxHeartbeats 4000000 in
set_option maxRecDepth 100000 in
theorem c_X8_ship {l : Launch} {g : GW} {a : AT} {x y : Int32} (μ : Mm) (hO : AOK a) (hM : RM μ a)  : Con l g yX8_ship cX8_ship 3 (some .int) 2 [.ref 65, .int x, .int y] μ (fun r μ' => r = some (.int (fShip a x y).1) ∧ RM μ' (fShip a x y).2 ∧ FrX μ μ') := by
  obtain ⟨m1, m2, m3, m4, m5, m6, m7, m8, m9, m10, m11, m12, m13⟩ := id hM
  obtain ⟨o1, o2, o3, o4, o5, ⟨s1, s2, s3, s4⟩, oK, o8, o9, o10⟩ := id hO
  refine Con.of [.ref 65, .int x, .int y] 0 (by decide +kernel) (Nat.le_of_ble_eq_true rfl) rfl ?_
  refine V_iload_n (pc := 0) dX8_ship_0 rfl rfl ?_
  refine V_ins1 (pc := 1) dX8_ship_1 ml_X8_147 (by first | decide | omega) (Nat.le_of_ble_eq_true rfl) (c_X8_isPlace μ) ?_
  rintro _ μ2 ⟨rfl, hμ⟩
  obtain rfl := hμ.symm
  refine V_ifne (pc := 4) (tgt := 10) dX8_ship_4 (by decide) (fun h4 => ?_) (fun h4 => ?_)
  · have h4 := bI_ne h4
    refine V_iload_n (pc := 10) dX8_ship_10 rfl rfl ?_
    refine V_iconst (pc := 11) (v := 0) dX8_ship_11 (by decide) ?_
    refine V_iconst (pc := 12) (v := 4) dX8_ship_12 (by decide) ?_
    refine V_ins3 (pc := 13) dX8_ship_13 ml_X8_88 (by first | decide | omega) (Nat.le_of_ble_eq_true rfl) (c_X8_within μ) ?_
    rintro _ μ2 ⟨rfl, hμ⟩
    obtain rfl := hμ.symm
    rw [inW_N (n := 5) (by decide)]
    refine V_ifne (pc := 16) (tgt := 22) dX8_ship_16 (by decide) (fun h16 => ?_) (fun h16 => ?_)
    · have h16 := bI_ne h16
      refine V_aload_n (pc := 22) dX8_ship_22 rfl rfl ?_
      refine V_getI (pc := 23) (ci := 8) (j := 0) dX8_ship_23 fl_X8_123 (fun _ _ _ _ => rfl) (by decide) rfl ?_
      rw [m1]
      refine V_ifne (pc := 26) (tgt := 32) dX8_ship_26 (by decide) (fun h26 => ?_) (fun h26 => ?_)
      · have h26 := of_decide_eq_true (bI_ne h26)
        refine V_aload_n (pc := 32) dX8_ship_32 rfl rfl ?_
        refine V_getI (pc := 33) (ci := 8) (j := 5) dX8_ship_33 fl_X8_129 (fun _ _ _ _ => rfl) (by decide) rfl ?_
        refine V_bipush (pc := 36) (v := 6) dX8_ship_36 (by decide) ?_
        rw [m5]
        refine V_icmpne (pc := 38) (tgt := 44) dX8_ship_38 (by decide) (fun h38 => ?_) (fun h38 => ?_)
        · have h38 := mt (nI_eq (a := sN (aS a)) (b := 6) (by omega) (by omega)).mpr h38
          obtain ⟨j, hj, rfl⟩ := inN_of (by decide) h4
          obtain ⟨q, hq, rfl⟩ := inN_of (by decide) h16
          refine V_aload_n (pc := 44) dX8_ship_44 rfl rfl ?_
          refine V_getR (pc := 45) (ci := 8) (j := 6) (k2 := 68) dX8_ship_45 fl_X8_16 (fun _ _ _ _ => rfl) (by decide) rfl (rf_8_6 rfl) ?_
          refine V_aload_n (pc := 48) dX8_ship_48 rfl rfl ?_
          refine V_getI (pc := 49) (ci := 8) (j := 5) dX8_ship_49 fl_X8_129 (fun _ _ _ _ => rfl) (by decide) rfl ?_
          refine V_iload_n (pc := 52) dX8_ship_52 rfl rfl ?_
          refine V_iast (pc := 53) (j := (sN (aS a))) dX8_ship_53 (by decide) rfl (by simp [get_set, m5]) (by show sN (aS a) < 6; omega) ?_
          refine V_aload_n (pc := 54) dX8_ship_54 rfl rfl ?_
          refine V_getR (pc := 55) (ci := 8) (j := 7) (k2 := 69) dX8_ship_55 fl_X8_19 (fun _ _ _ _ => rfl) (by decide) rfl (rf_8_7 rfl) ?_
          refine V_aload_n (pc := 58) dX8_ship_58 rfl rfl ?_
          refine V_getI (pc := 59) (ci := 8) (j := 5) dX8_ship_59 fl_X8_129 (fun _ _ _ _ => rfl) (by decide) rfl ?_
          refine V_iload_n (pc := 62) dX8_ship_62 rfl rfl ?_
          refine V_iast (pc := 63) (j := (sN (aS a))) dX8_ship_63 (by decide) rfl (by simp [get_set, m5]) (by show sN (aS a) < 6; omega) ?_
          refine V_aload_n (pc := 64) dX8_ship_64 rfl rfl ?_
          refine V_getR (pc := 65) (ci := 8) (j := 8) (k2 := 70) dX8_ship_65 fl_X8_22 (fun _ _ _ _ => rfl) (by decide) rfl (rf_8_8 rfl) ?_
          refine V_aload_n (pc := 68) dX8_ship_68 rfl rfl ?_
          refine V_getI (pc := 69) (ci := 8) (j := 5) dX8_ship_69 fl_X8_129 (fun _ _ _ _ => rfl) (by decide) rfl ?_
          refine V_iconst (pc := 72) (v := (-1)) dX8_ship_72 (by decide) ?_
          refine V_iast (pc := 73) (j := (sN (aS a))) dX8_ship_73 (by decide) rfl (by simp [get_set, m5]) (by show sN (aS a) < 6; omega) ?_
          refine V_aload_n (pc := 74) dX8_ship_74 rfl rfl ?_
          refine V_getR (pc := 75) (ci := 8) (j := 9) (k2 := 71) dX8_ship_75 fl_X8_25 (fun _ _ _ _ => rfl) (by decide) rfl (rf_8_9 rfl) ?_
          refine V_aload_n (pc := 78) dX8_ship_78 rfl rfl ?_
          refine V_getI (pc := 79) (ci := 8) (j := 5) dX8_ship_79 fl_X8_129 (fun _ _ _ _ => rfl) (by decide) rfl ?_
          refine V_iconst (pc := 82) (v := 0) dX8_ship_82 (by decide) ?_
          refine V_iast (pc := 83) (j := (sN (aS a))) dX8_ship_83 (by decide) rfl (by simp [get_set, m5]) (by show sN (aS a) < 6; omega) ?_
          refine V_aload_n (pc := 84) dX8_ship_84 rfl rfl ?_
          refine V_getR (pc := 85) (ci := 8) (j := 10) (k2 := 72) dX8_ship_85 fl_X8_28 (fun _ _ _ _ => rfl) (by decide) rfl (rf_8_10 rfl) ?_
          refine V_aload_n (pc := 88) dX8_ship_88 rfl rfl ?_
          refine V_getI (pc := 89) (ci := 8) (j := 5) dX8_ship_89 fl_X8_129 (fun _ _ _ _ => rfl) (by decide) rfl ?_
          refine V_iconst (pc := 92) (v := 0) dX8_ship_92 (by decide) ?_
          refine V_iast (pc := 93) (j := (sN (aS a))) dX8_ship_93 (by decide) rfl (by simp [get_set, m5]) (by show sN (aS a) < 6; omega) ?_
          refine V_aload_n (pc := 94) dX8_ship_94 rfl rfl ?_
          refine V_dup (pc := 95) dX8_ship_95 rfl ?_
          refine V_getI (pc := 96) (ci := 8) (j := 5) dX8_ship_96 fl_X8_129 (fun _ _ _ _ => rfl) (by decide) rfl ?_
          refine V_iconst (pc := 99) (v := 1) dX8_ship_99 (by decide) ?_
          refine V_iadd (pc := 100) dX8_ship_100 ?_
          refine V_putI (pc := 101) (ci := 8) (j := 5) dX8_ship_101 fl_X8_129 (fun _ _ _ _ _ => rfl) rfl rfl (by decide) rfl ?_
          refine V_aload_n (pc := 104) dX8_ship_104 rfl rfl ?_
          refine V_getI (pc := 105) (ci := 8) (j := 5) dX8_ship_105 fl_X8_129 (fun _ _ _ _ => rfl) (by decide) rfl ?_
          refine V_iconst (pc := 108) (v := 1) dX8_ship_108 (by decide) ?_
          refine V_isub (pc := 109) dX8_ship_109 ?_
          refine V_iret (pc := 110) dX8_ship_110 rfl ?_
          have ef : fShip a (nI q) (nI j) = (nI (sN (aS a)), setA a (wN (wShip (aS a) (sN (aS a)) q j 0 0 0) (sN (aS a) + 1))) := by unfold fShip; rw [h4, h16, if_pos rfl, if_pos rfl, if_pos h26, if_neg h38, nn_nI (by omega), nn_nI (by omega)]
          rw [ef]
          generalize hμ2 : setI _ 65 5 _ = μ2
          have g : ∀ k t, μ2.1 k t = if k = 65 ∧ t = 5 then nI (sN (aS a) + 1) else if k = 72 ∧ t = sN (aS a) then 0 else if k = 71 ∧ t = sN (aS a) then 0 else if k = 70 ∧ t = sN (aS a) then -1 else if k = 69 ∧ t = sN (aS a) then nI j else if k = 68 ∧ t = sN (aS a) then nI q else μ.1 k t := fun k t => by
            rw [← hμ2]
            simp only [get_set]
            simp [m5, nI_1]
          have hJ : FrS μ μ2 := ⟨fun k t hn => by
            rw [g]
            unfold seaP at hn
            rw [if_neg (by omega), if_neg (by omega), if_neg (by omega), if_neg (by omega), if_neg (by omega), if_neg (by omega)], by rw [← hμ2]; rfl⟩
          refine ⟨by rw [g]; simp [cI_n1, cI_s], RM.sea hM hJ (by rw [g]; rfl) (fun i hi => ?_) (by rw [g]; exact m7) (by rw [g]; exact m8) (by rw [g]; exact m9) (m10.kept (by funext t; rw [g]; simp)) (by show _ ≤ _ + 1; omega) (fun i hi => up1_ne (by omega)), hJ.X⟩
          have hi2 : i < sN (aS a) + 1 := hi
          unfold ShM
          rw [g, g, g, g, g]
          show _ = nI (up1 _ _ _ _) ∧ _ = nI (up1 _ _ _ _) ∧ _ = cI (up1 _ _ _ _) ∧ _ = up1 _ _ _ _ ∧ _ = up1 _ _ _ _
          by_cases e : i = sN (aS a)
          · subst e
            rw [up1_eq, up1_eq, up1_eq, up1_eq, up1_eq]
            simp
            rfl
          · rw [up1_ne e, up1_ne e, up1_ne e, up1_ne e, up1_ne e]
            simp [e]
            exact m6 i (by omega)
        have h38 := (nI_eq (a := sN (aS a)) (b := 6) (by omega) (by omega)).mp h38
        refine V_bipush (pc := 41) (v := (-104)) dX8_ship_41 (by decide) ?_
        refine V_iret (pc := 43) dX8_ship_43 rfl ?_
        rw [show fShip a x y = (-104, a) from by unfold fShip; rw [h4, h16, if_pos rfl, if_pos rfl, if_pos h26, if_pos h38]]
        exact ⟨rfl, hM, FrX.rf⟩
      have h26 := of_decide_eq_false (bI_e h26)
      refine V_bipush (pc := 29) (v := (-103)) dX8_ship_29 (by decide) ?_
      refine V_iret (pc := 31) dX8_ship_31 rfl ?_
      rw [show fShip a x y = (-103, a) from by unfold fShip; rw [h4, h16, if_pos rfl, if_pos rfl, if_neg h26]]
      exact ⟨rfl, hM, FrX.rf⟩
    have h16 := bI_e h16
    refine V_bipush (pc := 19) (v := (-102)) dX8_ship_19 (by decide) ?_
    refine V_iret (pc := 21) dX8_ship_21 rfl ?_
    rw [show fShip a x y = (-102, a) from by unfold fShip; rw [h4, h16]; rfl]
    exact ⟨rfl, hM, FrX.rf⟩
  have h4 := bI_e h4
  refine V_bipush (pc := 7) (v := (-101)) dX8_ship_7 (by decide) ?_
  refine V_iret (pc := 9) dX8_ship_9 rfl ?_
  rw [show fShip a x y = (-101, a) from by unfold fShip; rw [h4]; rfl]
  exact ⟨rfl, hM, FrX.rf⟩
theorem dX8_moon_0 : decode cX8_moon 0 = .ok (.aload_n 0, 1) := by decide +kernel
theorem dX8_moon_1 : decode cX8_moon 1 = .ok (.getfield 132, 3) := by decide +kernel
theorem dX8_moon_4 : decode cX8_moon 4 = .ok (.invokestatic 174, 3) := by decide +kernel
theorem dX8_moon_7 : decode cX8_moon 7 = .ok (.istore_n 1, 1) := by decide +kernel
theorem dX8_moon_8 : decode cX8_moon 8 = .ok (.aload_n 0, 1) := by decide +kernel
theorem dX8_moon_9 : decode cX8_moon 9 = .ok (.iconst 0, 1) := by decide +kernel
theorem dX8_moon_10 : decode cX8_moon 10 = .ok (.putfield 132, 3) := by decide +kernel
theorem dX8_moon_13 : decode cX8_moon 13 = .ok (.iload_n 1, 1) := by decide +kernel
theorem dX8_moon_14 : decode cX8_moon 14 = .ok (.ireturn, 1) := by decide +kernel
set_option maxHeartbeats 4000000 in
set_option maxRecDepth 100000 in
theorem c_X8_moon {l : Launch} {g : GW} {a : AT}  (μ : Mm) (hO : AOK a) (hM : RM μ a)  : Con l g yX8_moon cX8_moon 2 (some .int) 1 [.ref 65] μ (fun r μ' => r = some (.int (fMoon a).1) ∧ RM μ' (fMoon a).2 ∧ FrX μ μ') := by
  obtain ⟨m1, m2, m3, m4, m5, m6, m7, m8, m9, m10, m11, m12, m13⟩ := id hM
  obtain ⟨o1, o2, o3, o4, o5, ⟨s1, s2, s3, s4⟩, oK, o8, o9, o10⟩ := id hO
  refine Con.of [.ref 65, .null] 1 (by decide +kernel) (Nat.le_of_ble_eq_true rfl) rfl ?_
  refine V_aload_n (pc := 0) dX8_moon_0 rfl rfl ?_
  refine V_getI (pc := 1) (ci := 8) (j := 11) dX8_moon_1 fl_X8_132 (fun _ _ _ _ => rfl) (by decide) rfl ?_
  rw [m7]
  refine V_ins1 (pc := 4) dX8_moon_4 ml_X8_174 (by first | decide | omega) (Nat.le_of_ble_eq_true rfl) (c_X8_size μ s2) ?_
  rintro _ μ2 ⟨rfl, hμ⟩
  obtain rfl := hμ.symm
  refine V_istore1 (pc := 7) dX8_moon_7 (by decide) rfl ?_
  refine V_aload_n (pc := 8) dX8_moon_8 rfl rfl ?_
  refine V_iconst (pc := 9) (v := 0) dX8_moon_9 (by decide) ?_
  refine V_putI (pc := 10) (ci := 8) (j := 11) dX8_moon_10 fl_X8_132 (fun _ _ _ _ _ => rfl) rfl rfl (by decide) rfl ?_
  refine V_iload_n (pc := 13) dX8_moon_13 rfl rfl ?_
  refine V_iret (pc := 14) dX8_moon_14 rfl ?_
  have hJ : FrS μ (setI μ 65 11 0) := FrS.rf.set (Or.inr ⟨rfl, by omega⟩)
  have g : ∀ j, j ≠ 11 → (setI μ 65 11 0).1 65 j = μ.1 65 j := fun j hj => get_ne (fun q => hj q.2)
  exact ⟨rfl, RM.sea hM hJ (by rw [g 5 (by decide)]; exact m5) (fun i hi => m6 i hi) (by rw [get_eq]; rfl) (by rw [g 12 (by decide)]; exact m8) (by rw [g 13 (by decide)]; exact m9) (m10.kept rfl) (Nat.le_refl _) (fun i hi => rfl), hJ.X⟩
theorem dX8_wake_0 : decode cX8_wake 0 = .ok (.aload_n 0, 1) := by decide +kernel
theorem dX8_wake_1 : decode cX8_wake 1 = .ok (.iload_n 1, 1) := by decide +kernel
theorem dX8_wake_2 : decode cX8_wake 2 = .ok (.invokevirtual 150, 3) := by decide +kernel
theorem dX8_wake_5 : decode cX8_wake 5 = .ok (.ifCond .eq 10, 3) := by decide +kernel
theorem dX8_wake_8 : decode cX8_wake 8 = .ok (.iload_n 2, 1) := by decide +kernel
theorem dX8_wake_9 : decode cX8_wake 9 = .ok (.invokestatic 147, 3) := by decide +kernel
theorem dX8_wake_12 : decode cX8_wake 12 = .ok (.ifCond .ne 6, 3) := by decide +kernel
theorem dX8_wake_15 : decode cX8_wake 15 = .ok (.bipush (-101), 2) := by decide +kernel
theorem dX8_wake_17 : decode cX8_wake 17 = .ok (.ireturn, 1) := by decide +kernel
theorem dX8_wake_18 : decode cX8_wake 18 = .ok (.aload_n 0, 1) := by decide +kernel
theorem dX8_wake_19 : decode cX8_wake 19 = .ok (.getfield 141, 3) := by decide +kernel
theorem dX8_wake_22 : decode cX8_wake 22 = .ok (.istore_n 3, 1) := by decide +kernel
theorem dX8_wake_23 : decode cX8_wake 23 = .ok (.aload_n 0, 1) := by decide +kernel
theorem dX8_wake_24 : decode cX8_wake 24 = .ok (.iload_n 1, 1) := by decide +kernel
theorem dX8_wake_25 : decode cX8_wake 25 = .ok (.putfield 34, 3) := by decide +kernel
theorem dX8_wake_28 : decode cX8_wake 28 = .ok (.aload_n 0, 1) := by decide +kernel
theorem dX8_wake_29 : decode cX8_wake 29 = .ok (.iconst 0, 1) := by decide +kernel
theorem dX8_wake_30 : decode cX8_wake 30 = .ok (.putfield 141, 3) := by decide +kernel
theorem dX8_wake_33 : decode cX8_wake 33 = .ok (.aload_n 0, 1) := by decide +kernel
theorem dX8_wake_34 : decode cX8_wake 34 = .ok (.getfield 38, 3) := by decide +kernel
theorem dX8_wake_37 : decode cX8_wake 37 = .ok (.iconst 0, 1) := by decide +kernel
theorem dX8_wake_38 : decode cX8_wake 38 = .ok (.iload_n 2, 1) := by decide +kernel
theorem dX8_wake_39 : decode cX8_wake 39 = .ok (.iastore, 1) := by decide +kernel
theorem dX8_wake_40 : decode cX8_wake 40 = .ok (.iload_n 3, 1) := by decide +kernel
theorem dX8_wake_41 : decode cX8_wake 41 = .ok (.ireturn, 1) := by decide +kernel
set_option maxHeartbeats 4000000 in
set_option maxRecDepth 100000 in
theorem c_X8_wake {l : Launch} {g : GW} {a : AT} {x y : Int32} (μ : Mm) (hO : AOK a) (hM : RM μ a)  : Con l g yX8_wake cX8_wake 4 (some .int) 2 [.ref 65, .int x, .int y] μ (fun r μ' => r = some (.int (fWake a x y).1) ∧ RM μ' (fWake a x y).2 ∧ FrX μ μ') := by
  obtain ⟨m1, m2, m3, m4, m5, m6, m7, m8, m9, m10, m11, m12, m13⟩ := id hM
  obtain ⟨o1, o2, o3, o4, o5, ⟨s1, s2, s3, s4⟩, oK, o8, o9, o10⟩ := id hO
  refine Con.of [.ref 65, .int x, .int y, .null] 1 (by decide +kernel) (Nat.le_of_ble_eq_true rfl) rfl ?_
  refine V_aload_n (pc := 0) dX8_wake_0 rfl rfl ?_
  refine V_iload_n (pc := 1) dX8_wake_1 rfl rfl ?_
  refine V_inv1 (pc := 2) (ci := 8) dX8_wake_2 ml_X8_150 (by decide) rfl ⟨by decide, rfl⟩ (by first | decide | omega) (Nat.le_of_ble_eq_true rfl) (c_X8_isShip μ hO hM) ?_
  rintro _ μ2 ⟨rfl, hμ⟩
  obtain rfl := hμ.symm
  refine V_ifeq (pc := 5) (tgt := 15) dX8_wake_5 (by decide) (fun h5 => ?_) (fun h5 => ?_)
  · have h5 := bI_e h5
    refine V_bipush (pc := 15) (v := (-101)) dX8_wake_15 (by decide) ?_
    refine V_iret (pc := 17) dX8_wake_17 rfl ?_
    rw [show fWake a x y = (-101, a) from by unfold fWake; first | (rw [h5]; rfl) | (rw [h5, h12]; rfl)]
    exact ⟨rfl, hM, FrX.rf⟩
  have h5 := bI_ne h5
  refine V_iload_n (pc := 8) dX8_wake_8 rfl rfl ?_
  refine V_ins1 (pc := 9) dX8_wake_9 ml_X8_147 (by first | decide | omega) (Nat.le_of_ble_eq_true rfl) (c_X8_isPlace μ) ?_
  rintro _ μ2 ⟨rfl, hμ⟩
  obtain rfl := hμ.symm
  refine V_ifne (pc := 12) (tgt := 18) dX8_wake_12 (by decide) (fun h12 => ?_) (fun h12 => ?_)
  · have h12 := bI_ne h12
    obtain ⟨i, hi, rfl⟩ := inN_of (by omega) h5
    obtain ⟨j, hj, rfl⟩ := inN_of (by decide) h12
    refine V_aload_n (pc := 18) dX8_wake_18 rfl rfl ?_
    refine V_getI (pc := 19) (ci := 8) (j := 16) dX8_wake_19 fl_X8_141 (fun _ _ _ _ => rfl) (by decide) rfl ?_
    refine V_istore3 (pc := 22) dX8_wake_22 (by decide) rfl ?_
    refine V_aload_n (pc := 23) dX8_wake_23 rfl rfl ?_
    refine V_iload_n (pc := 24) dX8_wake_24 rfl rfl ?_
    refine V_putI (pc := 25) (ci := 8) (j := 15) dX8_wake_25 fl_X8_34 (fun _ _ _ _ _ => rfl) rfl rfl (by decide) rfl ?_
    refine V_aload_n (pc := 28) dX8_wake_28 rfl rfl ?_
    refine V_iconst (pc := 29) (v := 0) dX8_wake_29 (by decide) ?_
    refine V_putI (pc := 30) (ci := 8) (j := 16) dX8_wake_30 fl_X8_141 (fun _ _ _ _ _ => rfl) rfl rfl (by decide) rfl ?_
    refine V_aload_n (pc := 33) dX8_wake_33 rfl rfl ?_
    refine V_getR (pc := 34) (ci := 8) (j := 17) (k2 := 74) dX8_wake_34 fl_X8_38 (fun _ _ _ _ => rfl) (by decide) rfl (rf_8_17 rfl) ?_
    refine V_iconst (pc := 37) (v := 0) dX8_wake_37 (by decide) ?_
    refine V_iload_n (pc := 38) dX8_wake_38 rfl rfl ?_
    refine V_iast (pc := 39) (j := 0) dX8_wake_39 (by decide) rfl rfl (by show 0 < 7; omega) ?_
    refine V_iload_n (pc := 40) dX8_wake_40 rfl rfl ?_
    refine V_iret (pc := 41) dX8_wake_41 rfl ?_
    have ef : fWake a (nI i) (nI j) = (nI (aWn a), setW a true (sK (aS a) i) 0 (up1 (aWp a) 0 j)) := by unfold fWake; rw [h5, h12, nn_nI (by omega), nn_nI (by omega)]; rfl
    rw [ef]
    have hJ : FrJ wakeP μ (setI (setI (setI μ 65 15 (nI i)) 65 16 0) 74 0 (nI j)) := ((FrJ.rf.set (Or.inr ⟨rfl, by omega⟩)).set (Or.inr ⟨rfl, by omega⟩)).set (Or.inl rfl)
    refine ⟨by rw [m11.2.1], hM.wk hJ ⟨?_, by simp [get_set]; rfl, fun t ht => ?_⟩, hJ.X wakeX⟩
    · show if true then _ else _
      exact ⟨i, hi, by simp [get_set], rfl⟩
    · show _ = nI (up1 (aWp a) 0 j t)
      by_cases e : t = 0
      · subst e; rw [get_eq, up1_eq]
      · rw [up1_ne e, get_ne (by omega), get_ne (by omega), get_ne (by omega)]; exact m11.2.2 t ht
  have h12 := bI_e h12
  refine V_bipush (pc := 15) (v := (-101)) dX8_wake_15 (by decide) ?_
  refine V_iret (pc := 17) dX8_wake_17 rfl ?_
  rw [show fWake a x y = (-101, a) from by unfold fWake; first | (rw [h5]; rfl) | (rw [h5, h12]; rfl)]
  exact ⟨rfl, hM, FrX.rf⟩
theorem dX8_then_0 : decode cX8_then 0 = .ok (.aload_n 0, 1) := by decide +kernel
theorem dX8_then_1 : decode cX8_then 1 = .ok (.getfield 34, 3) := by decide +kernel
theorem dX8_then_4 : decode cX8_then 4 = .ok (.iconst (-1), 1) := by decide +kernel
theorem dX8_then_5 : decode cX8_then 5 = .ok (.if_icmp .ne 6, 3) := by decide +kernel
theorem dX8_then_8 : decode cX8_then 8 = .ok (.bipush (-103), 2) := by decide +kernel
theorem dX8_then_10 : decode cX8_then 10 = .ok (.ireturn, 1) := by decide +kernel
theorem dX8_then_11 : decode cX8_then 11 = .ok (.iload_n 1, 1) := by decide +kernel
theorem dX8_then_12 : decode cX8_then 12 = .ok (.invokestatic 147, 3) := by decide +kernel
theorem dX8_then_15 : decode cX8_then 15 = .ok (.ifCond .ne 6, 3) := by decide +kernel
theorem dX8_then_18 : decode cX8_then 18 = .ok (.bipush (-101), 2) := by decide +kernel
theorem dX8_then_20 : decode cX8_then 20 = .ok (.ireturn, 1) := by decide +kernel
theorem dX8_then_21 : decode cX8_then 21 = .ok (.aload_n 0, 1) := by decide +kernel
theorem dX8_then_22 : decode cX8_then 22 = .ok (.getfield 141, 3) := by decide +kernel
theorem dX8_then_25 : decode cX8_then 25 = .ok (.bipush 6, 2) := by decide +kernel
theorem dX8_then_27 : decode cX8_then 27 = .ok (.if_icmp .ne 6, 3) := by decide +kernel
theorem dX8_then_30 : decode cX8_then 30 = .ok (.bipush (-104), 2) := by decide +kernel
theorem dX8_then_32 : decode cX8_then 32 = .ok (.ireturn, 1) := by decide +kernel
theorem dX8_then_33 : decode cX8_then 33 = .ok (.aload_n 0, 1) := by decide +kernel
theorem dX8_then_34 : decode cX8_then 34 = .ok (.dup, 1) := by decide +kernel
theorem dX8_then_35 : decode cX8_then 35 = .ok (.getfield 141, 3) := by decide +kernel
theorem dX8_then_38 : decode cX8_then 38 = .ok (.iconst 1, 1) := by decide +kernel
theorem dX8_then_39 : decode cX8_then 39 = .ok (.iadd, 1) := by decide +kernel
theorem dX8_then_40 : decode cX8_then 40 = .ok (.putfield 141, 3) := by decide +kernel
theorem dX8_then_43 : decode cX8_then 43 = .ok (.aload_n 0, 1) := by decide +kernel
theorem dX8_then_44 : decode cX8_then 44 = .ok (.getfield 38, 3) := by decide +kernel
theorem dX8_then_47 : decode cX8_then 47 = .ok (.aload_n 0, 1) := by decide +kernel
theorem dX8_then_48 : decode cX8_then 48 = .ok (.getfield 141, 3) := by decide +kernel
theorem dX8_then_51 : decode cX8_then 51 = .ok (.iload_n 1, 1) := by decide +kernel
theorem dX8_then_52 : decode cX8_then 52 = .ok (.iastore, 1) := by decide +kernel
theorem dX8_then_53 : decode cX8_then 53 = .ok (.aload_n 0, 1) := by decide +kernel
theorem dX8_then_54 : decode cX8_then 54 = .ok (.getfield 141, 3) := by decide +kernel
theorem dX8_then_57 : decode cX8_then 57 = .ok (.ireturn, 1) := by decide +kernel
set_option maxHeartbeats 4000000 in
set_option maxRecDepth 100000 in
theorem c_X8_then {l : Launch} {g : GW} {a : AT} {x : Int32} (μ : Mm) (hO : AOK a) (hM : RM μ a)  : Con l g yX8_then cX8_then 2 (some .int) 2 [.ref 65, .int x] μ (fun r μ' => r = some (.int (fThen a x).1) ∧ RM μ' (fThen a x).2 ∧ FrX μ μ') := by
  obtain ⟨m1, m2, m3, m4, m5, m6, m7, m8, m9, m10, m11, m12, m13⟩ := id hM
  obtain ⟨o1, o2, o3, o4, o5, ⟨s1, s2, s3, s4⟩, oK, o8, o9, o10⟩ := id hO
  refine Con.of [.ref 65, .int x] 0 (by decide +kernel) (Nat.le_of_ble_eq_true rfl) rfl ?_
  refine V_aload_n (pc := 0) dX8_then_0 rfl rfl ?_
  refine V_getI (pc := 1) (ci := 8) (j := 15) dX8_then_1 fl_X8_34 (fun _ _ _ _ => rfl) (by decide) rfl ?_
  refine V_iconst (pc := 4) (v := (-1)) dX8_then_4 (by decide) ?_
  refine V_icmpne (pc := 5) (tgt := 11) dX8_then_5 (by decide) (fun h5 => ?_) (fun h5 => ?_)
  · have hwb : aWb a = true := by cases hq : aWb a; have e := m11.1; rw [hq] at e; exact absurd e h5; rfl
    refine V_iload_n (pc := 11) dX8_then_11 rfl rfl ?_
    refine V_ins1 (pc := 12) dX8_then_12 ml_X8_147 (by first | decide | omega) (Nat.le_of_ble_eq_true rfl) (c_X8_isPlace μ) ?_
    rintro _ μ2 ⟨rfl, hμ⟩
    obtain rfl := hμ.symm
    refine V_ifne (pc := 15) (tgt := 21) dX8_then_15 (by decide) (fun h15 => ?_) (fun h15 => ?_)
    · have h15 := bI_ne h15
      refine V_aload_n (pc := 21) dX8_then_21 rfl rfl ?_
      refine V_getI (pc := 22) (ci := 8) (j := 16) dX8_then_22 fl_X8_141 (fun _ _ _ _ => rfl) (by decide) rfl ?_
      refine V_bipush (pc := 25) (v := 6) dX8_then_25 (by decide) ?_
      rw [m11.2.1]
      refine V_icmpne (pc := 27) (tgt := 33) dX8_then_27 (by decide) (fun h27 => ?_) (fun h27 => ?_)
      · have h27 := mt (nI_eq (a := aWn a) (b := 6) (by omega) (by omega)).mpr h27
        obtain ⟨j, hj, rfl⟩ := inN_of (by decide) h15
        refine V_aload_n (pc := 33) dX8_then_33 rfl rfl ?_
        refine V_dup (pc := 34) dX8_then_34 rfl ?_
        refine V_getI (pc := 35) (ci := 8) (j := 16) dX8_then_35 fl_X8_141 (fun _ _ _ _ => rfl) (by decide) rfl ?_
        refine V_iconst (pc := 38) (v := 1) dX8_then_38 (by decide) ?_
        refine V_iadd (pc := 39) dX8_then_39 ?_
        refine V_putI (pc := 40) (ci := 8) (j := 16) dX8_then_40 fl_X8_141 (fun _ _ _ _ _ => rfl) rfl rfl (by decide) rfl ?_
        refine V_aload_n (pc := 43) dX8_then_43 rfl rfl ?_
        refine V_getR (pc := 44) (ci := 8) (j := 17) (k2 := 74) dX8_then_44 fl_X8_38 (fun _ _ _ _ => rfl) (by decide) rfl (rf_8_17 rfl) ?_
        refine V_aload_n (pc := 47) dX8_then_47 rfl rfl ?_
        refine V_getI (pc := 48) (ci := 8) (j := 16) dX8_then_48 fl_X8_141 (fun _ _ _ _ => rfl) (by decide) rfl ?_
        refine V_iload_n (pc := 51) dX8_then_51 rfl rfl ?_
        refine V_iast (pc := 52) (j := (aWn a + 1)) dX8_then_52 (by decide) rfl (by rw [get_eq, m11.2.1, nI_1]) (by show aWn a + 1 < 7; omega) ?_
        refine V_aload_n (pc := 53) dX8_then_53 rfl rfl ?_
        refine V_getI (pc := 54) (ci := 8) (j := 16) dX8_then_54 fl_X8_141 (fun _ _ _ _ => rfl) (by decide) rfl ?_
        refine V_iret (pc := 57) dX8_then_57 rfl ?_
        have ef : fThen a (nI j) = (nI (aWn a + 1), setW a true (aWk a) (aWn a + 1) (up1 (aWp a) (aWn a + 1) j)) := by unfold fThen; rw [hwb, h15, if_pos rfl, if_pos rfl, if_neg h27, nn_nI (by omega)]
        rw [ef]
        have ev : μ.1 65 16 + 1 = nI (aWn a + 1) := by rw [m11.2.1, nI_1]
        have hJ : FrJ wakeP μ (setI (setI μ 65 16 (μ.1 65 16 + 1)) 74 (aWn a + 1) (nI j)) := (FrJ.rf.set (Or.inr ⟨rfl, by omega⟩)).set (Or.inl rfl)
        refine ⟨by simp [get_set, ev], hM.wk hJ ⟨?_, by simp [get_set, ev]; rfl, fun t ht => ?_⟩, hJ.X wakeX⟩
        · show if true then _ else _
          have e := m11.1
          rw [hwb] at e
          obtain ⟨z, z1, z2, z3⟩ := e
          exact ⟨z, z1, by simp [get_set, z2], z3⟩
        · show _ = nI (up1 (aWp a) (aWn a + 1) j t)
          by_cases e : t = aWn a + 1
          · subst e; rw [get_eq, up1_eq]
          · rw [up1_ne e, get_ne (by omega), get_ne (by omega)]; exact m11.2.2 t ht
      have h27 := (nI_eq (a := aWn a) (b := 6) (by omega) (by omega)).mp h27
      refine V_bipush (pc := 30) (v := (-104)) dX8_then_30 (by decide) ?_
      refine V_iret (pc := 32) dX8_then_32 rfl ?_
      rw [show fThen a x = (-104, a) from by unfold fThen; rw [hwb, h15, if_pos rfl, if_pos rfl, if_pos h27]]
      exact ⟨rfl, hM, FrX.rf⟩
    have h15 := bI_e h15
    refine V_bipush (pc := 18) (v := (-101)) dX8_then_18 (by decide) ?_
    refine V_iret (pc := 20) dX8_then_20 rfl ?_
    rw [show fThen a x = (-101, a) from by unfold fThen; rw [hwb, h15]; rfl]
    exact ⟨rfl, hM, FrX.rf⟩
  have hwb : aWb a = false := by cases hq : aWb a; rfl; have e := m11.1; rw [hq] at e; obtain ⟨z, z1, z2, z3⟩ := e; rw [z2] at h5; exact absurd h5 (nI_m1ne (by omega))
  refine V_bipush (pc := 8) (v := (-103)) dX8_then_8 (by decide) ?_
  refine V_iret (pc := 10) dX8_then_10 rfl ?_
  rw [show fThen a x = (-103, a) from by unfold fThen; rw [hwb]; rfl]
  exact ⟨rfl, hM, FrX.rf⟩
theorem dX8_image_0 : decode cX8_image 0 = .ok (.aload_n 0, 1) := by decide +kernel
theorem dX8_image_1 : decode cX8_image 1 = .ok (.getfield 123, 3) := by decide +kernel
theorem dX8_image_4 : decode cX8_image 4 = .ok (.ifCond .ne 6, 3) := by decide +kernel
theorem dX8_image_7 : decode cX8_image 7 = .ok (.bipush (-103), 2) := by decide +kernel
theorem dX8_image_9 : decode cX8_image 9 = .ok (.ireturn, 1) := by decide +kernel
theorem dX8_image_10 : decode cX8_image 10 = .ok (.aload_n 0, 1) := by decide +kernel
theorem dX8_image_11 : decode cX8_image 11 = .ok (.iconst 1, 1) := by decide +kernel
theorem dX8_image_12 : decode cX8_image 12 = .ok (.putfield 273, 3) := by decide +kernel
theorem dX8_image_15 : decode cX8_image 15 = .ok (.aload_n 0, 1) := by decide +kernel
theorem dX8_image_16 : decode cX8_image 16 = .ok (.aload_n 0, 1) := by decide +kernel
theorem dX8_image_17 : decode cX8_image 17 = .ok (.getfield 126, 3) := by decide +kernel
theorem dX8_image_20 : decode cX8_image 20 = .ok (.putfield 276, 3) := by decide +kernel
theorem dX8_image_23 : decode cX8_image 23 = .ok (.aload_n 0, 1) := by decide +kernel
theorem dX8_image_24 : decode cX8_image 24 = .ok (.aload_n 0, 1) := by decide +kernel
theorem dX8_image_25 : decode cX8_image 25 = .ok (.getfield 129, 3) := by decide +kernel
theorem dX8_image_28 : decode cX8_image 28 = .ok (.putfield 279, 3) := by decide +kernel
theorem dX8_image_31 : decode cX8_image 31 = .ok (.aload_n 0, 1) := by decide +kernel
theorem dX8_image_32 : decode cX8_image 32 = .ok (.aload_n 0, 1) := by decide +kernel
theorem dX8_image_33 : decode cX8_image 33 = .ok (.getfield 132, 3) := by decide +kernel
theorem dX8_image_36 : decode cX8_image 36 = .ok (.putfield 282, 3) := by decide +kernel
theorem dX8_image_39 : decode cX8_image 39 = .ok (.aload_n 0, 1) := by decide +kernel
theorem dX8_image_40 : decode cX8_image 40 = .ok (.aload_n 0, 1) := by decide +kernel
theorem dX8_image_41 : decode cX8_image 41 = .ok (.getfield 135, 3) := by decide +kernel
theorem dX8_image_44 : decode cX8_image 44 = .ok (.putfield 285, 3) := by decide +kernel
theorem dX8_image_47 : decode cX8_image 47 = .ok (.aload_n 0, 1) := by decide +kernel
theorem dX8_image_48 : decode cX8_image 48 = .ok (.aload_n 0, 1) := by decide +kernel
theorem dX8_image_49 : decode cX8_image 49 = .ok (.getfield 138, 3) := by decide +kernel
theorem dX8_image_52 : decode cX8_image 52 = .ok (.putfield 288, 3) := by decide +kernel
theorem dX8_image_55 : decode cX8_image 55 = .ok (.iconst 0, 1) := by decide +kernel
theorem dX8_image_56 : decode cX8_image 56 = .ok (.istore_n 1, 1) := by decide +kernel
theorem dX8_image_57 : decode cX8_image 57 = .ok (.iload_n 1, 1) := by decide +kernel
theorem dX8_image_58 : decode cX8_image 58 = .ok (.bipush 6, 2) := by decide +kernel
theorem dX8_image_60 : decode cX8_image 60 = .ok (.if_icmp .ge 45, 3) := by decide +kernel
theorem dX8_image_63 : decode cX8_image 63 = .ok (.aload_n 0, 1) := by decide +kernel
theorem dX8_image_64 : decode cX8_image 64 = .ok (.getfield 71, 3) := by decide +kernel
theorem dX8_image_67 : decode cX8_image 67 = .ok (.iload_n 1, 1) := by decide +kernel
theorem dX8_image_68 : decode cX8_image 68 = .ok (.aload_n 0, 1) := by decide +kernel
theorem dX8_image_69 : decode cX8_image 69 = .ok (.getfield 19, 3) := by decide +kernel
theorem dX8_image_72 : decode cX8_image 72 = .ok (.iload_n 1, 1) := by decide +kernel
theorem dX8_image_73 : decode cX8_image 73 = .ok (.iaload, 1) := by decide +kernel
theorem dX8_image_74 : decode cX8_image 74 = .ok (.iastore, 1) := by decide +kernel
theorem dX8_image_75 : decode cX8_image 75 = .ok (.aload_n 0, 1) := by decide +kernel
theorem dX8_image_76 : decode cX8_image 76 = .ok (.getfield 74, 3) := by decide +kernel
theorem dX8_image_79 : decode cX8_image 79 = .ok (.iload_n 1, 1) := by decide +kernel
theorem dX8_image_80 : decode cX8_image 80 = .ok (.aload_n 0, 1) := by decide +kernel
theorem dX8_image_81 : decode cX8_image 81 = .ok (.getfield 25, 3) := by decide +kernel
theorem dX8_image_84 : decode cX8_image 84 = .ok (.iload_n 1, 1) := by decide +kernel
theorem dX8_image_85 : decode cX8_image 85 = .ok (.iaload, 1) := by decide +kernel
theorem dX8_image_86 : decode cX8_image 86 = .ok (.iastore, 1) := by decide +kernel
theorem dX8_image_87 : decode cX8_image 87 = .ok (.aload_n 0, 1) := by decide +kernel
theorem dX8_image_88 : decode cX8_image 88 = .ok (.getfield 77, 3) := by decide +kernel
theorem dX8_image_91 : decode cX8_image 91 = .ok (.iload_n 1, 1) := by decide +kernel
theorem dX8_image_92 : decode cX8_image 92 = .ok (.aload_n 0, 1) := by decide +kernel
theorem dX8_image_93 : decode cX8_image 93 = .ok (.getfield 28, 3) := by decide +kernel
theorem dX8_image_96 : decode cX8_image 96 = .ok (.iload_n 1, 1) := by decide +kernel
theorem dX8_image_97 : decode cX8_image 97 = .ok (.iaload, 1) := by decide +kernel
theorem dX8_image_98 : decode cX8_image 98 = .ok (.iastore, 1) := by decide +kernel
theorem dX8_image_99 : decode cX8_image 99 = .ok (.iinc 1 1, 3) := by decide +kernel
theorem dX8_image_102 : decode cX8_image 102 = .ok (.goto (-45), 3) := by decide +kernel
theorem dX8_image_105 : decode cX8_image 105 = .ok (.iconst 0, 1) := by decide +kernel
theorem dX8_image_106 : decode cX8_image 106 = .ok (.istore_n 1, 1) := by decide +kernel
theorem dX8_image_107 : decode cX8_image 107 = .ok (.iload_n 1, 1) := by decide +kernel
theorem dX8_image_108 : decode cX8_image 108 = .ok (.bipush 40, 2) := by decide +kernel
theorem dX8_image_110 : decode cX8_image 110 = .ok (.if_icmp .ge 21, 3) := by decide +kernel
theorem dX8_image_113 : decode cX8_image 113 = .ok (.aload_n 0, 1) := by decide +kernel
theorem dX8_image_114 : decode cX8_image 114 = .ok (.getfield 80, 3) := by decide +kernel
theorem dX8_image_117 : decode cX8_image 117 = .ok (.iload_n 1, 1) := by decide +kernel
theorem dX8_image_118 : decode cX8_image 118 = .ok (.aload_n 0, 1) := by decide +kernel
theorem dX8_image_119 : decode cX8_image 119 = .ok (.getfield 31, 3) := by decide +kernel
theorem dX8_image_122 : decode cX8_image 122 = .ok (.iload_n 1, 1) := by decide +kernel
theorem dX8_image_123 : decode cX8_image 123 = .ok (.iaload, 1) := by decide +kernel
theorem dX8_image_124 : decode cX8_image 124 = .ok (.iastore, 1) := by decide +kernel
theorem dX8_image_125 : decode cX8_image 125 = .ok (.iinc 1 1, 3) := by decide +kernel
theorem dX8_image_128 : decode cX8_image 128 = .ok (.goto (-21), 3) := by decide +kernel
theorem dX8_image_131 : decode cX8_image 131 = .ok (.aload_n 0, 1) := by decide +kernel
theorem dX8_image_132 : decode cX8_image 132 = .ok (.getfield 129, 3) := by decide +kernel
theorem dX8_image_135 : decode cX8_image 135 = .ok (.ireturn, 1) := by decide +kernel
set_option maxHeartbeats 4000000 in
set_option maxRecDepth 100000 in
theorem c_X8_image {l : Launch} {g : GW} {a : AT}  (μ : Mm) (hO : AOK a) (hM : RM μ a)  : Con l g yX8_image cX8_image 2 (some .int) 0 [.ref 65] μ (fun r μ' => r = some (.int (fImage a).1) ∧ RM μ' (fImage a).2 ∧ FrX μ μ') := by
  obtain ⟨m1, m2, m3, m4, m5, m6, m7, m8, m9, m10, m11, m12, m13⟩ := id hM
  obtain ⟨o1, o2, o3, o4, o5, ⟨s1, s2, s3, s4⟩, oK, o8, o9, o10⟩ := id hO
  refine Con.of [.ref 65, .null] 1 (by decide +kernel) (Nat.le_of_ble_eq_true rfl) rfl ?_
  refine V_aload_n (pc := 0) dX8_image_0 rfl rfl ?_
  refine V_getI (pc := 1) (ci := 8) (j := 0) dX8_image_1 fl_X8_123 (fun _ _ _ _ => rfl) (by decide) rfl ?_
  rw [m1]
  refine V_ifne (pc := 4) (tgt := 10) dX8_image_4 (by decide) (fun h4 => ?_) (fun h4 => ?_)
  · have h4 := of_decide_eq_true (bI_ne h4)
    refine V_aload_n (pc := 10) dX8_image_10 rfl rfl ?_
    refine V_iconst (pc := 11) (v := 1) dX8_image_11 (by decide) ?_
    refine V_putZ (pc := 12) (ci := 8) (j := 33) dX8_image_12 fl_X8_273 (fun _ _ _ _ _ => rfl) rfl rfl (by decide) rfl (by first | exact Or.inl rfl | exact Or.inr rfl | assumption) ?_
    refine V_aload_n (pc := 15) dX8_image_15 rfl rfl ?_
    refine V_aload_n (pc := 16) dX8_image_16 rfl rfl ?_
    refine V_getI (pc := 17) (ci := 8) (j := 1) dX8_image_17 fl_X8_126 (fun _ _ _ _ => rfl) (by decide) rfl ?_
    refine V_putI (pc := 20) (ci := 8) (j := 34) dX8_image_20 fl_X8_276 (fun _ _ _ _ _ => rfl) rfl rfl (by decide) rfl ?_
    refine V_aload_n (pc := 23) dX8_image_23 rfl rfl ?_
    refine V_aload_n (pc := 24) dX8_image_24 rfl rfl ?_
    refine V_getI (pc := 25) (ci := 8) (j := 5) dX8_image_25 fl_X8_129 (fun _ _ _ _ => rfl) (by decide) rfl ?_
    refine V_putI (pc := 28) (ci := 8) (j := 35) dX8_image_28 fl_X8_279 (fun _ _ _ _ _ => rfl) rfl rfl (by decide) rfl ?_
    refine V_aload_n (pc := 31) dX8_image_31 rfl rfl ?_
    refine V_aload_n (pc := 32) dX8_image_32 rfl rfl ?_
    refine V_getI (pc := 33) (ci := 8) (j := 11) dX8_image_33 fl_X8_132 (fun _ _ _ _ => rfl) (by decide) rfl ?_
    refine V_putI (pc := 36) (ci := 8) (j := 36) dX8_image_36 fl_X8_282 (fun _ _ _ _ _ => rfl) rfl rfl (by decide) rfl ?_
    refine V_aload_n (pc := 39) dX8_image_39 rfl rfl ?_
    refine V_aload_n (pc := 40) dX8_image_40 rfl rfl ?_
    refine V_getI (pc := 41) (ci := 8) (j := 12) dX8_image_41 fl_X8_135 (fun _ _ _ _ => rfl) (by decide) rfl ?_
    refine V_putI (pc := 44) (ci := 8) (j := 37) dX8_image_44 fl_X8_285 (fun _ _ _ _ _ => rfl) rfl rfl (by decide) rfl ?_
    refine V_aload_n (pc := 47) dX8_image_47 rfl rfl ?_
    refine V_aload_n (pc := 48) dX8_image_48 rfl rfl ?_
    refine V_getI (pc := 49) (ci := 8) (j := 13) dX8_image_49 fl_X8_138 (fun _ _ _ _ => rfl) (by decide) rfl ?_
    refine V_putI (pc := 52) (ci := 8) (j := 38) dX8_image_52 fl_X8_288 (fun _ _ _ _ _ => rfl) rfl rfl (by decide) rfl ?_
    refine V_iconst (pc := 55) (v := 0) dX8_image_55 (by decide) ?_
    refine V_istore1 (pc := 56) dX8_image_56 (by decide) rfl ?_
    have loopA : ∀ (nA i : Nat) (μ1 : Mm), i ≤ 6 → 6 < i + nA → (FrJ keepP μ μ1) → (KpH μ1 a) → (∀ j, j < i → μ1.1 84 j = μ.1 69 j ∧ μ1.1 85 j = μ.1 71 j ∧ μ1.1 86 j = μ.1 72 j) → V l g RX8 cX8_image 2 (some .int) 0 57 [.ref 65, .int (nI i)] [] μ1 (fun r μ' => r = some (.int (fImage a).1) ∧ RM μ' (fImage a).2 ∧ FrX μ μ') := by
      intro nA
      induction nA with
      | zero => intro i μ1 h1 h2; exact absurd h2 (by omega)
      | succ nA ihA =>
        intro i μ1 hleA hfuA hF hH hc
        refine V_iload_n (pc := 57) dX8_image_57 rfl rfl ?_
        refine V_bipush (pc := 58) (v := 6) dX8_image_58 (by decide) ?_
        refine V_icmpge (pc := 60) (tgt := 105) dX8_image_60 (by decide) (fun h60 => ?_) (fun h60 => ?_)
        · have h60 := (nI_leI (a := 6) (b := i) (by decide) (by omega)).mp h60; obtain rfl : i = 6 := by omega
          refine V_iconst (pc := 105) (v := 0) dX8_image_105 (by decide) ?_
          refine V_istore1 (pc := 106) dX8_image_106 (by decide) rfl ?_
          have loopB : ∀ (nB q : Nat) (μ2 : Mm), q ≤ 40 → 40 < q + nB → (FrJ keepP μ μ2) → (KpH μ2 a) → (∀ j, j < 6 → μ2.1 84 j = μ.1 69 j ∧ μ2.1 85 j = μ.1 71 j ∧ μ2.1 86 j = μ.1 72 j) → (∀ j, j < q → μ2.1 87 j = μ.1 73 j) → V l g RX8 cX8_image 2 (some .int) 0 107 [.ref 65, .int (nI q)] [] μ2 (fun r μ' => r = some (.int (fImage a).1) ∧ RM μ' (fImage a).2 ∧ FrX μ μ') := by
            intro nB
            induction nB with
            | zero => intro q μ2 h1 h2; exact absurd h2 (by omega)
            | succ nB ihB =>
              intro q μ2 hleB hfuB hF2 hH2 hc2 hd2
              refine V_iload_n (pc := 107) dX8_image_107 rfl rfl ?_
              refine V_bipush (pc := 108) (v := 40) dX8_image_108 (by decide) ?_
              refine V_icmpge (pc := 110) (tgt := 131) dX8_image_110 (by decide) (fun h110 => ?_) (fun h110 => ?_)
              · have h110 := (nI_leI (a := 40) (b := q) (by decide) (by omega)).mp h110; obtain rfl : q = 40 := by omega
                refine V_aload_n (pc := 131) dX8_image_131 rfl rfl ?_
                refine V_getI (pc := 132) (ci := 8) (j := 5) dX8_image_132 fl_X8_129 (fun _ _ _ _ => rfl) (by decide) rfl ?_
                refine V_iret (pc := 135) dX8_image_135 rfl ?_
                rw [show fImage a = (nI (sN (aS a)), setK a true (cal0 (aS a))) from if_pos h4]
                obtain ⟨k1, k2, k3, k4, k5, k6⟩ := hH2
                refine ⟨by rw [hF2.1 65 5 (by unfold keepP; omega), m5], hM.kp hF2 ?_, hF2.X keepX⟩
                show if true then _ else _
                rw [if_pos rfl]
                obtain ⟨f, f1, f2⟩ := m10
                exact ⟨k1, k2, k3, k4, k5, k6, ⟨f, fun j hj => by have hj2 : j < sA (aS a) := hj; rw [hd2 j (by omega)]; exact f1 j hj2, f2⟩, fun i hi => by
                  have hi2 : i < sN (aS a) := hi
                  obtain ⟨c1, c2, c3⟩ := hc2 i (by omega)
                  obtain ⟨n1, n2, n3, n4, n5⟩ := m6 i hi2
                  rw [c1, c2, c3]
                  exact ⟨n2, n4, n5, rfl⟩, Nat.le_refl _⟩
              have hlt : q < 40 := nI_l3 (a := 40) (by decide) (by omega) h110
              refine V_aload_n (pc := 113) dX8_image_113 rfl rfl ?_
              refine V_getR (pc := 114) (ci := 8) (j := 42) (k2 := 87) dX8_image_114 fl_X8_80 (fun _ _ _ _ => rfl) (by decide) rfl (rf_8_42 rfl) ?_
              refine V_iload_n (pc := 117) dX8_image_117 rfl rfl ?_
              refine V_aload_n (pc := 118) dX8_image_118 rfl rfl ?_
              refine V_getR (pc := 119) (ci := 8) (j := 14) (k2 := 73) dX8_image_119 fl_X8_31 (fun _ _ _ _ => rfl) (by decide) rfl (rf_8_14 rfl) ?_
              refine V_iload_n (pc := 122) dX8_image_122 rfl rfl ?_
              refine V_iald (pc := 123) (j := q) dX8_image_123 (by decide) rfl rfl (by show q < 40; omega) ?_
              refine V_iast (pc := 124) (j := q) dX8_image_124 (by decide) rfl rfl (by show q < 40; omega) ?_
              refine V_iinc1 (pc := 125) (v := nI (q + 1)) dX8_image_125 (nI_1 q) (by decide) rfl ?_
              refine V_goto (pc := 128) (tgt := 107) dX8_image_128 (by decide) ?_
              refine ihB (q + 1) _ (by omega) (by omega) (hF2.set (Or.inl ⟨by omega, by omega⟩)) (hH2.kept (row_set (by decide))) (fun j hj => ?_) (fun j hj => ?_)
              · rw [row_set (by decide), row_set (by decide), row_set (by decide)]; exact hc2 j hj
              · by_cases e : j = q
                · subst e
                  rw [get_eq, hF2.row (k := 73) (fun j => by unfold keepP; omega)]
                · rw [get_ne (by omega)]; exact hd2 j (by omega)
          exact loopB (40 + 1) 0 _ (by omega) (by omega) hF hH hc (fun j hj => absurd hj (by omega))
        have hlt : i < 6 := nI_l3 (a := 6) (by decide) (by omega) h60
        refine V_aload_n (pc := 63) dX8_image_63 rfl rfl ?_
        refine V_getR (pc := 64) (ci := 8) (j := 39) (k2 := 84) dX8_image_64 fl_X8_71 (fun _ _ _ _ => rfl) (by decide) rfl (rf_8_39 rfl) ?_
        refine V_iload_n (pc := 67) dX8_image_67 rfl rfl ?_
        refine V_aload_n (pc := 68) dX8_image_68 rfl rfl ?_
        refine V_getR (pc := 69) (ci := 8) (j := 7) (k2 := 69) dX8_image_69 fl_X8_19 (fun _ _ _ _ => rfl) (by decide) rfl (rf_8_7 rfl) ?_
        refine V_iload_n (pc := 72) dX8_image_72 rfl rfl ?_
        refine V_iald (pc := 73) (j := i) dX8_image_73 (by decide) rfl rfl (by show i < 6; omega) ?_
        refine V_iast (pc := 74) (j := i) dX8_image_74 (by decide) rfl rfl (by show i < 6; omega) ?_
        refine V_aload_n (pc := 75) dX8_image_75 rfl rfl ?_
        refine V_getR (pc := 76) (ci := 8) (j := 40) (k2 := 85) dX8_image_76 fl_X8_74 (fun _ _ _ _ => rfl) (by decide) rfl (rf_8_40 rfl) ?_
        refine V_iload_n (pc := 79) dX8_image_79 rfl rfl ?_
        refine V_aload_n (pc := 80) dX8_image_80 rfl rfl ?_
        refine V_getR (pc := 81) (ci := 8) (j := 9) (k2 := 71) dX8_image_81 fl_X8_25 (fun _ _ _ _ => rfl) (by decide) rfl (rf_8_9 rfl) ?_
        refine V_iload_n (pc := 84) dX8_image_84 rfl rfl ?_
        refine V_iald (pc := 85) (j := i) dX8_image_85 (by decide) rfl rfl (by show i < 6; omega) ?_
        refine V_iast (pc := 86) (j := i) dX8_image_86 (by decide) rfl rfl (by show i < 6; omega) ?_
        refine V_aload_n (pc := 87) dX8_image_87 rfl rfl ?_
        refine V_getR (pc := 88) (ci := 8) (j := 41) (k2 := 86) dX8_image_88 fl_X8_77 (fun _ _ _ _ => rfl) (by decide) rfl (rf_8_41 rfl) ?_
        refine V_iload_n (pc := 91) dX8_image_91 rfl rfl ?_
        refine V_aload_n (pc := 92) dX8_image_92 rfl rfl ?_
        refine V_getR (pc := 93) (ci := 8) (j := 10) (k2 := 72) dX8_image_93 fl_X8_28 (fun _ _ _ _ => rfl) (by decide) rfl (rf_8_10 rfl) ?_
        refine V_iload_n (pc := 96) dX8_image_96 rfl rfl ?_
        refine V_iald (pc := 97) (j := i) dX8_image_97 (by decide) rfl rfl (by show i < 6; omega) ?_
        refine V_iast (pc := 98) (j := i) dX8_image_98 (by decide) rfl rfl (by show i < 6; omega) ?_
        refine V_iinc1 (pc := 99) (v := nI (i + 1)) dX8_image_99 (nI_1 i) (by decide) rfl ?_
        refine V_goto (pc := 102) (tgt := 57) dX8_image_102 (by decide) ?_
        refine ihA (i + 1) _ (by omega) (by omega) (((hF.set (Or.inl ⟨by omega, by omega⟩)).set (Or.inl ⟨by omega, by omega⟩)).set (Or.inl ⟨by omega, by omega⟩)) (hH.kept (by rw [row_set (by decide), row_set (by decide), row_set (by decide)])) (fun j hj => ?_)
        by_cases e : j = i
        · subst e
          simp [get_set, hF.row (k := 69) (fun j => by unfold keepP; omega), hF.row (k := 71) (fun j => by unfold keepP; omega), hF.row (k := 72) (fun j => by unfold keepP; omega)]
        · have q := hc j (by omega)
          simp [get_set, e, q]
    exact loopA (6 + 1) 0 _ (by omega) (by omega) ((((((FrJ.rf.set (Or.inr ⟨rfl, by omega, by omega⟩)).set (Or.inr ⟨rfl, by omega, by omega⟩)).set (Or.inr ⟨rfl, by omega, by omega⟩)).set (Or.inr ⟨rfl, by omega, by omega⟩)).set (Or.inr ⟨rfl, by omega, by omega⟩)).set (Or.inr ⟨rfl, by omega, by omega⟩)) (by unfold KpH; simp [get_set, m2, m5, m7, m8, m9]) (fun j hj => absurd hj (by omega))
  have h4 := of_decide_eq_false (bI_e h4)
  refine V_bipush (pc := 7) (v := (-103)) dX8_image_7 (by decide) ?_
  refine V_iret (pc := 9) dX8_image_9 rfl ?_
  rw [show fImage a = (-103, a) from if_neg h4]
  exact ⟨rfl, hM, FrX.rf⟩
theorem dX8_restore_0 : decode cX8_restore 0 = .ok (.aload_n 0, 1) := by decide +kernel
theorem dX8_restore_1 : decode cX8_restore 1 = .ok (.getfield 273, 3) := by decide +kernel
theorem dX8_restore_4 : decode cX8_restore 4 = .ok (.ifCond .eq 14, 3) := by decide +kernel
theorem dX8_restore_7 : decode cX8_restore 7 = .ok (.aload_n 0, 1) := by decide +kernel
theorem dX8_restore_8 : decode cX8_restore 8 = .ok (.getfield 276, 3) := by decide +kernel
theorem dX8_restore_11 : decode cX8_restore 11 = .ok (.aload_n 0, 1) := by decide +kernel
theorem dX8_restore_12 : decode cX8_restore 12 = .ok (.getfield 126, 3) := by decide +kernel
theorem dX8_restore_15 : decode cX8_restore 15 = .ok (.if_icmp .eq 6, 3) := by decide +kernel
theorem dX8_restore_18 : decode cX8_restore 18 = .ok (.bipush (-103), 2) := by decide +kernel
theorem dX8_restore_20 : decode cX8_restore 20 = .ok (.ireturn, 1) := by decide +kernel
theorem dX8_restore_21 : decode cX8_restore 21 = .ok (.aload_n 0, 1) := by decide +kernel
theorem dX8_restore_22 : decode cX8_restore 22 = .ok (.aload_n 0, 1) := by decide +kernel
theorem dX8_restore_23 : decode cX8_restore 23 = .ok (.getfield 279, 3) := by decide +kernel
theorem dX8_restore_26 : decode cX8_restore 26 = .ok (.putfield 129, 3) := by decide +kernel
theorem dX8_restore_29 : decode cX8_restore 29 = .ok (.aload_n 0, 1) := by decide +kernel
theorem dX8_restore_30 : decode cX8_restore 30 = .ok (.aload_n 0, 1) := by decide +kernel
theorem dX8_restore_31 : decode cX8_restore 31 = .ok (.getfield 282, 3) := by decide +kernel
theorem dX8_restore_34 : decode cX8_restore 34 = .ok (.putfield 132, 3) := by decide +kernel
theorem dX8_restore_37 : decode cX8_restore 37 = .ok (.aload_n 0, 1) := by decide +kernel
theorem dX8_restore_38 : decode cX8_restore 38 = .ok (.aload_n 0, 1) := by decide +kernel
theorem dX8_restore_39 : decode cX8_restore 39 = .ok (.getfield 285, 3) := by decide +kernel
theorem dX8_restore_42 : decode cX8_restore 42 = .ok (.putfield 135, 3) := by decide +kernel
theorem dX8_restore_45 : decode cX8_restore 45 = .ok (.aload_n 0, 1) := by decide +kernel
theorem dX8_restore_46 : decode cX8_restore 46 = .ok (.aload_n 0, 1) := by decide +kernel
theorem dX8_restore_47 : decode cX8_restore 47 = .ok (.getfield 288, 3) := by decide +kernel
theorem dX8_restore_50 : decode cX8_restore 50 = .ok (.putfield 138, 3) := by decide +kernel
theorem dX8_restore_53 : decode cX8_restore 53 = .ok (.aload_n 0, 1) := by decide +kernel
theorem dX8_restore_54 : decode cX8_restore 54 = .ok (.iconst (-1), 1) := by decide +kernel
theorem dX8_restore_55 : decode cX8_restore 55 = .ok (.putfield 34, 3) := by decide +kernel
theorem dX8_restore_58 : decode cX8_restore 58 = .ok (.aload_n 0, 1) := by decide +kernel
theorem dX8_restore_59 : decode cX8_restore 59 = .ok (.iconst 0, 1) := by decide +kernel
theorem dX8_restore_60 : decode cX8_restore 60 = .ok (.putfield 141, 3) := by decide +kernel
theorem dX8_restore_63 : decode cX8_restore 63 = .ok (.iconst 0, 1) := by decide +kernel
theorem dX8_restore_64 : decode cX8_restore 64 = .ok (.istore_n 1, 1) := by decide +kernel
theorem dX8_restore_65 : decode cX8_restore 65 = .ok (.iload_n 1, 1) := by decide +kernel
theorem dX8_restore_66 : decode cX8_restore 66 = .ok (.bipush 6, 2) := by decide +kernel
theorem dX8_restore_68 : decode cX8_restore 68 = .ok (.if_icmp .ge 52, 3) := by decide +kernel
theorem dX8_restore_71 : decode cX8_restore 71 = .ok (.aload_n 0, 1) := by decide +kernel
theorem dX8_restore_72 : decode cX8_restore 72 = .ok (.getfield 19, 3) := by decide +kernel
theorem dX8_restore_75 : decode cX8_restore 75 = .ok (.iload_n 1, 1) := by decide +kernel
theorem dX8_restore_76 : decode cX8_restore 76 = .ok (.aload_n 0, 1) := by decide +kernel
theorem dX8_restore_77 : decode cX8_restore 77 = .ok (.getfield 71, 3) := by decide +kernel
theorem dX8_restore_80 : decode cX8_restore 80 = .ok (.iload_n 1, 1) := by decide +kernel
theorem dX8_restore_81 : decode cX8_restore 81 = .ok (.iaload, 1) := by decide +kernel
theorem dX8_restore_82 : decode cX8_restore 82 = .ok (.iastore, 1) := by decide +kernel
theorem dX8_restore_83 : decode cX8_restore 83 = .ok (.aload_n 0, 1) := by decide +kernel
theorem dX8_restore_84 : decode cX8_restore 84 = .ok (.getfield 25, 3) := by decide +kernel
theorem dX8_restore_87 : decode cX8_restore 87 = .ok (.iload_n 1, 1) := by decide +kernel
theorem dX8_restore_88 : decode cX8_restore 88 = .ok (.aload_n 0, 1) := by decide +kernel
theorem dX8_restore_89 : decode cX8_restore 89 = .ok (.getfield 74, 3) := by decide +kernel
theorem dX8_restore_92 : decode cX8_restore 92 = .ok (.iload_n 1, 1) := by decide +kernel
theorem dX8_restore_93 : decode cX8_restore 93 = .ok (.iaload, 1) := by decide +kernel
theorem dX8_restore_94 : decode cX8_restore 94 = .ok (.iastore, 1) := by decide +kernel
theorem dX8_restore_95 : decode cX8_restore 95 = .ok (.aload_n 0, 1) := by decide +kernel
theorem dX8_restore_96 : decode cX8_restore 96 = .ok (.getfield 28, 3) := by decide +kernel
theorem dX8_restore_99 : decode cX8_restore 99 = .ok (.iload_n 1, 1) := by decide +kernel
theorem dX8_restore_100 : decode cX8_restore 100 = .ok (.aload_n 0, 1) := by decide +kernel
theorem dX8_restore_101 : decode cX8_restore 101 = .ok (.getfield 77, 3) := by decide +kernel
theorem dX8_restore_104 : decode cX8_restore 104 = .ok (.iload_n 1, 1) := by decide +kernel
theorem dX8_restore_105 : decode cX8_restore 105 = .ok (.iaload, 1) := by decide +kernel
theorem dX8_restore_106 : decode cX8_restore 106 = .ok (.iastore, 1) := by decide +kernel
theorem dX8_restore_107 : decode cX8_restore 107 = .ok (.aload_n 0, 1) := by decide +kernel
theorem dX8_restore_108 : decode cX8_restore 108 = .ok (.getfield 22, 3) := by decide +kernel
theorem dX8_restore_111 : decode cX8_restore 111 = .ok (.iload_n 1, 1) := by decide +kernel
theorem dX8_restore_112 : decode cX8_restore 112 = .ok (.iconst (-1), 1) := by decide +kernel
theorem dX8_restore_113 : decode cX8_restore 113 = .ok (.iastore, 1) := by decide +kernel
theorem dX8_restore_114 : decode cX8_restore 114 = .ok (.iinc 1 1, 3) := by decide +kernel
theorem dX8_restore_117 : decode cX8_restore 117 = .ok (.goto (-52), 3) := by decide +kernel
theorem dX8_restore_120 : decode cX8_restore 120 = .ok (.iconst 0, 1) := by decide +kernel
theorem dX8_restore_121 : decode cX8_restore 121 = .ok (.istore_n 1, 1) := by decide +kernel
theorem dX8_restore_122 : decode cX8_restore 122 = .ok (.iload_n 1, 1) := by decide +kernel
theorem dX8_restore_123 : decode cX8_restore 123 = .ok (.bipush 40, 2) := by decide +kernel
theorem dX8_restore_125 : decode cX8_restore 125 = .ok (.if_icmp .ge 21, 3) := by decide +kernel
theorem dX8_restore_128 : decode cX8_restore 128 = .ok (.aload_n 0, 1) := by decide +kernel
theorem dX8_restore_129 : decode cX8_restore 129 = .ok (.getfield 31, 3) := by decide +kernel
theorem dX8_restore_132 : decode cX8_restore 132 = .ok (.iload_n 1, 1) := by decide +kernel
theorem dX8_restore_133 : decode cX8_restore 133 = .ok (.aload_n 0, 1) := by decide +kernel
theorem dX8_restore_134 : decode cX8_restore 134 = .ok (.getfield 80, 3) := by decide +kernel
theorem dX8_restore_137 : decode cX8_restore 137 = .ok (.iload_n 1, 1) := by decide +kernel
theorem dX8_restore_138 : decode cX8_restore 138 = .ok (.iaload, 1) := by decide +kernel
theorem dX8_restore_139 : decode cX8_restore 139 = .ok (.iastore, 1) := by decide +kernel
theorem dX8_restore_140 : decode cX8_restore 140 = .ok (.iinc 1 1, 3) := by decide +kernel
theorem dX8_restore_143 : decode cX8_restore 143 = .ok (.goto (-21), 3) := by decide +kernel
theorem dX8_restore_146 : decode cX8_restore 146 = .ok (.aload_n 0, 1) := by decide +kernel
theorem dX8_restore_147 : decode cX8_restore 147 = .ok (.getfield 129, 3) := by decide +kernel
theorem dX8_restore_150 : decode cX8_restore 150 = .ok (.ireturn, 1) := by decide +kernel
set_option maxHeartbeats 4000000 in
set_option maxRecDepth 100000 in
theorem c_X8_restore {l : Launch} {g : GW} {a : AT}  (μ : Mm) (hO : AOK a) (hM : RM μ a)  : Con l g yX8_restore cX8_restore 2 (some .int) 0 [.ref 65] μ (fun r μ' => r = some (.int (fRestore a).1) ∧ RM μ' (fRestore a).2 ∧ FrX μ μ') := by
  obtain ⟨m1, m2, m3, m4, m5, m6, m7, m8, m9, m10, m11, m12, m13⟩ := id hM
  obtain ⟨o1, o2, o3, o4, o5, ⟨s1, s2, s3, s4⟩, oK, o8, o9, o10⟩ := id hO
  have hkp := id m13
  unfold KpM at hkp
  refine Con.of [.ref 65, .null] 1 (by decide +kernel) (Nat.le_of_ble_eq_true rfl) rfl ?_
  refine V_aload_n (pc := 0) dX8_restore_0 rfl rfl ?_
  refine V_getI (pc := 1) (ci := 8) (j := 33) dX8_restore_1 fl_X8_273 (fun _ _ _ _ => rfl) (by decide) rfl ?_
  refine V_ifeq (pc := 4) (tgt := 18) dX8_restore_4 (by decide) (fun h4 => ?_) (fun h4 => ?_)
  · have hkf : aKf a = false := by cases hq : aKf a; rfl; rw [hq, if_pos rfl] at hkp; rw [hkp.1] at h4; exact absurd h4 (by decide)
    refine V_bipush (pc := 18) (v := (-103)) dX8_restore_18 (by decide) ?_
    refine V_iret (pc := 20) dX8_restore_20 rfl ?_
    rw [show fRestore a = (-103, a) from by unfold fRestore; rw [hkf]; rfl]
    exact ⟨rfl, hM, FrX.rf⟩
  refine V_aload_n (pc := 7) dX8_restore_7 rfl rfl ?_
  refine V_getI (pc := 8) (ci := 8) (j := 34) dX8_restore_8 fl_X8_276 (fun _ _ _ _ => rfl) (by decide) rfl ?_
  refine V_aload_n (pc := 11) dX8_restore_11 rfl rfl ?_
  refine V_getI (pc := 12) (ci := 8) (j := 1) dX8_restore_12 fl_X8_126 (fun _ _ _ _ => rfl) (by decide) rfl ?_
  refine V_icmpeq (pc := 15) (tgt := 21) dX8_restore_15 (by decide) (fun h15 => ?_) (fun h15 => ?_)
  · have hkf : aKf a = true := by cases hq : aKf a; rw [hq, if_neg (by decide)] at hkp; rcases hkp with e | ⟨e, m, e2, e3⟩; exact absurd e h4; rw [e3, m2] at h15; exact absurd ((nI_eq (a := m) (b := aNb a) (by omega) (by omega)).mp h15) (by omega); rfl
    rw [if_pos hkf] at hkp
    obtain ⟨k1, k2, k3, k4, k5, k6, k7, k8, k9⟩ := hkp
    obtain ⟨K1, K2, K3, K4⟩ := oK
    refine V_aload_n (pc := 21) dX8_restore_21 rfl rfl ?_
    refine V_aload_n (pc := 22) dX8_restore_22 rfl rfl ?_
    refine V_getI (pc := 23) (ci := 8) (j := 35) dX8_restore_23 fl_X8_279 (fun _ _ _ _ => rfl) (by decide) rfl ?_
    refine V_putI (pc := 26) (ci := 8) (j := 5) dX8_restore_26 fl_X8_129 (fun _ _ _ _ _ => rfl) rfl rfl (by decide) rfl ?_
    refine V_aload_n (pc := 29) dX8_restore_29 rfl rfl ?_
    refine V_aload_n (pc := 30) dX8_restore_30 rfl rfl ?_
    refine V_getI (pc := 31) (ci := 8) (j := 36) dX8_restore_31 fl_X8_282 (fun _ _ _ _ => rfl) (by decide) rfl ?_
    refine V_putI (pc := 34) (ci := 8) (j := 11) dX8_restore_34 fl_X8_132 (fun _ _ _ _ _ => rfl) rfl rfl (by decide) rfl ?_
    refine V_aload_n (pc := 37) dX8_restore_37 rfl rfl ?_
    refine V_aload_n (pc := 38) dX8_restore_38 rfl rfl ?_
    refine V_getI (pc := 39) (ci := 8) (j := 37) dX8_restore_39 fl_X8_285 (fun _ _ _ _ => rfl) (by decide) rfl ?_
    refine V_putI (pc := 42) (ci := 8) (j := 12) dX8_restore_42 fl_X8_135 (fun _ _ _ _ _ => rfl) rfl rfl (by decide) rfl ?_
    refine V_aload_n (pc := 45) dX8_restore_45 rfl rfl ?_
    refine V_aload_n (pc := 46) dX8_restore_46 rfl rfl ?_
    refine V_getI (pc := 47) (ci := 8) (j := 38) dX8_restore_47 fl_X8_288 (fun _ _ _ _ => rfl) (by decide) rfl ?_
    refine V_putI (pc := 50) (ci := 8) (j := 13) dX8_restore_50 fl_X8_138 (fun _ _ _ _ _ => rfl) rfl rfl (by decide) rfl ?_
    refine V_aload_n (pc := 53) dX8_restore_53 rfl rfl ?_
    refine V_iconst (pc := 54) (v := (-1)) dX8_restore_54 (by decide) ?_
    refine V_putI (pc := 55) (ci := 8) (j := 15) dX8_restore_55 fl_X8_34 (fun _ _ _ _ _ => rfl) rfl rfl (by decide) rfl ?_
    refine V_aload_n (pc := 58) dX8_restore_58 rfl rfl ?_
    refine V_iconst (pc := 59) (v := 0) dX8_restore_59 (by decide) ?_
    refine V_putI (pc := 60) (ci := 8) (j := 16) dX8_restore_60 fl_X8_141 (fun _ _ _ _ _ => rfl) rfl rfl (by decide) rfl ?_
    refine V_iconst (pc := 63) (v := 0) dX8_restore_63 (by decide) ?_
    refine V_istore1 (pc := 64) dX8_restore_64 (by decide) rfl ?_
    have loopA : ∀ (nA i : Nat) (μ1 : Mm), i ≤ 6 → 6 < i + nA → (FrJ swP μ μ1) → (RsH μ1 (aKs a)) → (∀ j, j < i → μ1.1 69 j = μ.1 84 j ∧ μ1.1 71 j = μ.1 85 j ∧ μ1.1 72 j = μ.1 86 j ∧ μ1.1 70 j = -1) → (μ1.1 68 = μ.1 68 ∧ μ1.1 74 = μ.1 74) → V l g RX8 cX8_restore 2 (some .int) 0 65 [.ref 65, .int (nI i)] [] μ1 (fun r μ' => r = some (.int (fRestore a).1) ∧ RM μ' (fRestore a).2 ∧ FrX μ μ') := by
      intro nA
      induction nA with
      | zero => intro i μ1 h1 h2; exact absurd h2 (by omega)
      | succ nA ihA =>
        intro i μ1 hleA hfuA hF hH hc hg
        refine V_iload_n (pc := 65) dX8_restore_65 rfl rfl ?_
        refine V_bipush (pc := 66) (v := 6) dX8_restore_66 (by decide) ?_
        refine V_icmpge (pc := 68) (tgt := 120) dX8_restore_68 (by decide) (fun h68 => ?_) (fun h68 => ?_)
        · have h68 := (nI_leI (a := 6) (b := i) (by decide) (by omega)).mp h68; obtain rfl : i = 6 := by omega
          refine V_iconst (pc := 120) (v := 0) dX8_restore_120 (by decide) ?_
          refine V_istore1 (pc := 121) dX8_restore_121 (by decide) rfl ?_
          have loopB : ∀ (nB q : Nat) (μ2 : Mm), q ≤ 40 → 40 < q + nB → (FrJ swP μ μ2) → (RsH μ2 (aKs a)) → (∀ j, j < 6 → μ2.1 69 j = μ.1 84 j ∧ μ2.1 71 j = μ.1 85 j ∧ μ2.1 72 j = μ.1 86 j ∧ μ2.1 70 j = -1) → (μ2.1 68 = μ.1 68 ∧ μ2.1 74 = μ.1 74) → (∀ j, j < q → μ2.1 73 j = μ.1 87 j) → V l g RX8 cX8_restore 2 (some .int) 0 122 [.ref 65, .int (nI q)] [] μ2 (fun r μ' => r = some (.int (fRestore a).1) ∧ RM μ' (fRestore a).2 ∧ FrX μ μ') := by
            intro nB
            induction nB with
            | zero => intro q μ2 h1 h2; exact absurd h2 (by omega)
            | succ nB ihB =>
              intro q μ2 hleB hfuB hF2 hH2 hc2 hg2 hd2
              refine V_iload_n (pc := 122) dX8_restore_122 rfl rfl ?_
              refine V_bipush (pc := 123) (v := 40) dX8_restore_123 (by decide) ?_
              refine V_icmpge (pc := 125) (tgt := 146) dX8_restore_125 (by decide) (fun h125 => ?_) (fun h125 => ?_)
              · have h125 := (nI_leI (a := 40) (b := q) (by decide) (by omega)).mp h125; obtain rfl : q = 40 := by omega
                refine V_aload_n (pc := 146) dX8_restore_146 rfl rfl ?_
                refine V_getI (pc := 147) (ci := 8) (j := 5) dX8_restore_147 fl_X8_129 (fun _ _ _ _ => rfl) (by decide) rfl ?_
                refine V_iret (pc := 150) dX8_restore_150 rfl ?_
                rw [show fRestore a = (nI (sN (aKs a)), setW (setA a (cal0 (aKs a))) false (aWk a) 0 (aWp a)) from if_pos hkf]
                obtain ⟨r5, r11, r12, r13, r15, r16⟩ := hH2
                obtain ⟨f, f1, f2⟩ := k7
                refine ⟨by rw [r5], hM.sw hF2 rfl rfl rfl r5 (fun i hi => ?_) r11 r12 r13 ⟨f, fun j hj => by have hj2 : j < sA (aKs a) := hj; rw [hd2 j (by omega)]; exact f1 j hj2, f2⟩ ⟨?_, by rw [r16]; rfl, fun j hj => by rw [hg2.2]; exact m11.2.2 j hj⟩ (fun _ => ⟨Nat.le_refl _, fun i hi => (k8 i hi).2.2.2⟩), hF2.X swX⟩
                · have hi2 : i < sN (aKs a) := hi
                  obtain ⟨c1, c2, c3, c4⟩ := hc2 i (by omega)
                  obtain ⟨b1, b2, b3, b4⟩ := k8 i hi2
                  unfold ShM
                  rw [c1, c2, c3, c4, hg2.1]
                  exact ⟨by rw [(m6 i (by omega)).1]; exact congrArg nI b4.symm, b1, rfl, b2, b3⟩
                · show if false then _ else _
                  rw [if_neg (by decide)]
                  exact r15
              have hlt : q < 40 := nI_l3 (a := 40) (by decide) (by omega) h125
              refine V_aload_n (pc := 128) dX8_restore_128 rfl rfl ?_
              refine V_getR (pc := 129) (ci := 8) (j := 14) (k2 := 73) dX8_restore_129 fl_X8_31 (fun _ _ _ _ => rfl) (by decide) rfl (rf_8_14 rfl) ?_
              refine V_iload_n (pc := 132) dX8_restore_132 rfl rfl ?_
              refine V_aload_n (pc := 133) dX8_restore_133 rfl rfl ?_
              refine V_getR (pc := 134) (ci := 8) (j := 42) (k2 := 87) dX8_restore_134 fl_X8_80 (fun _ _ _ _ => rfl) (by decide) rfl (rf_8_42 rfl) ?_
              refine V_iload_n (pc := 137) dX8_restore_137 rfl rfl ?_
              refine V_iald (pc := 138) (j := q) dX8_restore_138 (by decide) rfl rfl (by show q < 40; omega) ?_
              refine V_iast (pc := 139) (j := q) dX8_restore_139 (by decide) rfl rfl (by show q < 40; omega) ?_
              refine V_iinc1 (pc := 140) (v := nI (q + 1)) dX8_restore_140 (nI_1 q) (by decide) rfl ?_
              refine V_goto (pc := 143) (tgt := 122) dX8_restore_143 (by decide) ?_
              refine ihB (q + 1) _ (by omega) (by omega) (hF2.set (Or.inl ⟨by omega, by omega⟩)) (hH2.kept (row_set (by decide))) (fun j hj => ?_) ⟨by rw [row_set (by decide)]; exact hg2.1, by rw [row_set (by decide)]; exact hg2.2⟩ (fun j hj => ?_)
              · rw [row_set (by decide), row_set (by decide), row_set (by decide), row_set (by decide)]; exact hc2 j hj
              · by_cases e : j = q
                · subst e
                  rw [get_eq, hF2.row (k := 87) (fun j => by unfold swP; omega)]
                · rw [get_ne (by omega)]; exact hd2 j (by omega)
          exact loopB (40 + 1) 0 _ (by omega) (by omega) hF hH hc hg (fun j hj => absurd hj (by omega))
        have hlt : i < 6 := nI_l3 (a := 6) (by decide) (by omega) h68
        refine V_aload_n (pc := 71) dX8_restore_71 rfl rfl ?_
        refine V_getR (pc := 72) (ci := 8) (j := 7) (k2 := 69) dX8_restore_72 fl_X8_19 (fun _ _ _ _ => rfl) (by decide) rfl (rf_8_7 rfl) ?_
        refine V_iload_n (pc := 75) dX8_restore_75 rfl rfl ?_
        refine V_aload_n (pc := 76) dX8_restore_76 rfl rfl ?_
        refine V_getR (pc := 77) (ci := 8) (j := 39) (k2 := 84) dX8_restore_77 fl_X8_71 (fun _ _ _ _ => rfl) (by decide) rfl (rf_8_39 rfl) ?_
        refine V_iload_n (pc := 80) dX8_restore_80 rfl rfl ?_
        refine V_iald (pc := 81) (j := i) dX8_restore_81 (by decide) rfl rfl (by show i < 6; omega) ?_
        refine V_iast (pc := 82) (j := i) dX8_restore_82 (by decide) rfl rfl (by show i < 6; omega) ?_
        refine V_aload_n (pc := 83) dX8_restore_83 rfl rfl ?_
        refine V_getR (pc := 84) (ci := 8) (j := 9) (k2 := 71) dX8_restore_84 fl_X8_25 (fun _ _ _ _ => rfl) (by decide) rfl (rf_8_9 rfl) ?_
        refine V_iload_n (pc := 87) dX8_restore_87 rfl rfl ?_
        refine V_aload_n (pc := 88) dX8_restore_88 rfl rfl ?_
        refine V_getR (pc := 89) (ci := 8) (j := 40) (k2 := 85) dX8_restore_89 fl_X8_74 (fun _ _ _ _ => rfl) (by decide) rfl (rf_8_40 rfl) ?_
        refine V_iload_n (pc := 92) dX8_restore_92 rfl rfl ?_
        refine V_iald (pc := 93) (j := i) dX8_restore_93 (by decide) rfl rfl (by show i < 6; omega) ?_
        refine V_iast (pc := 94) (j := i) dX8_restore_94 (by decide) rfl rfl (by show i < 6; omega) ?_
        refine V_aload_n (pc := 95) dX8_restore_95 rfl rfl ?_
        refine V_getR (pc := 96) (ci := 8) (j := 10) (k2 := 72) dX8_restore_96 fl_X8_28 (fun _ _ _ _ => rfl) (by decide) rfl (rf_8_10 rfl) ?_
        refine V_iload_n (pc := 99) dX8_restore_99 rfl rfl ?_
        refine V_aload_n (pc := 100) dX8_restore_100 rfl rfl ?_
        refine V_getR (pc := 101) (ci := 8) (j := 41) (k2 := 86) dX8_restore_101 fl_X8_77 (fun _ _ _ _ => rfl) (by decide) rfl (rf_8_41 rfl) ?_
        refine V_iload_n (pc := 104) dX8_restore_104 rfl rfl ?_
        refine V_iald (pc := 105) (j := i) dX8_restore_105 (by decide) rfl rfl (by show i < 6; omega) ?_
        refine V_iast (pc := 106) (j := i) dX8_restore_106 (by decide) rfl rfl (by show i < 6; omega) ?_
        refine V_aload_n (pc := 107) dX8_restore_107 rfl rfl ?_
        refine V_getR (pc := 108) (ci := 8) (j := 8) (k2 := 70) dX8_restore_108 fl_X8_22 (fun _ _ _ _ => rfl) (by decide) rfl (rf_8_8 rfl) ?_
        refine V_iload_n (pc := 111) dX8_restore_111 rfl rfl ?_
        refine V_iconst (pc := 112) (v := (-1)) dX8_restore_112 (by decide) ?_
        refine V_iast (pc := 113) (j := i) dX8_restore_113 (by decide) rfl rfl (by show i < 6; omega) ?_
        refine V_iinc1 (pc := 114) (v := nI (i + 1)) dX8_restore_114 (nI_1 i) (by decide) rfl ?_
        refine V_goto (pc := 117) (tgt := 65) dX8_restore_117 (by decide) ?_
        refine ihA (i + 1) _ (by omega) (by omega) ((((hF.set (Or.inl ⟨by omega, by omega⟩)).set (Or.inl ⟨by omega, by omega⟩)).set (Or.inl ⟨by omega, by omega⟩)).set (Or.inl ⟨by omega, by omega⟩)) (hH.kept (by rw [row_set (by decide), row_set (by decide), row_set (by decide), row_set (by decide)])) (fun j hj => ?_) ⟨by rw [row_set (by decide), row_set (by decide), row_set (by decide), row_set (by decide)]; exact hg.1, by rw [row_set (by decide), row_set (by decide), row_set (by decide), row_set (by decide)]; exact hg.2⟩
        by_cases e : j = i
        · subst e
          simp [get_set, hF.row (k := 84) (fun j => by unfold swP; omega), hF.row (k := 85) (fun j => by unfold swP; omega), hF.row (k := 86) (fun j => by unfold swP; omega)]
        · have q := hc j (by omega)
          simp [get_set, e, q]
    exact loopA (6 + 1) 0 _ (by omega) (by omega) ((((((FrJ.rf.set (Or.inr ⟨rfl, by omega⟩)).set (Or.inr ⟨rfl, by omega⟩)).set (Or.inr ⟨rfl, by omega⟩)).set (Or.inr ⟨rfl, by omega⟩)).set (Or.inr ⟨rfl, by omega⟩)).set (Or.inr ⟨rfl, by omega⟩)) (by unfold RsH; simp [get_set, k3, k4, k5, k6]) (fun j hj => absurd hj (by omega)) ⟨rfl, rfl⟩
  have hkf : aKf a = false := by cases hq : aKf a; rfl; rw [hq, if_pos rfl] at hkp; rw [hkp.2.1, m2] at h15; exact absurd rfl h15
  refine V_bipush (pc := 18) (v := (-103)) dX8_restore_18 (by decide) ?_
  refine V_iret (pc := 20) dX8_restore_20 rfl ?_
  rw [show fRestore a = (-103, a) from by unfold fRestore; rw [hkf]; rfl]
  exact ⟨rfl, hM, FrX.rf⟩
