theorem dX8_behind_0 : decode cX8_behind 0 = .ok (.iload_n 2, 1) := by decide +kernel
theorem dX8_behind_1 : decode cX8_behind 1 = .ok (.bipush 9, 2) := by decide +kernel
theorem dX8_behind_3 : decode cX8_behind 3 = .ok (.if_icmp .eq 8, 3) := by decide +kernel
theorem dX8_behind_6 : decode cX8_behind 6 = .ok (.iload_n 3, 1) := by decide +kernel
theorem dX8_behind_7 : decode cX8_behind 7 = .ok (.iconst 4, 1) := by decide +kernel
theorem dX8_behind_8 : decode cX8_behind 8 = .ok (.if_icmp .ne 5, 3) := by decide +kernel
theorem dX8_behind_11 : decode cX8_behind 11 = .ok (.iload_n 2, 1) := by decide +kernel
theorem dX8_behind_12 : decode cX8_behind 12 = .ok (.ireturn, 1) := by decide +kernel
theorem dX8_behind_13 : decode cX8_behind 13 = .ok (.iload 4, 2) := by decide +kernel
theorem dX8_behind_15 : decode cX8_behind 15 = .ok (.iconst (-1), 1) := by decide +kernel
theorem dX8_behind_16 : decode cX8_behind 16 = .ok (.if_icmp .ne 18, 3) := by decide +kernel
theorem dX8_behind_19 : decode cX8_behind 19 = .ok (.iload_n 3, 1) := by decide +kernel
theorem dX8_behind_20 : decode cX8_behind 20 = .ok (.iconst 2, 1) := by decide +kernel
theorem dX8_behind_21 : decode cX8_behind 21 = .ok (.if_icmp .ge 7, 3) := by decide +kernel
theorem dX8_behind_24 : decode cX8_behind 24 = .ok (.iconst 1, 1) := by decide +kernel
theorem dX8_behind_25 : decode cX8_behind 25 = .ok (.goto 4, 3) := by decide +kernel
theorem dX8_behind_28 : decode cX8_behind 28 = .ok (.iconst (-1), 1) := by decide +kernel
theorem dX8_behind_29 : decode cX8_behind 29 = .ok (.istore 5, 2) := by decide +kernel
theorem dX8_behind_31 : decode cX8_behind 31 = .ok (.goto 61, 3) := by decide +kernel
theorem dX8_behind_34 : decode cX8_behind 34 = .ok (.aload_n 0, 1) := by decide +kernel
theorem dX8_behind_35 : decode cX8_behind 35 = .ok (.getfield 13, 3) := by decide +kernel
theorem dX8_behind_38 : decode cX8_behind 38 = .ok (.iload 4, 2) := by decide +kernel
theorem dX8_behind_40 : decode cX8_behind 40 = .ok (.iaload, 1) := by decide +kernel
theorem dX8_behind_41 : decode cX8_behind 41 = .ok (.iload_n 3, 1) := by decide +kernel
theorem dX8_behind_42 : decode cX8_behind 42 = .ok (.if_icmp .ne 27, 3) := by decide +kernel
theorem dX8_behind_45 : decode cX8_behind 45 = .ok (.iload_n 1, 1) := by decide +kernel
theorem dX8_behind_46 : decode cX8_behind 46 = .ok (.iconst 1, 1) := by decide +kernel
theorem dX8_behind_47 : decode cX8_behind 47 = .ok (.if_icmp .ne 7, 3) := by decide +kernel
theorem dX8_behind_50 : decode cX8_behind 50 = .ok (.iconst 3, 1) := by decide +kernel
theorem dX8_behind_51 : decode cX8_behind 51 = .ok (.goto 13, 3) := by decide +kernel
theorem dX8_behind_54 : decode cX8_behind 54 = .ok (.iload_n 1, 1) := by decide +kernel
theorem dX8_behind_55 : decode cX8_behind 55 = .ok (.iconst 2, 1) := by decide +kernel
theorem dX8_behind_56 : decode cX8_behind 56 = .ok (.if_icmp .ne 7, 3) := by decide +kernel
theorem dX8_behind_59 : decode cX8_behind 59 = .ok (.iconst 1, 1) := by decide +kernel
theorem dX8_behind_60 : decode cX8_behind 60 = .ok (.goto 4, 3) := by decide +kernel
theorem dX8_behind_63 : decode cX8_behind 63 = .ok (.iconst 2, 1) := by decide +kernel
theorem dX8_behind_64 : decode cX8_behind 64 = .ok (.istore 5, 2) := by decide +kernel
theorem dX8_behind_66 : decode cX8_behind 66 = .ok (.goto 26, 3) := by decide +kernel
theorem dX8_behind_69 : decode cX8_behind 69 = .ok (.iload_n 1, 1) := by decide +kernel
theorem dX8_behind_70 : decode cX8_behind 70 = .ok (.iconst 2, 1) := by decide +kernel
theorem dX8_behind_71 : decode cX8_behind 71 = .ok (.if_icmp .eq 13, 3) := by decide +kernel
theorem dX8_behind_74 : decode cX8_behind 74 = .ok (.iload_n 1, 1) := by decide +kernel
theorem dX8_behind_75 : decode cX8_behind 75 = .ok (.iconst 3, 1) := by decide +kernel
theorem dX8_behind_76 : decode cX8_behind 76 = .ok (.if_icmp .eq 8, 3) := by decide +kernel
theorem dX8_behind_79 : decode cX8_behind 79 = .ok (.iload_n 1, 1) := by decide +kernel
theorem dX8_behind_80 : decode cX8_behind 80 = .ok (.iconst 4, 1) := by decide +kernel
theorem dX8_behind_81 : decode cX8_behind 81 = .ok (.if_icmp .ne 7, 3) := by decide +kernel
theorem dX8_behind_84 : decode cX8_behind 84 = .ok (.iconst (-1), 1) := by decide +kernel
theorem dX8_behind_85 : decode cX8_behind 85 = .ok (.goto 5, 3) := by decide +kernel
theorem dX8_behind_88 : decode cX8_behind 88 = .ok (.bipush (-2), 2) := by decide +kernel
theorem dX8_behind_90 : decode cX8_behind 90 = .ok (.istore 5, 2) := by decide +kernel
theorem dX8_behind_92 : decode cX8_behind 92 = .ok (.iload_n 2, 1) := by decide +kernel
theorem dX8_behind_93 : decode cX8_behind 93 = .ok (.iload 5, 2) := by decide +kernel
theorem dX8_behind_95 : decode cX8_behind 95 = .ok (.iadd, 1) := by decide +kernel
theorem dX8_behind_96 : decode cX8_behind 96 = .ok (.istore 6, 2) := by decide +kernel
theorem dX8_behind_98 : decode cX8_behind 98 = .ok (.iload 6, 2) := by decide +kernel
theorem dX8_behind_100 : decode cX8_behind 100 = .ok (.ifCond .ge 7, 3) := by decide +kernel
theorem dX8_behind_103 : decode cX8_behind 103 = .ok (.iconst 0, 1) := by decide +kernel
theorem dX8_behind_104 : decode cX8_behind 104 = .ok (.goto 17, 3) := by decide +kernel
theorem dX8_behind_107 : decode cX8_behind 107 = .ok (.iload 6, 2) := by decide +kernel
theorem dX8_behind_109 : decode cX8_behind 109 = .ok (.bipush 9, 2) := by decide +kernel
theorem dX8_behind_111 : decode cX8_behind 111 = .ok (.if_icmp .le 8, 3) := by decide +kernel
theorem dX8_behind_114 : decode cX8_behind 114 = .ok (.bipush 9, 2) := by decide +kernel
theorem dX8_behind_116 : decode cX8_behind 116 = .ok (.goto 5, 3) := by decide +kernel
theorem dX8_behind_119 : decode cX8_behind 119 = .ok (.iload 6, 2) := by decide +kernel
theorem dX8_behind_121 : decode cX8_behind 121 = .ok (.ireturn, 1) := by decide +kernel
set_option maxHeartbeats 4000000 in
set_option maxRecDepth 100000 in
theorem c_X8_behind {l : Launch} {g : GW} {a : AT} {κ p w k : Nat} (μ : Mm) (hO : AOK a) (hM : RM μ a) (hnb : 0 < aNb a) (hκ : κ ≤ 4) (hp : p ≤ 9) (hw : w ≤ 4) (hk : k ≤ 6) : Con l g yX8_behind cX8_behind 7 (some .int) 0 [.ref 65, .int (nI κ), .int (nI p), .int (nI w), .int (cI k)] μ (fun r μ' => r = some (.int (nI (aft (aOw a) κ p k w))) ∧ μ' = μ) := by
  obtain ⟨m1, m2, m3, m4, m5, m6, m7, m8, m9, m10, m11, m12, m13⟩ := id hM
  obtain ⟨o1, o2, o3, o4, o5, ⟨s1, s2, s3, s4⟩, oK, o8, o9, o10⟩ := id hO
  have hB := m4 hnb
  refine Con.of [.ref 65, .int (nI κ), .int (nI p), .int (nI w), .int (cI k), .null, .null] 2 (by decide +kernel) (Nat.le_of_ble_eq_true rfl) rfl ?_
  refine V_iload_n (pc := 0) dX8_behind_0 rfl rfl ?_
  refine V_bipush (pc := 1) (v := 9) dX8_behind_1 (by decide) ?_
  refine V_icmpeq (pc := 3) (tgt := 11) dX8_behind_3 (by decide) (fun h3 => ?_) (fun h3 => ?_)
  · have h3 := (nI_eq (a := p) (b := 9) (by omega) (by decide)).mp h3; have e0 : aft (aOw a) κ p k w = p := aft9 h3
    refine V_iload_n (pc := 11) dX8_behind_11 rfl rfl ?_
    refine V_iret (pc := 12) dX8_behind_12 rfl ?_
    exact ⟨by rw [e0], rfl⟩
  have h3 := mt (nI_eq (a := p) (b := 9) (by omega) (by omega)).mpr h3
  refine V_iload_n (pc := 6) dX8_behind_6 rfl rfl ?_
  refine V_iconst (pc := 7) (v := 4) dX8_behind_7 (by decide) ?_
  refine V_icmpne (pc := 8) (tgt := 13) dX8_behind_8 (by decide) (fun h8 => ?_) (fun h8 => ?_)
  · have h8 := mt (nI_eq (a := w) (b := 4) (by omega) (by omega)).mpr h8
    have J : ∀ (v : Int32), -2 ≤ v.toInt → v.toInt ≤ 3 → (aft (aOw a) κ p k w : Int) = max 0 (min 9 ((p : Int) + v.toInt)) → V l g RX8 cX8_behind 7 (some .int) 0 92 [.ref 65, .int (nI κ), .int (nI p), .int (nI w), .int (cI k), .int v, .null] [] μ (fun r μ' => r = some (.int (nI (aft (aOw a) κ p k w))) ∧ μ' = μ) := by
      intro v v1 v2 v3
      have hs := add_int hp v1 v2
      have hle : aft (aOw a) κ p k w ≤ 9 := aft_le hp
      refine V_iload_n (pc := 92) dX8_behind_92 rfl rfl ?_
      refine V_iload (pc := 93) dX8_behind_93 rfl ?_
      refine V_iadd (pc := 95) dX8_behind_95 ?_
      refine V_istore6 (pc := 96) dX8_behind_96 (by decide) rfl ?_
      refine V_iload (pc := 98) dX8_behind_98 rfl ?_
      refine V_ifge (pc := 100) (tgt := 107) dX8_behind_100 (by decide) (fun h100 => ?_) (fun h100 => ?_)
      · rw [Int32.le_iff_toInt_le, hs, i0] at h100
        refine V_iload (pc := 107) dX8_behind_107 rfl ?_
        refine V_bipush (pc := 109) (v := 9) dX8_behind_109 (by decide) ?_
        refine V_icmple (pc := 111) (tgt := 119) dX8_behind_111 (by decide) (fun h111 => ?_) (fun h111 => ?_)
        · rw [Int32.le_iff_toInt_le, hs, (show (9 : Int32).toInt = 9 by decide)] at h111
          refine V_iload (pc := 119) dX8_behind_119 rfl ?_
          refine V_iret (pc := 121) dX8_behind_121 rfl ?_
          refine ⟨congrArg (fun z => some (Value.int z)) ?_, rfl⟩
          first
          | (rw [show aft (aOw a) κ p k w = 0 by omega]; rfl)
          | (exact eq_nI (by omega) (by rw [hs]; omega))
          | (rw [show aft (aOw a) κ p k w = 9 by omega]; rfl)
        rw [Int32.le_iff_toInt_le, hs, (show (9 : Int32).toInt = 9 by decide)] at h111
        refine V_bipush (pc := 114) (v := 9) dX8_behind_114 (by decide) ?_
        refine V_goto (pc := 116) (tgt := 121) dX8_behind_116 (by decide) ?_
        refine V_iret (pc := 121) dX8_behind_121 rfl ?_
        refine ⟨congrArg (fun z => some (Value.int z)) ?_, rfl⟩
        first
        | (rw [show aft (aOw a) κ p k w = 0 by omega]; rfl)
        | (exact eq_nI (by omega) (by rw [hs]; omega))
        | (rw [show aft (aOw a) κ p k w = 9 by omega]; rfl)
      rw [Int32.le_iff_toInt_le, hs, i0] at h100
      refine V_iconst (pc := 103) (v := 0) dX8_behind_103 (by decide) ?_
      refine V_goto (pc := 104) (tgt := 121) dX8_behind_104 (by decide) ?_
      refine V_iret (pc := 121) dX8_behind_121 rfl ?_
      refine ⟨congrArg (fun z => some (Value.int z)) ?_, rfl⟩
      first
      | (rw [show aft (aOw a) κ p k w = 0 by omega]; rfl)
      | (exact eq_nI (by omega) (by rw [hs]; omega))
      | (rw [show aft (aOw a) κ p k w = 9 by omega]; rfl)
    refine V_iload (pc := 13) dX8_behind_13 rfl ?_
    refine V_iconst (pc := 15) (v := (-1)) dX8_behind_15 (by decide) ?_
    refine V_icmpne (pc := 16) (tgt := 34) dX8_behind_16 (by decide) (fun h16 => ?_) (fun h16 => ?_)
    · have h16 := mt (cI_m1 (a := k) (by omega)).mpr h16; have hk1 : cI k = nI (k - 1) := by rw [← cI_s, Nat.sub_add_cancel (by omega)]
      refine V_aload_n (pc := 34) dX8_behind_34 rfl rfl ?_
      refine V_getR (pc := 35) (ci := 8) (j := 4) (k2 := 67) dX8_behind_35 fl_X8_13 (fun _ _ _ _ => rfl) (by decide) rfl (rf_8_4 rfl) ?_
      refine V_iload (pc := 38) dX8_behind_38 rfl ?_
      refine V_iald (pc := 40) (j := (k - 1)) dX8_behind_40 (by decide) rfl hk1 (by show k - 1 < 6; omega) ?_
      refine V_iload_n (pc := 41) dX8_behind_41 rfl rfl ?_
      refine V_icmpne (pc := 42) (tgt := 69) dX8_behind_42 (by decide) (fun h42 => ?_) (fun h42 => ?_)
      · rw [hB.2 (k - 1) (by omega), ← cI_s w, cI_eq (by have := o5 (k - 1) (by omega); omega) (by omega)] at h42; have hfv : fav (aOw a) k w = false := by unfold fav; rw [if_neg h16]; simpa using h42
        refine V_iload_n (pc := 69) dX8_behind_69 rfl rfl ?_
        refine V_iconst (pc := 70) (v := 2) dX8_behind_70 (by decide) ?_
        refine V_icmpeq (pc := 71) (tgt := 84) dX8_behind_71 (by decide) (fun h71 => ?_) (fun h71 => ?_)
        · have h71 := (nI_eq (a := κ) (b := 2) (by omega) (by omega)).mp h71; have ht1 : tbK κ = 1 := by rw [h71]; rfl
          have jv1 : -2 ≤ (-1 : Int32).toInt := by decide
          have jv2 : (-1 : Int32).toInt ≤ 3 := by decide
          have jv3 : (aft (aOw a) κ p k w : Int) = max 0 (min 9 ((p : Int) + (-1 : Int32).toInt)) := by
            rw [show (-1 : Int32).toInt = -1 by decide, aft_dn h8 h3 hfv]
            rw [if_neg h16, ht1]; omega
          refine V_iconst (pc := 84) (v := (-1)) dX8_behind_84 (by decide) ?_
          refine V_goto (pc := 85) (tgt := 90) dX8_behind_85 (by decide) ?_
          refine V_istore5 (pc := 90) dX8_behind_90 (by decide) rfl ?_
          exact J _ jv1 jv2 jv3
        have h71 := mt (nI_eq (a := κ) (b := 2) (by omega) (by omega)).mpr h71
        refine V_iload_n (pc := 74) dX8_behind_74 rfl rfl ?_
        refine V_iconst (pc := 75) (v := 3) dX8_behind_75 (by decide) ?_
        refine V_icmpeq (pc := 76) (tgt := 84) dX8_behind_76 (by decide) (fun h76 => ?_) (fun h76 => ?_)
        · have h76 := (nI_eq (a := κ) (b := 3) (by omega) (by omega)).mp h76; have ht1 : tbK κ = 1 := by rw [h76]; rfl
          have jv1 : -2 ≤ (-1 : Int32).toInt := by decide
          have jv2 : (-1 : Int32).toInt ≤ 3 := by decide
          have jv3 : (aft (aOw a) κ p k w : Int) = max 0 (min 9 ((p : Int) + (-1 : Int32).toInt)) := by
            rw [show (-1 : Int32).toInt = -1 by decide, aft_dn h8 h3 hfv]
            rw [if_neg h16, ht1]; omega
          refine V_iconst (pc := 84) (v := (-1)) dX8_behind_84 (by decide) ?_
          refine V_goto (pc := 85) (tgt := 90) dX8_behind_85 (by decide) ?_
          refine V_istore5 (pc := 90) dX8_behind_90 (by decide) rfl ?_
          exact J _ jv1 jv2 jv3
        have h76 := mt (nI_eq (a := κ) (b := 3) (by omega) (by omega)).mpr h76
        refine V_iload_n (pc := 79) dX8_behind_79 rfl rfl ?_
        refine V_iconst (pc := 80) (v := 4) dX8_behind_80 (by decide) ?_
        refine V_icmpne (pc := 81) (tgt := 88) dX8_behind_81 (by decide) (fun h81 => ?_) (fun h81 => ?_)
        · have h81 := mt (nI_eq (a := κ) (b := 4) (by omega) (by omega)).mpr h81
          have jv1 : -2 ≤ (-2 : Int32).toInt := by decide
          have jv2 : (-2 : Int32).toInt ≤ 3 := by decide
          have jv3 : (aft (aOw a) κ p k w : Int) = max 0 (min 9 ((p : Int) + (-2 : Int32).toInt)) := by
            rw [show (-2 : Int32).toInt = -2 by decide, aft_dn h8 h3 hfv]
            rw [if_neg h16, show tbK κ = 2 from by rcases (show κ = 0 ∨ κ = 1 by omega) with e | e <;> rw [e] <;> rfl]; omega
          refine V_bipush (pc := 88) (v := (-2)) dX8_behind_88 (by decide) ?_
          refine V_istore5 (pc := 90) dX8_behind_90 (by decide) rfl ?_
          exact J _ jv1 jv2 jv3
        have h81 := (nI_eq (a := κ) (b := 4) (by omega) (by omega)).mp h81; have ht1 : tbK κ = 1 := by rw [h81]; rfl
        have jv1 : -2 ≤ (-1 : Int32).toInt := by decide
        have jv2 : (-1 : Int32).toInt ≤ 3 := by decide
        have jv3 : (aft (aOw a) κ p k w : Int) = max 0 (min 9 ((p : Int) + (-1 : Int32).toInt)) := by
          rw [show (-1 : Int32).toInt = -1 by decide, aft_dn h8 h3 hfv]
          rw [if_neg h16, ht1]; omega
        refine V_iconst (pc := 84) (v := (-1)) dX8_behind_84 (by decide) ?_
        refine V_goto (pc := 85) (tgt := 90) dX8_behind_85 (by decide) ?_
        refine V_istore5 (pc := 90) dX8_behind_90 (by decide) rfl ?_
        exact J _ jv1 jv2 jv3
      rw [hB.2 (k - 1) (by omega), ← cI_s w, cI_eq (by have := o5 (k - 1) (by omega); omega) (by omega)] at h42; have hfv : fav (aOw a) k w = true := by unfold fav; rw [if_neg h16]; simpa using h42
      refine V_iload_n (pc := 45) dX8_behind_45 rfl rfl ?_
      refine V_iconst (pc := 46) (v := 1) dX8_behind_46 (by decide) ?_
      refine V_icmpne (pc := 47) (tgt := 54) dX8_behind_47 (by decide) (fun h47 => ?_) (fun h47 => ?_)
      · have h47 := mt (nI_eq (a := κ) (b := 1) (by omega) (by omega)).mpr h47
        refine V_iload_n (pc := 54) dX8_behind_54 rfl rfl ?_
        refine V_iconst (pc := 55) (v := 2) dX8_behind_55 (by decide) ?_
        refine V_icmpne (pc := 56) (tgt := 63) dX8_behind_56 (by decide) (fun h56 => ?_) (fun h56 => ?_)
        · have h56 := mt (nI_eq (a := κ) (b := 2) (by omega) (by omega)).mpr h56
          have jv1 : -2 ≤ (2 : Int32).toInt := by decide
          have jv2 : (2 : Int32).toInt ≤ 3 := by decide
          have jv3 : (aft (aOw a) κ p k w : Int) = max 0 (min 9 ((p : Int) + (2 : Int32).toInt)) := by
            rw [show (2 : Int32).toInt = 2 by decide, aft_up h8 hfv]
            rw [if_neg h16, show sbK κ = 2 from by rcases (show κ = 0 ∨ κ = 3 ∨ κ = 4 by omega) with e | e | e <;> rw [e] <;> rfl]; omega
          refine V_iconst (pc := 63) (v := 2) dX8_behind_63 (by decide) ?_
          refine V_istore5 (pc := 64) dX8_behind_64 (by decide) rfl ?_
          refine V_goto (pc := 66) (tgt := 92) dX8_behind_66 (by decide) ?_
          exact J _ jv1 jv2 jv3
        have h56 := (nI_eq (a := κ) (b := 2) (by omega) (by omega)).mp h56
        have jv1 : -2 ≤ (1 : Int32).toInt := by decide
        have jv2 : (1 : Int32).toInt ≤ 3 := by decide
        have jv3 : (aft (aOw a) κ p k w : Int) = max 0 (min 9 ((p : Int) + (1 : Int32).toInt)) := by
          rw [show (1 : Int32).toInt = 1 by decide, aft_up h8 hfv]
          rw [if_neg h16, h56, show sbK 2 = 1 from rfl]; omega
        refine V_iconst (pc := 59) (v := 1) dX8_behind_59 (by decide) ?_
        refine V_goto (pc := 60) (tgt := 64) dX8_behind_60 (by decide) ?_
        refine V_istore5 (pc := 64) dX8_behind_64 (by decide) rfl ?_
        refine V_goto (pc := 66) (tgt := 92) dX8_behind_66 (by decide) ?_
        exact J _ jv1 jv2 jv3
      have h47 := (nI_eq (a := κ) (b := 1) (by omega) (by omega)).mp h47
      have jv1 : -2 ≤ (3 : Int32).toInt := by decide
      have jv2 : (3 : Int32).toInt ≤ 3 := by decide
      have jv3 : (aft (aOw a) κ p k w : Int) = max 0 (min 9 ((p : Int) + (3 : Int32).toInt)) := by
        rw [show (3 : Int32).toInt = 3 by decide, aft_up h8 hfv]
        rw [if_neg h16, h47, show sbK 1 = 3 from rfl]; omega
      refine V_iconst (pc := 50) (v := 3) dX8_behind_50 (by decide) ?_
      refine V_goto (pc := 51) (tgt := 64) dX8_behind_51 (by decide) ?_
      refine V_istore5 (pc := 64) dX8_behind_64 (by decide) rfl ?_
      refine V_goto (pc := 66) (tgt := 92) dX8_behind_66 (by decide) ?_
      exact J _ jv1 jv2 jv3
    have h16 := (cI_m1 (a := k) (by omega)).mp h16
    refine V_iload_n (pc := 19) dX8_behind_19 rfl rfl ?_
    refine V_iconst (pc := 20) (v := 2) dX8_behind_20 (by decide) ?_
    refine V_icmpge (pc := 21) (tgt := 28) dX8_behind_21 (by decide) (fun h21 => ?_) (fun h21 => ?_)
    · have h21 := (nI_leI (a := 2) (b := w) (by decide) (by omega)).mp h21
      have jv1 : -2 ≤ (-1 : Int32).toInt := by decide
      have jv2 : (-1 : Int32).toInt ≤ 3 := by decide
      have jv3 : (aft (aOw a) κ p k w : Int) = max 0 (min 9 ((p : Int) + (-1 : Int32).toInt)) := by
        rw [show (-1 : Int32).toInt = -1 by decide, aft_dn h8 h3 (show fav (aOw a) k w = false from by unfold fav; rw [if_pos h16]; rcases (show w = 2 ∨ w = 3 by omega) with e | e <;> rw [e] <;> rfl)]
        rw [if_pos h16]; omega
      refine V_iconst (pc := 28) (v := (-1)) dX8_behind_28 (by decide) ?_
      refine V_istore5 (pc := 29) dX8_behind_29 (by decide) rfl ?_
      refine V_goto (pc := 31) (tgt := 92) dX8_behind_31 (by decide) ?_
      exact J _ jv1 jv2 jv3
    have h21 := mt (nI_leI (a := 2) (b := w) (by decide) (by omega)).mpr h21
    have jv1 : -2 ≤ (1 : Int32).toInt := by decide
    have jv2 : (1 : Int32).toInt ≤ 3 := by decide
    have jv3 : (aft (aOw a) κ p k w : Int) = max 0 (min 9 ((p : Int) + (1 : Int32).toInt)) := by
      rw [show (1 : Int32).toInt = 1 by decide, aft_up h8 (show fav (aOw a) k w = true from by unfold fav; rw [if_pos h16]; rcases (show w = 0 ∨ w = 1 by omega) with e | e <;> rw [e] <;> rfl)]
      rw [if_pos h16]; omega
    refine V_iconst (pc := 24) (v := 1) dX8_behind_24 (by decide) ?_
    refine V_goto (pc := 25) (tgt := 29) dX8_behind_25 (by decide) ?_
    refine V_istore5 (pc := 29) dX8_behind_29 (by decide) rfl ?_
    refine V_goto (pc := 31) (tgt := 92) dX8_behind_31 (by decide) ?_
    exact J _ jv1 jv2 jv3
  have h8 := (nI_eq (a := w) (b := 4) (by omega) (by decide)).mp h8; have e0 : aft (aOw a) κ p k w = p := if_pos h8
  refine V_iload_n (pc := 11) dX8_behind_11 rfl rfl ?_
  refine V_iret (pc := 12) dX8_behind_12 rfl ?_
  exact ⟨by rw [e0], rfl⟩
theorem dX8_guessNow_0 : decode cX8_guessNow 0 = .ok (.bipush 31, 2) := by decide +kernel
theorem dX8_guessNow_2 : decode cX8_guessNow 2 = .ok (.istore_n 2, 1) := by decide +kernel
theorem dX8_guessNow_3 : decode cX8_guessNow 3 = .ok (.iconst 0, 1) := by decide +kernel
theorem dX8_guessNow_4 : decode cX8_guessNow 4 = .ok (.istore_n 3, 1) := by decide +kernel
theorem dX8_guessNow_5 : decode cX8_guessNow 5 = .ok (.iload_n 3, 1) := by decide +kernel
theorem dX8_guessNow_6 : decode cX8_guessNow 6 = .ok (.aload_n 0, 1) := by decide +kernel
theorem dX8_guessNow_7 : decode cX8_guessNow 7 = .ok (.getfield 138, 3) := by decide +kernel
theorem dX8_guessNow_10 : decode cX8_guessNow 10 = .ok (.if_icmp .ge 63, 3) := by decide +kernel
theorem dX8_guessNow_13 : decode cX8_guessNow 13 = .ok (.aload_n 0, 1) := by decide +kernel
theorem dX8_guessNow_14 : decode cX8_guessNow 14 = .ok (.getfield 31, 3) := by decide +kernel
theorem dX8_guessNow_17 : decode cX8_guessNow 17 = .ok (.iload_n 3, 1) := by decide +kernel
theorem dX8_guessNow_18 : decode cX8_guessNow 18 = .ok (.iaload, 1) := by decide +kernel
theorem dX8_guessNow_19 : decode cX8_guessNow 19 = .ok (.bipush 8, 2) := by decide +kernel
theorem dX8_guessNow_21 : decode cX8_guessNow 21 = .ok (.idiv, 1) := by decide +kernel
theorem dX8_guessNow_22 : decode cX8_guessNow 22 = .ok (.bipush 8, 2) := by decide +kernel
theorem dX8_guessNow_24 : decode cX8_guessNow 24 = .ok (.irem, 1) := by decide +kernel
theorem dX8_guessNow_25 : decode cX8_guessNow 25 = .ok (.istore 4, 2) := by decide +kernel
theorem dX8_guessNow_27 : decode cX8_guessNow 27 = .ok (.aload_n 0, 1) := by decide +kernel
theorem dX8_guessNow_28 : decode cX8_guessNow 28 = .ok (.getfield 31, 3) := by decide +kernel
theorem dX8_guessNow_31 : decode cX8_guessNow 31 = .ok (.iload_n 3, 1) := by decide +kernel
theorem dX8_guessNow_32 : decode cX8_guessNow 32 = .ok (.iaload, 1) := by decide +kernel
theorem dX8_guessNow_33 : decode cX8_guessNow 33 = .ok (.bipush 8, 2) := by decide +kernel
theorem dX8_guessNow_35 : decode cX8_guessNow 35 = .ok (.irem, 1) := by decide +kernel
theorem dX8_guessNow_36 : decode cX8_guessNow 36 = .ok (.iload_n 1, 1) := by decide +kernel
theorem dX8_guessNow_37 : decode cX8_guessNow 37 = .ok (.if_icmp .ne 30, 3) := by decide +kernel
theorem dX8_guessNow_40 : decode cX8_guessNow 40 = .ok (.iload_n 2, 1) := by decide +kernel
theorem dX8_guessNow_41 : decode cX8_guessNow 41 = .ok (.aload_n 0, 1) := by decide +kernel
theorem dX8_guessNow_42 : decode cX8_guessNow 42 = .ok (.getfield 31, 3) := by decide +kernel
theorem dX8_guessNow_45 : decode cX8_guessNow 45 = .ok (.iload_n 3, 1) := by decide +kernel
theorem dX8_guessNow_46 : decode cX8_guessNow 46 = .ok (.iaload, 1) := by decide +kernel
theorem dX8_guessNow_47 : decode cX8_guessNow 47 = .ok (.bipush 63, 2) := by decide +kernel
theorem dX8_guessNow_49 : decode cX8_guessNow 49 = .ok (.if_icmp .le 10, 3) := by decide +kernel
theorem dX8_guessNow_52 : decode cX8_guessNow 52 = .ok (.iconst 1, 1) := by decide +kernel
theorem dX8_guessNow_53 : decode cX8_guessNow 53 = .ok (.iload 4, 2) := by decide +kernel
theorem dX8_guessNow_55 : decode cX8_guessNow 55 = .ok (.ishl, 1) := by decide +kernel
theorem dX8_guessNow_56 : decode cX8_guessNow 56 = .ok (.goto 9, 3) := by decide +kernel
theorem dX8_guessNow_59 : decode cX8_guessNow 59 = .ok (.iconst 1, 1) := by decide +kernel
theorem dX8_guessNow_60 : decode cX8_guessNow 60 = .ok (.iload 4, 2) := by decide +kernel
theorem dX8_guessNow_62 : decode cX8_guessNow 62 = .ok (.ishl, 1) := by decide +kernel
theorem dX8_guessNow_63 : decode cX8_guessNow 63 = .ok (.iconst (-1), 1) := by decide +kernel
theorem dX8_guessNow_64 : decode cX8_guessNow 64 = .ok (.ixor, 1) := by decide +kernel
theorem dX8_guessNow_65 : decode cX8_guessNow 65 = .ok (.iand, 1) := by decide +kernel
theorem dX8_guessNow_66 : decode cX8_guessNow 66 = .ok (.istore_n 2, 1) := by decide +kernel
theorem dX8_guessNow_67 : decode cX8_guessNow 67 = .ok (.iinc 3 1, 3) := by decide +kernel
theorem dX8_guessNow_70 : decode cX8_guessNow 70 = .ok (.goto (-65), 3) := by decide +kernel
theorem dX8_guessNow_73 : decode cX8_guessNow 73 = .ok (.iload_n 2, 1) := by decide +kernel
theorem dX8_guessNow_74 : decode cX8_guessNow 74 = .ok (.ireturn, 1) := by decide +kernel
set_option maxHeartbeats 4000000 in
set_option maxRecDepth 100000 in
theorem c_X8_guessNow {l : Launch} {g : GW} {a : AT} {n : Nat} (μ : Mm) (hO : AOK a) (hM : RM μ a) (hn : n < 6) : Con l g yX8_guessNow cX8_guessNow 5 (some .int) 0 [.ref 65, .int (nI n)] μ (fun r μ' => r = some (.int (sG (aS a) n)) ∧ μ' = μ) := by
  obtain ⟨m1, m2, m3, m4, m5, m6, m7, m8, m9, m10, m11, m12, m13⟩ := id hM
  obtain ⟨o1, o2, o3, o4, o5, ⟨s1, s2, s3, s4⟩, oK, o8, o9, o10⟩ := id hO
  obtain ⟨f, f1, f2⟩ := m10
  refine Con.of [.ref 65, .int (nI n), .null, .null, .null] 3 (by decide +kernel) (Nat.le_of_ble_eq_true rfl) rfl ?_
  refine V_bipush (pc := 0) (v := 31) dX8_guessNow_0 (by decide) ?_
  refine V_istore2 (pc := 2) dX8_guessNow_2 (by decide) rfl ?_
  refine V_iconst (pc := 3) (v := 0) dX8_guessNow_3 (by decide) ?_
  refine V_istore3 (pc := 4) dX8_guessNow_4 (by decide) rfl ?_
  have loopA : ∀ (nA i : Nat) (acc : Int32) (y4 : Value), i ≤ sA (aS a) → sA (aS a) < i + nA → (acc = gsF f n i) → V l g RX8 cX8_guessNow 5 (some .int) 0 5 [.ref 65, .int (nI n), .int acc, .int (nI i), y4] [] μ (fun r μ' => r = some (.int (sG (aS a) n)) ∧ μ' = μ) := by
    intro nA
    induction nA with
    | zero => intro i acc y4 h1 h2; exact absurd h2 (by omega)
    | succ nA ihA =>
      intro i acc y4 hleA hfuA hacc
      refine V_iload_n (pc := 5) dX8_guessNow_5 rfl rfl ?_
      refine V_aload_n (pc := 6) dX8_guessNow_6 rfl rfl ?_
      refine V_getI (pc := 7) (ci := 8) (j := 13) dX8_guessNow_7 fl_X8_138 (fun _ _ _ _ => rfl) (by decide) rfl ?_
      refine V_icmpge (pc := 10) (tgt := 73) dX8_guessNow_10 (by decide) (fun h10 => ?_) (fun h10 => ?_)
      · rw [m9, nI_leI (by omega) (by omega)] at h10; obtain rfl : i = sA (aS a) := by omega
        refine V_iload_n (pc := 73) dX8_guessNow_73 rfl rfl ?_
        refine V_iret (pc := 74) dX8_guessNow_74 rfl ?_
        exact ⟨by rw [hacc, f2 n hn], rfl⟩
      rw [m9, nI_leI (by omega) (by omega)] at h10; have hlt : i < sA (aS a) := (by omega); obtain ⟨g1, g2, g3, g4⟩ := f1 i hlt
      refine V_aload_n (pc := 13) dX8_guessNow_13 rfl rfl ?_
      refine V_getR (pc := 14) (ci := 8) (j := 14) (k2 := 73) dX8_guessNow_14 fl_X8_31 (fun _ _ _ _ => rfl) (by decide) rfl (rf_8_14 rfl) ?_
      refine V_iload_n (pc := 17) dX8_guessNow_17 rfl rfl ?_
      refine V_iald (pc := 18) (j := i) dX8_guessNow_18 (by decide) rfl rfl (by show i < 40; omega) ?_
      rw [g1]
      refine V_bipush (pc := 19) (v := 8) dX8_guessNow_19 (by decide) ?_
      refine V_idiv (pc := 21) dX8_guessNow_21 (by decide) ?_
      rw [show nI (f i) / (8 : Int32) = nI (f i / 8) from pk_div (d := 8) (by omega) (by decide) (by decide)]
      refine V_bipush (pc := 22) (v := 8) dX8_guessNow_22 (by decide) ?_
      refine V_irem (pc := 24) dX8_guessNow_24 (by decide) ?_
      rw [show nI (f i / 8) - nI (f i / 8) / (8 : Int32) * (8 : Int32) = nI (f i / 8 % 8) from pk_rem (d := 8) (by omega) (by decide) (by decide)]
      refine V_istore4 (pc := 25) dX8_guessNow_25 (by decide) rfl ?_
      refine V_aload_n (pc := 27) dX8_guessNow_27 rfl rfl ?_
      refine V_getR (pc := 28) (ci := 8) (j := 14) (k2 := 73) dX8_guessNow_28 fl_X8_31 (fun _ _ _ _ => rfl) (by decide) rfl (rf_8_14 rfl) ?_
      refine V_iload_n (pc := 31) dX8_guessNow_31 rfl rfl ?_
      refine V_iald (pc := 32) (j := i) dX8_guessNow_32 (by decide) rfl rfl (by show i < 40; omega) ?_
      rw [g1]
      refine V_bipush (pc := 33) (v := 8) dX8_guessNow_33 (by decide) ?_
      refine V_irem (pc := 35) dX8_guessNow_35 (by decide) ?_
      rw [show nI (f i) - nI (f i) / (8 : Int32) * (8 : Int32) = nI (f i % 8) from pk_rem (d := 8) (by omega) (by decide) (by decide)]
      refine V_iload_n (pc := 36) dX8_guessNow_36 rfl rfl ?_
      refine V_icmpne (pc := 37) (tgt := 67) dX8_guessNow_37 (by decide) (fun h37 => ?_) (fun h37 => ?_)
      · have h37 := mt (nI_eq (a := f i % 8) (b := n) (by omega) (by omega)).mpr h37
        have hnext : ∀ z, z = gsF f n (i + 1) → V l g RX8 cX8_guessNow 5 (some .int) 0 67 [.ref 65, .int (nI n), .int z, .int (nI i), .int (nI (f i / 8 % 8))] [] μ (fun r μ' => r = some (.int (sG (aS a) n)) ∧ μ' = μ) := by
          intro z hz
          refine V_iinc3 (pc := 67) (v := nI (i + 1)) dX8_guessNow_67 (nI_1 i) (by decide) rfl ?_
          refine V_goto (pc := 70) (tgt := 5) dX8_guessNow_70 (by decide) ?_
          exact ihA (i + 1) _ _ (by omega) (by omega) hz
        first
        | (refine hnext _ ?_; show _ = (if f i % 8 = n then gsF f n i &&& msk (decide (63 < f i)) (f i / 8 % 8) else gsF f n i);  rw [if_neg h37, hacc]; done)
        | (refine hnext _ ?_; show _ = (if f i % 8 = n then gsF f n i &&& msk (decide (63 < f i)) (f i / 8 % 8) else gsF f n i);  rw [if_pos h37, hacc, decide_eq_true (by omega : 63 < f i)]; rfl)
        | (refine hnext _ ?_; show _ = (if f i % 8 = n then gsF f n i &&& msk (decide (63 < f i)) (f i / 8 % 8) else gsF f n i);  rw [if_pos h37, hacc, decide_eq_false (by omega : ¬ 63 < f i)]; rfl)
      have h37 := (nI_eq (a := f i % 8) (b := n) (by omega) (by omega)).mp h37
      refine V_iload_n (pc := 40) dX8_guessNow_40 rfl rfl ?_
      refine V_aload_n (pc := 41) dX8_guessNow_41 rfl rfl ?_
      refine V_getR (pc := 42) (ci := 8) (j := 14) (k2 := 73) dX8_guessNow_42 fl_X8_31 (fun _ _ _ _ => rfl) (by decide) rfl (rf_8_14 rfl) ?_
      refine V_iload_n (pc := 45) dX8_guessNow_45 rfl rfl ?_
      refine V_iald (pc := 46) (j := i) dX8_guessNow_46 (by decide) rfl rfl (by show i < 40; omega) ?_
      rw [g1]
      refine V_bipush (pc := 47) (v := 63) dX8_guessNow_47 (by decide) ?_
      refine V_icmple (pc := 49) (tgt := 59) dX8_guessNow_49 (by decide) (fun h49 => ?_) (fun h49 => ?_)
      · have h49 := (nI_leI (a := f i) (b := 63) (by omega) (by decide)).mp h49
        refine V_iconst (pc := 59) (v := 1) dX8_guessNow_59 (by decide) ?_
        refine V_iload (pc := 60) dX8_guessNow_60 rfl ?_
        refine V_ishl (pc := 62) dX8_guessNow_62 ?_
        refine V_iconst (pc := 63) (v := (-1)) dX8_guessNow_63 (by decide) ?_
        refine V_ixor (pc := 64) dX8_guessNow_64 ?_
        refine V_iand (pc := 65) dX8_guessNow_65 ?_
        refine V_istore2 (pc := 66) dX8_guessNow_66 (by decide) rfl ?_
        have hnext : ∀ z, z = gsF f n (i + 1) → V l g RX8 cX8_guessNow 5 (some .int) 0 67 [.ref 65, .int (nI n), .int z, .int (nI i), .int (nI (f i / 8 % 8))] [] μ (fun r μ' => r = some (.int (sG (aS a) n)) ∧ μ' = μ) := by
          intro z hz
          refine V_iinc3 (pc := 67) (v := nI (i + 1)) dX8_guessNow_67 (nI_1 i) (by decide) rfl ?_
          refine V_goto (pc := 70) (tgt := 5) dX8_guessNow_70 (by decide) ?_
          exact ihA (i + 1) _ _ (by omega) (by omega) hz
        first
        | (refine hnext _ ?_; show _ = (if f i % 8 = n then gsF f n i &&& msk (decide (63 < f i)) (f i / 8 % 8) else gsF f n i);  rw [if_neg h37, hacc]; done)
        | (refine hnext _ ?_; show _ = (if f i % 8 = n then gsF f n i &&& msk (decide (63 < f i)) (f i / 8 % 8) else gsF f n i);  rw [if_pos h37, hacc, decide_eq_true (by omega : 63 < f i)]; rfl)
        | (refine hnext _ ?_; show _ = (if f i % 8 = n then gsF f n i &&& msk (decide (63 < f i)) (f i / 8 % 8) else gsF f n i);  rw [if_pos h37, hacc, decide_eq_false (by omega : ¬ 63 < f i)]; rfl)
      have h49 := mt (nI_leI (a := f i) (b := 63) (by omega) (by decide)).mpr h49
      refine V_iconst (pc := 52) (v := 1) dX8_guessNow_52 (by decide) ?_
      refine V_iload (pc := 53) dX8_guessNow_53 rfl ?_
      refine V_ishl (pc := 55) dX8_guessNow_55 ?_
      refine V_goto (pc := 56) (tgt := 65) dX8_guessNow_56 (by decide) ?_
      refine V_iand (pc := 65) dX8_guessNow_65 ?_
      refine V_istore2 (pc := 66) dX8_guessNow_66 (by decide) rfl ?_
      have hnext : ∀ z, z = gsF f n (i + 1) → V l g RX8 cX8_guessNow 5 (some .int) 0 67 [.ref 65, .int (nI n), .int z, .int (nI i), .int (nI (f i / 8 % 8))] [] μ (fun r μ' => r = some (.int (sG (aS a) n)) ∧ μ' = μ) := by
        intro z hz
        refine V_iinc3 (pc := 67) (v := nI (i + 1)) dX8_guessNow_67 (nI_1 i) (by decide) rfl ?_
        refine V_goto (pc := 70) (tgt := 5) dX8_guessNow_70 (by decide) ?_
        exact ihA (i + 1) _ _ (by omega) (by omega) hz
      first
      | (refine hnext _ ?_; show _ = (if f i % 8 = n then gsF f n i &&& msk (decide (63 < f i)) (f i / 8 % 8) else gsF f n i);  rw [if_neg h37, hacc]; done)
      | (refine hnext _ ?_; show _ = (if f i % 8 = n then gsF f n i &&& msk (decide (63 < f i)) (f i / 8 % 8) else gsF f n i);  rw [if_pos h37, hacc, decide_eq_true (by omega : 63 < f i)]; rfl)
      | (refine hnext _ ?_; show _ = (if f i % 8 = n then gsF f n i &&& msk (decide (63 < f i)) (f i / 8 % 8) else gsF f n i);  rw [if_pos h37, hacc, decide_eq_false (by omega : ¬ 63 < f i)]; rfl)
  exact loopA (sA (aS a) + 1) 0 _ _ (by omega) (by omega) rfl
theorem dX8_guess_0 : decode cX8_guess 0 = .ok (.iload_n 1, 1) := by decide +kernel
theorem dX8_guess_1 : decode cX8_guess 1 = .ok (.invokestatic 144, 3) := by decide +kernel
theorem dX8_guess_4 : decode cX8_guess 4 = .ok (.ifCond .eq 11, 3) := by decide +kernel
theorem dX8_guess_7 : decode cX8_guess 7 = .ok (.aload_n 0, 1) := by decide +kernel
theorem dX8_guess_8 : decode cX8_guess 8 = .ok (.iload_n 1, 1) := by decide +kernel
theorem dX8_guess_9 : decode cX8_guess 9 = .ok (.invokevirtual 237, 3) := by decide +kernel
theorem dX8_guess_12 : decode cX8_guess 12 = .ok (.goto 5, 3) := by decide +kernel
theorem dX8_guess_15 : decode cX8_guess 15 = .ok (.bipush (-101), 2) := by decide +kernel
theorem dX8_guess_17 : decode cX8_guess 17 = .ok (.ireturn, 1) := by decide +kernel
set_option maxHeartbeats 4000000 in
set_option maxRecDepth 100000 in
theorem c_X8_guess {l : Launch} {g : GW} {a : AT} {x : Int32} (μ : Mm) (hO : AOK a) (hM : RM μ a)  : Con l g yX8_guess cX8_guess 2 (some .int) 2 [.ref 65, .int x] μ (fun r μ' => r = some (.int (fGuess a x)) ∧ μ' = μ) := by
  obtain ⟨m1, m2, m3, m4, m5, m6, m7, m8, m9, m10, m11, m12, m13⟩ := id hM
  obtain ⟨o1, o2, o3, o4, o5, ⟨s1, s2, s3, s4⟩, oK, o8, o9, o10⟩ := id hO
  refine Con.of [.ref 65, .int x] 0 (by decide +kernel) (Nat.le_of_ble_eq_true rfl) rfl ?_
  refine V_iload_n (pc := 0) dX8_guess_0 rfl rfl ?_
  refine V_ins1 (pc := 1) dX8_guess_1 ml_X8_144 (by first | decide | omega) (Nat.le_of_ble_eq_true rfl) (c_X8_isName μ) ?_
  rintro _ μ2 ⟨rfl, hμ⟩
  obtain rfl := hμ.symm
  refine V_ifeq (pc := 4) (tgt := 15) dX8_guess_4 (by decide) (fun h4 => ?_) (fun h4 => ?_)
  · have h4 := bI_e h4
    refine V_bipush (pc := 15) (v := (-101)) dX8_guess_15 (by decide) ?_
    refine V_iret (pc := 17) dX8_guess_17 rfl ?_
    refine ⟨congrArg (fun z => some (Value.int z)) ?_, rfl⟩
    first
    | (simp only [fGuess, h4, nn_nI (j := i) (by omega), if_true])
    | (simp [fGuess, h4]; done)
  have h4 := bI_ne h4; obtain ⟨i, hi, rfl⟩ := inN_of (by decide) h4
  refine V_aload_n (pc := 7) dX8_guess_7 rfl rfl ?_
  refine V_iload_n (pc := 8) dX8_guess_8 rfl rfl ?_
  refine V_inv1 (pc := 9) (ci := 8) dX8_guess_9 ml_X8_237 (by decide) rfl ⟨by decide, rfl⟩ (by first | decide | omega) (Nat.le_of_ble_eq_true rfl) (c_X8_guessNow μ hO hM hi) ?_
  rintro _ μ2 ⟨rfl, hμ⟩
  obtain rfl := hμ.symm
  refine V_goto (pc := 12) (tgt := 17) dX8_guess_12 (by decide) ?_
  refine V_iret (pc := 17) dX8_guess_17 rfl ?_
  refine ⟨congrArg (fun z => some (Value.int z)) ?_, rfl⟩
  first
  | (simp only [fGuess, h4, nn_nI (j := i) (by omega), if_true])
  | (simp [fGuess, h4]; done)
