theorem dX8_tellsNow_0 : decode cX8_tellsNow 0 = .ok (.iconst (-1), 1) := by decide +kernel
theorem dX8_tellsNow_1 : decode cX8_tellsNow 1 = .ok (.istore_n 1, 1) := by decide +kernel
theorem dX8_tellsNow_2 : decode cX8_tellsNow 2 = .ok (.iconst (-1), 1) := by decide +kernel
theorem dX8_tellsNow_3 : decode cX8_tellsNow 3 = .ok (.istore_n 2, 1) := by decide +kernel
theorem dX8_tellsNow_4 : decode cX8_tellsNow 4 = .ok (.iconst 0, 1) := by decide +kernel
theorem dX8_tellsNow_5 : decode cX8_tellsNow 5 = .ok (.istore_n 3, 1) := by decide +kernel
theorem dX8_tellsNow_6 : decode cX8_tellsNow 6 = .ok (.iload_n 3, 1) := by decide +kernel
theorem dX8_tellsNow_7 : decode cX8_tellsNow 7 = .ok (.iconst 3, 1) := by decide +kernel
theorem dX8_tellsNow_8 : decode cX8_tellsNow 8 = .ok (.if_icmp .ge 76, 3) := by decide +kernel
theorem dX8_tellsNow_11 : decode cX8_tellsNow 11 = .ok (.iconst 0, 1) := by decide +kernel
theorem dX8_tellsNow_12 : decode cX8_tellsNow 12 = .ok (.istore 4, 2) := by decide +kernel
theorem dX8_tellsNow_14 : decode cX8_tellsNow 14 = .ok (.iload 4, 2) := by decide +kernel
theorem dX8_tellsNow_16 : decode cX8_tellsNow 16 = .ok (.iconst 4, 1) := by decide +kernel
theorem dX8_tellsNow_17 : decode cX8_tellsNow 17 = .ok (.if_icmp .gt 61, 3) := by decide +kernel
theorem dX8_tellsNow_20 : decode cX8_tellsNow 20 = .ok (.aload_n 0, 1) := by decide +kernel
theorem dX8_tellsNow_21 : decode cX8_tellsNow 21 = .ok (.getfield 7, 3) := by decide +kernel
theorem dX8_tellsNow_24 : decode cX8_tellsNow 24 = .ok (.iconst 3, 1) := by decide +kernel
theorem dX8_tellsNow_25 : decode cX8_tellsNow 25 = .ok (.iload 4, 2) := by decide +kernel
theorem dX8_tellsNow_27 : decode cX8_tellsNow 27 = .ok (.imul, 1) := by decide +kernel
theorem dX8_tellsNow_28 : decode cX8_tellsNow 28 = .ok (.iload_n 3, 1) := by decide +kernel
theorem dX8_tellsNow_29 : decode cX8_tellsNow 29 = .ok (.iadd, 1) := by decide +kernel
theorem dX8_tellsNow_30 : decode cX8_tellsNow 30 = .ok (.iaload, 1) := by decide +kernel
theorem dX8_tellsNow_31 : decode cX8_tellsNow 31 = .ok (.iload_n 2, 1) := by decide +kernel
theorem dX8_tellsNow_32 : decode cX8_tellsNow 32 = .ok (.if_icmp .le 7, 3) := by decide +kernel
theorem dX8_tellsNow_35 : decode cX8_tellsNow 35 = .ok (.iload_n 3, 1) := by decide +kernel
theorem dX8_tellsNow_36 : decode cX8_tellsNow 36 = .ok (.goto 4, 3) := by decide +kernel
theorem dX8_tellsNow_39 : decode cX8_tellsNow 39 = .ok (.iload_n 1, 1) := by decide +kernel
theorem dX8_tellsNow_40 : decode cX8_tellsNow 40 = .ok (.istore_n 1, 1) := by decide +kernel
theorem dX8_tellsNow_41 : decode cX8_tellsNow 41 = .ok (.aload_n 0, 1) := by decide +kernel
theorem dX8_tellsNow_42 : decode cX8_tellsNow 42 = .ok (.getfield 7, 3) := by decide +kernel
theorem dX8_tellsNow_45 : decode cX8_tellsNow 45 = .ok (.iconst 3, 1) := by decide +kernel
theorem dX8_tellsNow_46 : decode cX8_tellsNow 46 = .ok (.iload 4, 2) := by decide +kernel
theorem dX8_tellsNow_48 : decode cX8_tellsNow 48 = .ok (.imul, 1) := by decide +kernel
theorem dX8_tellsNow_49 : decode cX8_tellsNow 49 = .ok (.iload_n 3, 1) := by decide +kernel
theorem dX8_tellsNow_50 : decode cX8_tellsNow 50 = .ok (.iadd, 1) := by decide +kernel
theorem dX8_tellsNow_51 : decode cX8_tellsNow 51 = .ok (.iaload, 1) := by decide +kernel
theorem dX8_tellsNow_52 : decode cX8_tellsNow 52 = .ok (.iload_n 2, 1) := by decide +kernel
theorem dX8_tellsNow_53 : decode cX8_tellsNow 53 = .ok (.if_icmp .le 17, 3) := by decide +kernel
theorem dX8_tellsNow_56 : decode cX8_tellsNow 56 = .ok (.aload_n 0, 1) := by decide +kernel
theorem dX8_tellsNow_57 : decode cX8_tellsNow 57 = .ok (.getfield 7, 3) := by decide +kernel
theorem dX8_tellsNow_60 : decode cX8_tellsNow 60 = .ok (.iconst 3, 1) := by decide +kernel
theorem dX8_tellsNow_61 : decode cX8_tellsNow 61 = .ok (.iload 4, 2) := by decide +kernel
theorem dX8_tellsNow_63 : decode cX8_tellsNow 63 = .ok (.imul, 1) := by decide +kernel
theorem dX8_tellsNow_64 : decode cX8_tellsNow 64 = .ok (.iload_n 3, 1) := by decide +kernel
theorem dX8_tellsNow_65 : decode cX8_tellsNow 65 = .ok (.iadd, 1) := by decide +kernel
theorem dX8_tellsNow_66 : decode cX8_tellsNow 66 = .ok (.iaload, 1) := by decide +kernel
theorem dX8_tellsNow_67 : decode cX8_tellsNow 67 = .ok (.goto 4, 3) := by decide +kernel
theorem dX8_tellsNow_70 : decode cX8_tellsNow 70 = .ok (.iload_n 2, 1) := by decide +kernel
theorem dX8_tellsNow_71 : decode cX8_tellsNow 71 = .ok (.istore_n 2, 1) := by decide +kernel
theorem dX8_tellsNow_72 : decode cX8_tellsNow 72 = .ok (.iinc 4 1, 3) := by decide +kernel
theorem dX8_tellsNow_75 : decode cX8_tellsNow 75 = .ok (.goto (-61), 3) := by decide +kernel
theorem dX8_tellsNow_78 : decode cX8_tellsNow 78 = .ok (.iinc 3 1, 3) := by decide +kernel
theorem dX8_tellsNow_81 : decode cX8_tellsNow 81 = .ok (.goto (-75), 3) := by decide +kernel
theorem dX8_tellsNow_84 : decode cX8_tellsNow 84 = .ok (.iload_n 1, 1) := by decide +kernel
theorem dX8_tellsNow_85 : decode cX8_tellsNow 85 = .ok (.ireturn, 1) := by decide +kernel
set_option maxHeartbeats 4000000 in
set_option maxRecDepth 100000 in
theorem c_X8_tellsNow {l : Launch} {g : GW} {a : AT}  (μ : Mm) (hO : AOK a) (hM : RM μ a) (hnb : 0 < aNb a) : Con l g yX8_tellsNow cX8_tellsNow 5 (some .int) 0 [.ref 65] μ (fun r μ' => r = some (.int (nI (tellT (aTn a) 3))) ∧ μ' = μ) := by
  obtain ⟨m1, m2, m3, m4, m5, m6, m7, m8, m9, m10, m11, m12, m13⟩ := id hM
  obtain ⟨o1, o2, o3, o4, o5, ⟨s1, s2, s3, s4⟩, oK, o8, o9, o10⟩ := id hO
  have hB := m4 hnb
  refine Con.of [.ref 65, .null, .null, .null, .null] 4 (by decide +kernel) (Nat.le_of_ble_eq_true rfl) rfl ?_
  refine V_iconst (pc := 0) (v := (-1)) dX8_tellsNow_0 (by decide) ?_
  refine V_istore1 (pc := 1) dX8_tellsNow_1 (by decide) rfl ?_
  refine V_iconst (pc := 2) (v := (-1)) dX8_tellsNow_2 (by decide) ?_
  refine V_istore2 (pc := 3) dX8_tellsNow_3 (by decide) rfl ?_
  refine V_iconst (pc := 4) (v := 0) dX8_tellsNow_4 (by decide) ?_
  refine V_istore3 (pc := 5) dX8_tellsNow_5 (by decide) rfl ?_
  have loopA : ∀ (nA s : Nat) (b m : Nat) (y4 : Value), s ≤ 3 → 3 < s + nA → ((b, m) = ttO (aTn a) s) → V l g RX8 cX8_tellsNow 5 (some .int) 0 6 [.ref 65, .int (cI b), .int (cI m), .int (nI s), y4] [] μ (fun r μ' => r = some (.int (nI (tellT (aTn a) 3))) ∧ μ' = μ) := by
    intro nA
    induction nA with
    | zero => intro s b m y4 h1 h2; exact absurd h2 (by omega)
    | succ nA ihA =>
      intro s b m y4 hleA hfuA hb
      refine V_iload_n (pc := 6) dX8_tellsNow_6 rfl rfl ?_
      refine V_iconst (pc := 7) (v := 3) dX8_tellsNow_7 (by decide) ?_
      refine V_icmpge (pc := 8) (tgt := 84) dX8_tellsNow_8 (by decide) (fun h8 => ?_) (fun h8 => ?_)
      · have h8 := (nI_leI (a := 3) (b := s) (by decide) (by omega)).mp h8; obtain rfl : s = 3 := by omega
        refine V_iload_n (pc := 84) dX8_tellsNow_84 rfl rfl ?_
        refine V_iret (pc := 85) dX8_tellsNow_85 rfl ?_
        rw [ttO_tell _ 3 (by decide)] at hb
        obtain rfl : b = tellT (aTn a) 3 + 1 := congrArg Prod.fst hb
        exact ⟨by rw [cI_s], rfl⟩
      have hlt : s < 3 := nI_l3 (a := 3) (by decide) (by omega) h8
      refine V_iconst (pc := 11) (v := 0) dX8_tellsNow_11 (by decide) ?_
      refine V_istore4 (pc := 12) dX8_tellsNow_12 (by decide) rfl ?_
      have loopB : ∀ (nB w : Nat) (b m : Nat), w ≤ 5 → 5 < w + nB → ((b, m) = ttI (aTn a) s (ttO (aTn a) s) w) → V l g RX8 cX8_tellsNow 5 (some .int) 0 14 [.ref 65, .int (cI b), .int (cI m), .int (nI s), .int (nI w)] [] μ (fun r μ' => r = some (.int (nI (tellT (aTn a) 3))) ∧ μ' = μ) := by
        intro nB
        induction nB with
        | zero => intro w b m h1 h2; exact absurd h2 (by omega)
        | succ nB ihB =>
          intro w b m hleB hfuB hc
          refine V_iload (pc := 14) dX8_tellsNow_14 rfl ?_
          refine V_iconst (pc := 16) (v := 4) dX8_tellsNow_16 (by decide) ?_
          refine V_icmpgt (pc := 17) (tgt := 78) dX8_tellsNow_17 (by decide) (fun h17 => ?_) (fun h17 => ?_)
          · have h17 := (nI_ltI (a := 4) (b := w) (by decide) (by omega)).mp h17; obtain rfl : w = 5 := by omega
            refine V_iinc3 (pc := 78) (v := nI (s + 1)) dX8_tellsNow_78 (nI_1 s) (by decide) rfl ?_
            refine V_goto (pc := 81) (tgt := 6) dX8_tellsNow_81 (by decide) ?_
            exact ihA (s + 1) b m _ (by omega) (by omega) hc
          have hlt2 : w < 5 := by have := mt (nI_ltI (a := 4) (b := w) (by decide) (by omega)).mpr h17; omega
          have hbd : b ≤ 3 ∧ m ≤ 11 := by
            have e := ttI_le (ttO_le (tn := aTn a) (fun w s hw hs => o4.le hw hs) s (by omega)) hlt (fun w hw => o4.le hw hlt) w (by omega)
            rw [← hc] at e
            exact e
          have ht := o4.le hlt2 hlt
          have hst : ttI (aTn a) s (ttO (aTn a) s) (w + 1) = (let r := ttI (aTn a) s (ttO (aTn a) s) w; if r.2 < aTn a w s + 1 then (s + 1, aTn a w s + 1) else r) := rfl
          rw [← hc] at hst
          refine V_aload_n (pc := 20) dX8_tellsNow_20 rfl rfl ?_
          refine V_getR (pc := 21) (ci := 8) (j := 3) (k2 := 66) dX8_tellsNow_21 fl_X8_7 (fun _ _ _ _ => rfl) (by decide) rfl (rf_8_3 rfl) ?_
          refine V_iconst (pc := 24) (v := 3) dX8_tellsNow_24 (by decide) ?_
          refine V_iload (pc := 25) dX8_tellsNow_25 rfl ?_
          refine V_imul (pc := 27) dX8_tellsNow_27 ?_
          refine V_iload_n (pc := 28) dX8_tellsNow_28 rfl rfl ?_
          refine V_iadd (pc := 29) dX8_tellsNow_29 ?_
          refine V_iald (pc := 30) (j := (3 * w + s)) dX8_tellsNow_30 (by decide) rfl (by rw [show (3 : Int32) = nI 3 from rfl, pk_mul, nI_add]) (by show 3 * w + s < 15; omega) ?_
          rw [hB.1 w s hlt2 hlt]
          refine V_iload_n (pc := 31) dX8_tellsNow_31 rfl rfl ?_
          refine V_icmple (pc := 32) (tgt := 39) dX8_tellsNow_32 (by decide) (fun h32 => ?_) (fun h32 => ?_)
          · rw [leC (by omega) (by omega)] at h32
            refine V_iload_n (pc := 39) dX8_tellsNow_39 rfl rfl ?_
            refine V_istore1 (pc := 40) dX8_tellsNow_40 (by decide) rfl ?_
            refine V_aload_n (pc := 41) dX8_tellsNow_41 rfl rfl ?_
            refine V_getR (pc := 42) (ci := 8) (j := 3) (k2 := 66) dX8_tellsNow_42 fl_X8_7 (fun _ _ _ _ => rfl) (by decide) rfl (rf_8_3 rfl) ?_
            refine V_iconst (pc := 45) (v := 3) dX8_tellsNow_45 (by decide) ?_
            refine V_iload (pc := 46) dX8_tellsNow_46 rfl ?_
            refine V_imul (pc := 48) dX8_tellsNow_48 ?_
            refine V_iload_n (pc := 49) dX8_tellsNow_49 rfl rfl ?_
            refine V_iadd (pc := 50) dX8_tellsNow_50 ?_
            refine V_iald (pc := 51) (j := (3 * w + s)) dX8_tellsNow_51 (by decide) rfl (by rw [show (3 : Int32) = nI 3 from rfl, pk_mul, nI_add]) (by show 3 * w + s < 15; omega) ?_
            rw [hB.1 w s hlt2 hlt]
            refine V_iload_n (pc := 52) dX8_tellsNow_52 rfl rfl ?_
            refine V_icmple (pc := 53) (tgt := 70) dX8_tellsNow_53 (by decide) (fun h53 => ?_) (fun h53 => ?_)
            · rw [leC (by omega) (by omega)] at h53
              refine V_iload_n (pc := 70) dX8_tellsNow_70 rfl rfl ?_
              refine V_istore2 (pc := 71) dX8_tellsNow_71 (by decide) rfl ?_
              refine V_iinc4 (pc := 72) (v := nI (w + 1)) dX8_tellsNow_72 (nI_1 w) (by decide) rfl ?_
              refine V_goto (pc := 75) (tgt := 14) dX8_tellsNow_75 (by decide) ?_
              first
              | exact absurd h53 h32
              | exact absurd h32 h53
              | (refine ihB (w + 1) b m (by omega) (by omega) ?_; rw [hst]; exact (if_neg (by omega : ¬ m < aTn a w s + 1)).symm)
              | (have hz := ihB (w + 1) (s + 1) (aTn a w s + 1) (by omega) (by omega) (by rw [hst]; exact (if_pos (by omega : m < aTn a w s + 1)).symm); rw [cI_s, cI_s] at hz; exact hz)
            rw [leC (by omega) (by omega)] at h53
            refine V_aload_n (pc := 56) dX8_tellsNow_56 rfl rfl ?_
            refine V_getR (pc := 57) (ci := 8) (j := 3) (k2 := 66) dX8_tellsNow_57 fl_X8_7 (fun _ _ _ _ => rfl) (by decide) rfl (rf_8_3 rfl) ?_
            refine V_iconst (pc := 60) (v := 3) dX8_tellsNow_60 (by decide) ?_
            refine V_iload (pc := 61) dX8_tellsNow_61 rfl ?_
            refine V_imul (pc := 63) dX8_tellsNow_63 ?_
            refine V_iload_n (pc := 64) dX8_tellsNow_64 rfl rfl ?_
            refine V_iadd (pc := 65) dX8_tellsNow_65 ?_
            refine V_iald (pc := 66) (j := (3 * w + s)) dX8_tellsNow_66 (by decide) rfl (by rw [show (3 : Int32) = nI 3 from rfl, pk_mul, nI_add]) (by show 3 * w + s < 15; omega) ?_
            rw [hB.1 w s hlt2 hlt]
            refine V_goto (pc := 67) (tgt := 71) dX8_tellsNow_67 (by decide) ?_
            refine V_istore2 (pc := 71) dX8_tellsNow_71 (by decide) rfl ?_
            refine V_iinc4 (pc := 72) (v := nI (w + 1)) dX8_tellsNow_72 (nI_1 w) (by decide) rfl ?_
            refine V_goto (pc := 75) (tgt := 14) dX8_tellsNow_75 (by decide) ?_
            first
            | exact absurd h53 h32
            | exact absurd h32 h53
            | (refine ihB (w + 1) b m (by omega) (by omega) ?_; rw [hst]; exact (if_neg (by omega : ¬ m < aTn a w s + 1)).symm)
            | (have hz := ihB (w + 1) (s + 1) (aTn a w s + 1) (by omega) (by omega) (by rw [hst]; exact (if_pos (by omega : m < aTn a w s + 1)).symm); rw [cI_s, cI_s] at hz; exact hz)
          rw [leC (by omega) (by omega)] at h32
          refine V_iload_n (pc := 35) dX8_tellsNow_35 rfl rfl ?_
          refine V_goto (pc := 36) (tgt := 40) dX8_tellsNow_36 (by decide) ?_
          refine V_istore1 (pc := 40) dX8_tellsNow_40 (by decide) rfl ?_
          refine V_aload_n (pc := 41) dX8_tellsNow_41 rfl rfl ?_
          refine V_getR (pc := 42) (ci := 8) (j := 3) (k2 := 66) dX8_tellsNow_42 fl_X8_7 (fun _ _ _ _ => rfl) (by decide) rfl (rf_8_3 rfl) ?_
          refine V_iconst (pc := 45) (v := 3) dX8_tellsNow_45 (by decide) ?_
          refine V_iload (pc := 46) dX8_tellsNow_46 rfl ?_
          refine V_imul (pc := 48) dX8_tellsNow_48 ?_
          refine V_iload_n (pc := 49) dX8_tellsNow_49 rfl rfl ?_
          refine V_iadd (pc := 50) dX8_tellsNow_50 ?_
          refine V_iald (pc := 51) (j := (3 * w + s)) dX8_tellsNow_51 (by decide) rfl (by rw [show (3 : Int32) = nI 3 from rfl, pk_mul, nI_add]) (by show 3 * w + s < 15; omega) ?_
          rw [hB.1 w s hlt2 hlt]
          refine V_iload_n (pc := 52) dX8_tellsNow_52 rfl rfl ?_
          refine V_icmple (pc := 53) (tgt := 70) dX8_tellsNow_53 (by decide) (fun h53 => ?_) (fun h53 => ?_)
          · rw [leC (by omega) (by omega)] at h53
            refine V_iload_n (pc := 70) dX8_tellsNow_70 rfl rfl ?_
            refine V_istore2 (pc := 71) dX8_tellsNow_71 (by decide) rfl ?_
            refine V_iinc4 (pc := 72) (v := nI (w + 1)) dX8_tellsNow_72 (nI_1 w) (by decide) rfl ?_
            refine V_goto (pc := 75) (tgt := 14) dX8_tellsNow_75 (by decide) ?_
            first
            | exact absurd h53 h32
            | exact absurd h32 h53
            | (refine ihB (w + 1) b m (by omega) (by omega) ?_; rw [hst]; exact (if_neg (by omega : ¬ m < aTn a w s + 1)).symm)
            | (have hz := ihB (w + 1) (s + 1) (aTn a w s + 1) (by omega) (by omega) (by rw [hst]; exact (if_pos (by omega : m < aTn a w s + 1)).symm); rw [cI_s, cI_s] at hz; exact hz)
          rw [leC (by omega) (by omega)] at h53
          refine V_aload_n (pc := 56) dX8_tellsNow_56 rfl rfl ?_
          refine V_getR (pc := 57) (ci := 8) (j := 3) (k2 := 66) dX8_tellsNow_57 fl_X8_7 (fun _ _ _ _ => rfl) (by decide) rfl (rf_8_3 rfl) ?_
          refine V_iconst (pc := 60) (v := 3) dX8_tellsNow_60 (by decide) ?_
          refine V_iload (pc := 61) dX8_tellsNow_61 rfl ?_
          refine V_imul (pc := 63) dX8_tellsNow_63 ?_
          refine V_iload_n (pc := 64) dX8_tellsNow_64 rfl rfl ?_
          refine V_iadd (pc := 65) dX8_tellsNow_65 ?_
          refine V_iald (pc := 66) (j := (3 * w + s)) dX8_tellsNow_66 (by decide) rfl (by rw [show (3 : Int32) = nI 3 from rfl, pk_mul, nI_add]) (by show 3 * w + s < 15; omega) ?_
          rw [hB.1 w s hlt2 hlt]
          refine V_goto (pc := 67) (tgt := 71) dX8_tellsNow_67 (by decide) ?_
          refine V_istore2 (pc := 71) dX8_tellsNow_71 (by decide) rfl ?_
          refine V_iinc4 (pc := 72) (v := nI (w + 1)) dX8_tellsNow_72 (nI_1 w) (by decide) rfl ?_
          refine V_goto (pc := 75) (tgt := 14) dX8_tellsNow_75 (by decide) ?_
          first
          | exact absurd h53 h32
          | exact absurd h32 h53
          | (refine ihB (w + 1) b m (by omega) (by omega) ?_; rw [hst]; exact (if_neg (by omega : ¬ m < aTn a w s + 1)).symm)
          | (have hz := ihB (w + 1) (s + 1) (aTn a w s + 1) (by omega) (by omega) (by rw [hst]; exact (if_pos (by omega : m < aTn a w s + 1)).symm); rw [cI_s, cI_s] at hz; exact hz)
      exact loopB (5 + 1) 0 b m (by omega) (by omega) hb
  exact loopA (3 + 1) 0 0 0 _ (by omega) (by omega) rfl
theorem dX8_tells_0 : decode cX8_tells 0 = .ok (.aload_n 0, 1) := by decide +kernel
theorem dX8_tells_1 : decode cX8_tells 1 = .ok (.getfield 123, 3) := by decide +kernel
theorem dX8_tells_4 : decode cX8_tells 4 = .ok (.ifCond .eq 10, 3) := by decide +kernel
theorem dX8_tells_7 : decode cX8_tells 7 = .ok (.aload_n 0, 1) := by decide +kernel
theorem dX8_tells_8 : decode cX8_tells 8 = .ok (.invokevirtual 231, 3) := by decide +kernel
theorem dX8_tells_11 : decode cX8_tells 11 = .ok (.goto 5, 3) := by decide +kernel
theorem dX8_tells_14 : decode cX8_tells 14 = .ok (.bipush (-103), 2) := by decide +kernel
theorem dX8_tells_16 : decode cX8_tells 16 = .ok (.ireturn, 1) := by decide +kernel
set_option maxHeartbeats 4000000 in
set_option maxRecDepth 100000 in
theorem c_X8_tells {l : Launch} {g : GW} {a : AT}  (μ : Mm) (hO : AOK a) (hM : RM μ a)  : Con l g yX8_tells cX8_tells 1 (some .int) 1 [.ref 65] μ (fun r μ' => r = some (.int (fTells a)) ∧ μ' = μ) := by
  obtain ⟨m1, m2, m3, m4, m5, m6, m7, m8, m9, m10, m11, m12, m13⟩ := id hM
  obtain ⟨o1, o2, o3, o4, o5, ⟨s1, s2, s3, s4⟩, oK, o8, o9, o10⟩ := id hO
  refine Con.of [.ref 65] 0 (by decide +kernel) (Nat.le_of_ble_eq_true rfl) rfl ?_
  refine V_aload_n (pc := 0) dX8_tells_0 rfl rfl ?_
  refine V_getI (pc := 1) (ci := 8) (j := 0) dX8_tells_1 fl_X8_123 (fun _ _ _ _ => rfl) (by decide) rfl ?_
  rw [m1]
  refine V_ifeq (pc := 4) (tgt := 14) dX8_tells_4 (by decide) (fun h4 => ?_) (fun h4 => ?_)
  · have h4 := of_decide_eq_false (bI_e h4)
    refine V_bipush (pc := 14) (v := (-103)) dX8_tells_14 (by decide) ?_
    refine V_iret (pc := 16) dX8_tells_16 rfl ?_
    refine ⟨congrArg (fun z => some (Value.int z)) ?_, rfl⟩
    first
    | (rw [fTells, if_pos h4]; done)
    | (rw [fTells, if_neg h4]; done)
  have h4 := of_decide_eq_true (bI_ne h4)
  refine V_aload_n (pc := 7) dX8_tells_7 rfl rfl ?_
  refine V_inv0 (pc := 8) (ci := 8) dX8_tells_8 ml_X8_231 (by decide) rfl ⟨by decide, rfl⟩ (by first | decide | omega) (Nat.le_of_ble_eq_true rfl) (c_X8_tellsNow μ hO hM h4) ?_
  rintro _ μ2 ⟨rfl, hμ⟩
  obtain rfl := hμ.symm
  refine V_goto (pc := 11) (tgt := 16) dX8_tells_11 (by decide) ?_
  refine V_iret (pc := 16) dX8_tells_16 rfl ?_
  refine ⟨congrArg (fun z => some (Value.int z)) ?_, rfl⟩
  first
  | (rw [fTells, if_pos h4]; done)
  | (rw [fTells, if_neg h4]; done)
theorem dX8_sureBy_0 : decode cX8_sureBy 0 = .ok (.iconst 1, 1) := by decide +kernel
theorem dX8_sureBy_1 : decode cX8_sureBy 1 = .ok (.istore 7, 2) := by decide +kernel
theorem dX8_sureBy_3 : decode cX8_sureBy 3 = .ok (.iconst 0, 1) := by decide +kernel
theorem dX8_sureBy_4 : decode cX8_sureBy 4 = .ok (.istore 8, 2) := by decide +kernel
theorem dX8_sureBy_6 : decode cX8_sureBy 6 = .ok (.iload 8, 2) := by decide +kernel
theorem dX8_sureBy_8 : decode cX8_sureBy 8 = .ok (.iconst 4, 1) := by decide +kernel
theorem dX8_sureBy_9 : decode cX8_sureBy 9 = .ok (.if_icmp .gt 68, 3) := by decide +kernel
theorem dX8_sureBy_12 : decode cX8_sureBy 12 = .ok (.iload 7, 2) := by decide +kernel
theorem dX8_sureBy_14 : decode cX8_sureBy 14 = .ok (.ifCond .eq 54, 3) := by decide +kernel
theorem dX8_sureBy_17 : decode cX8_sureBy 17 = .ok (.aload_n 0, 1) := by decide +kernel
theorem dX8_sureBy_18 : decode cX8_sureBy 18 = .ok (.getfield 7, 3) := by decide +kernel
theorem dX8_sureBy_21 : decode cX8_sureBy 21 = .ok (.iconst 3, 1) := by decide +kernel
theorem dX8_sureBy_22 : decode cX8_sureBy 22 = .ok (.iload 8, 2) := by decide +kernel
theorem dX8_sureBy_24 : decode cX8_sureBy 24 = .ok (.imul, 1) := by decide +kernel
theorem dX8_sureBy_25 : decode cX8_sureBy 25 = .ok (.iload 5, 2) := by decide +kernel
theorem dX8_sureBy_27 : decode cX8_sureBy 27 = .ok (.iadd, 1) := by decide +kernel
theorem dX8_sureBy_28 : decode cX8_sureBy 28 = .ok (.iaload, 1) := by decide +kernel
theorem dX8_sureBy_29 : decode cX8_sureBy 29 = .ok (.ifCond .eq 35, 3) := by decide +kernel
theorem dX8_sureBy_32 : decode cX8_sureBy 32 = .ok (.aload_n 0, 1) := by decide +kernel
theorem dX8_sureBy_33 : decode cX8_sureBy 33 = .ok (.getfield 55, 3) := by decide +kernel
theorem dX8_sureBy_36 : decode cX8_sureBy 36 = .ok (.iload_n 2, 1) := by decide +kernel
theorem dX8_sureBy_37 : decode cX8_sureBy 37 = .ok (.iconst 1, 1) := by decide +kernel
theorem dX8_sureBy_38 : decode cX8_sureBy 38 = .ok (.isub, 1) := by decide +kernel
theorem dX8_sureBy_39 : decode cX8_sureBy 39 = .ok (.iload_n 1, 1) := by decide +kernel
theorem dX8_sureBy_40 : decode cX8_sureBy 40 = .ok (.iload_n 3, 1) := by decide +kernel
theorem dX8_sureBy_41 : decode cX8_sureBy 41 = .ok (.iload 6, 2) := by decide +kernel
theorem dX8_sureBy_43 : decode cX8_sureBy 43 = .ok (.invokestatic 178, 3) := by decide +kernel
theorem dX8_sureBy_46 : decode cX8_sureBy 46 = .ok (.aload_n 0, 1) := by decide +kernel
theorem dX8_sureBy_47 : decode cX8_sureBy 47 = .ok (.iload_n 1, 1) := by decide +kernel
theorem dX8_sureBy_48 : decode cX8_sureBy 48 = .ok (.iload 4, 2) := by decide +kernel
theorem dX8_sureBy_50 : decode cX8_sureBy 50 = .ok (.iload 8, 2) := by decide +kernel
theorem dX8_sureBy_52 : decode cX8_sureBy 52 = .ok (.iload 6, 2) := by decide +kernel
theorem dX8_sureBy_54 : decode cX8_sureBy 54 = .ok (.invokevirtual 166, 3) := by decide +kernel
theorem dX8_sureBy_57 : decode cX8_sureBy 57 = .ok (.invokestatic 182, 3) := by decide +kernel
theorem dX8_sureBy_60 : decode cX8_sureBy 60 = .ok (.baload, 1) := by decide +kernel
theorem dX8_sureBy_61 : decode cX8_sureBy 61 = .ok (.ifCond .eq 7, 3) := by decide +kernel
theorem dX8_sureBy_64 : decode cX8_sureBy 64 = .ok (.iconst 1, 1) := by decide +kernel
theorem dX8_sureBy_65 : decode cX8_sureBy 65 = .ok (.goto 4, 3) := by decide +kernel
theorem dX8_sureBy_68 : decode cX8_sureBy 68 = .ok (.iconst 0, 1) := by decide +kernel
theorem dX8_sureBy_69 : decode cX8_sureBy 69 = .ok (.istore 7, 2) := by decide +kernel
theorem dX8_sureBy_71 : decode cX8_sureBy 71 = .ok (.iinc 8 1, 3) := by decide +kernel
theorem dX8_sureBy_74 : decode cX8_sureBy 74 = .ok (.goto (-68), 3) := by decide +kernel
theorem dX8_sureBy_77 : decode cX8_sureBy 77 = .ok (.iload 7, 2) := by decide +kernel
theorem dX8_sureBy_79 : decode cX8_sureBy 79 = .ok (.ireturn, 1) := by decide +kernel
set_option maxHeartbeats 4000000 in
set_option maxRecDepth 100000 in
theorem c_X8_sureBy {l : Launch} {g : GW} {a : AT} {κ d S p s k : Nat} (μ : Mm) (hO : AOK a) (hM : RM μ a) (hnb : 0 < aNb a) (hκ : κ ≤ 4) (hd : d + 1 ≤ 4) (hS : S < 64) (hp : p ≤ 9) (hL : ChZ μ (aTn a) (aOw a) κ d) (hs : s < 3) (hk : k ≤ 6) : Con l g yX8_sureBy cX8_sureBy 9 (some .boolean) 1 [.ref 65, .int (nI κ), .int (nI (d + 1)), .int (nI S), .int (nI p), .int (nI s), .int (cI k)] μ (fun r μ' => r = some (.int (bI (decide (woT (aTn a) (aOw a) κ (chT (aTn a) (aOw a) κ d) p (63 - S) s k = 10 * 30 ^ d)))) ∧ μ' = μ) := by
  obtain ⟨m1, m2, m3, m4, m5, m6, m7, m8, m9, m10, m11, m12, m13⟩ := id hM
  obtain ⟨o1, o2, o3, o4, o5, ⟨s1, s2, s3, s4⟩, oK, o8, o9, o10⟩ := id hO
  have hcl : ∀ p F, chT (aTn a) (aOw a) κ d p F ≤ 30 ^ d := fun p F => chT_le (ow := aOw a) (κ := κ) o4 d p F
  have hB := m4 hnb
  refine Con.of [.ref 65, .int (nI κ), .int (nI (d + 1)), .int (nI S), .int (nI p), .int (nI s), .int (cI k), .null, .null] 2 (by decide +kernel) (Nat.le_of_ble_eq_true rfl) rfl ?_
  refine V_iconst (pc := 0) (v := 1) dX8_sureBy_0 (by decide) ?_
  refine V_istore7 (pc := 1) dX8_sureBy_1 (by decide) rfl ?_
  refine V_iconst (pc := 3) (v := 0) dX8_sureBy_3 (by decide) ?_
  refine V_istore8 (pc := 4) dX8_sureBy_4 (by decide) rfl ?_
  have loopA : ∀ (nA w : Nat) (u : Int32), w ≤ 5 → 5 < w + nA → (u = bI (decide (cbT (aTn a) (aOw a) κ (chT (aTn a) (aOw a) κ d) p (63 - S) s k w = pfT (aTn a) s w * 30 ^ d))) → V l g RX8 cX8_sureBy 9 (some .boolean) 1 6 [.ref 65, .int (nI κ), .int (nI (d + 1)), .int (nI S), .int (nI p), .int (nI s), .int (cI k), .int u, .int (nI w)] [] μ (fun r μ' => r = some (.int (bI (decide (woT (aTn a) (aOw a) κ (chT (aTn a) (aOw a) κ d) p (63 - S) s k = 10 * 30 ^ d)))) ∧ μ' = μ) := by
    intro nA
    induction nA with
    | zero => intro w u h1 h2; exact absurd h2 (by omega)
    | succ nA ihA =>
      intro w u hleA hfuA hu
      refine V_iload (pc := 6) dX8_sureBy_6 rfl ?_
      refine V_iconst (pc := 8) (v := 4) dX8_sureBy_8 (by decide) ?_
      refine V_icmpgt (pc := 9) (tgt := 77) dX8_sureBy_9 (by decide) (fun h9 => ?_) (fun h9 => ?_)
      · have h9 := (nI_ltI (a := 4) (b := w) (by decide) (by omega)).mp h9; obtain rfl : w = 5 := by omega
        refine V_iload (pc := 77) dX8_sureBy_77 rfl ?_
        refine V_zret (pc := 79) dX8_sureBy_79 rfl (by rw [hu]; exact bI_01 _) ?_
        exact ⟨by rw [hu, pfT_5 o4 hs, cbT_wo o4 hs], rfl⟩
      have hlt : w < 5 := by have := mt (nI_ltI (a := 4) (b := w) (by decide) (by omega)).mpr h9; omega
      have hst := cbT_step (tn := aTn a) (ow := aOw a) (κ := κ) (p := p) (F := 63 - S) (s := s) (k := k) hcl w
      have htl := o4.le (w := w) (s := s) hlt hs
      refine V_iload (pc := 12) dX8_sureBy_12 rfl ?_
      refine V_ifeq (pc := 14) (tgt := 68) dX8_sureBy_14 (by decide) (fun h14 => ?_) (fun h14 => ?_)
      · rw [hu] at h14; have h14 := of_decide_eq_false (bI_e h14)
        refine V_iconst (pc := 68) (v := 0) dX8_sureBy_68 (by decide) ?_
        refine V_istore7 (pc := 69) dX8_sureBy_69 (by decide) rfl ?_
        refine V_iinc8 (pc := 71) (v := nI (w + 1)) dX8_sureBy_71 (nI_1 w) (by decide) rfl ?_
        refine V_goto (pc := 74) (tgt := 6) dX8_sureBy_74 (by decide) ?_
        refine ihA (w + 1) _ (by omega) (by omega) ?_
        first
        | (rw [decide_eq_true (hst.mpr ⟨h14, Or.inl h29⟩)]; rfl)
        | (rw [decide_eq_true (hst.mpr ⟨h14, Or.inr h61⟩)]; rfl)
        | (rw [decide_eq_false (fun q => h14 (hst.mp q).1)]; rfl)
        | (rw [decide_eq_false (fun q => (hst.mp q).2.elim h29 h61)]; rfl)
      rw [hu] at h14; have h14 := of_decide_eq_true (bI_ne h14)
      refine V_aload_n (pc := 17) dX8_sureBy_17 rfl rfl ?_
      refine V_getR (pc := 18) (ci := 8) (j := 3) (k2 := 66) dX8_sureBy_18 fl_X8_7 (fun _ _ _ _ => rfl) (by decide) rfl (rf_8_3 rfl) ?_
      refine V_iconst (pc := 21) (v := 3) dX8_sureBy_21 (by decide) ?_
      refine V_iload (pc := 22) dX8_sureBy_22 rfl ?_
      refine V_imul (pc := 24) dX8_sureBy_24 ?_
      refine V_iload (pc := 25) dX8_sureBy_25 rfl ?_
      refine V_iadd (pc := 27) dX8_sureBy_27 ?_
      refine V_iald (pc := 28) (j := (3 * w + s)) dX8_sureBy_28 (by decide) rfl (by rw [show (3 : Int32) = nI 3 from rfl, pk_mul, nI_add]) (by show 3 * w + s < 15; omega) ?_
      rw [hB.1 w s hlt hs]
      refine V_ifeq (pc := 29) (tgt := 64) dX8_sureBy_29 (by decide) (fun h29 => ?_) (fun h29 => ?_)
      · have h29 := (nI_eq (a := aTn a w s) (b := 0) (by omega) (by omega)).mp h29
        refine V_iconst (pc := 64) (v := 1) dX8_sureBy_64 (by decide) ?_
        refine V_goto (pc := 65) (tgt := 69) dX8_sureBy_65 (by decide) ?_
        refine V_istore7 (pc := 69) dX8_sureBy_69 (by decide) rfl ?_
        refine V_iinc8 (pc := 71) (v := nI (w + 1)) dX8_sureBy_71 (nI_1 w) (by decide) rfl ?_
        refine V_goto (pc := 74) (tgt := 6) dX8_sureBy_74 (by decide) ?_
        refine ihA (w + 1) _ (by omega) (by omega) ?_
        first
        | (rw [decide_eq_true (hst.mpr ⟨h14, Or.inl h29⟩)]; rfl)
        | (rw [decide_eq_true (hst.mpr ⟨h14, Or.inr h61⟩)]; rfl)
        | (rw [decide_eq_false (fun q => h14 (hst.mp q).1)]; rfl)
        | (rw [decide_eq_false (fun q => (hst.mp q).2.elim h29 h61)]; rfl)
      have h29 := mt (nI_eq (a := aTn a w s) (b := 0) (by omega) (by omega)).mpr h29
      refine V_aload_n (pc := 32) dX8_sureBy_32 rfl rfl ?_
      refine V_getR (pc := 33) (ci := 8) (j := 27) (k2 := 79) dX8_sureBy_33 fl_X8_55 (fun _ _ _ _ => rfl) (by decide) rfl (rf_8_27 rfl) ?_
      refine V_iload_n (pc := 36) dX8_sureBy_36 rfl rfl ?_
      refine V_iconst (pc := 37) (v := 1) dX8_sureBy_37 (by decide) ?_
      refine V_isub (pc := 38) dX8_sureBy_38 ?_
      rw [nI_m1 d]
      refine V_iload_n (pc := 39) dX8_sureBy_39 rfl rfl ?_
      refine V_iload_n (pc := 40) dX8_sureBy_40 rfl rfl ?_
      refine V_iload (pc := 41) dX8_sureBy_41 rfl ?_
      refine V_ins3 (pc := 43) dX8_sureBy_43 ml_X8_178 (by first | decide | omega) (Nat.le_of_ble_eq_true rfl) (c_X8_spentBy μ hκ hS hk) ?_
      rintro _ μ2 ⟨rfl, hμ⟩
      obtain rfl := hμ.symm
      have hspl := spB_lt (κ := κ) hS hk
      refine V_aload_n (pc := 46) dX8_sureBy_46 rfl rfl ?_
      refine V_iload_n (pc := 47) dX8_sureBy_47 rfl rfl ?_
      refine V_iload (pc := 48) dX8_sureBy_48 rfl ?_
      refine V_iload (pc := 50) dX8_sureBy_50 rfl ?_
      refine V_iload (pc := 52) dX8_sureBy_52 rfl ?_
      refine V_inv4 (pc := 54) (ci := 8) dX8_sureBy_54 ml_X8_166 (by decide) rfl ⟨by decide, rfl⟩ (by first | decide | omega) (Nat.le_of_ble_eq_true rfl) (c_X8_behind μ hO hM hnb hκ hp (show w ≤ 4 by omega) hk) ?_
      rintro _ μ2 ⟨rfl, hμ⟩
      obtain rfl := hμ.symm
      have hafl := aft_le (ow := aOw a) (κ := κ) (k := k) (w := w) hp
      refine V_ins3 (pc := 57) dX8_sureBy_57 ml_X8_182 (by first | decide | omega) (Nat.le_of_ble_eq_true rfl) (c_X8_at μ) ?_
      rintro _ μ2 ⟨rfl, hμ⟩
      obtain rfl := hμ.symm
      refine V_zald (pc := 60) (j := (640 * d + 10 * spB κ S k + aft (aOw a) κ p k w)) dX8_sureBy_60 (by decide) rfl rfl (by show _ < 3200; omega) ?_
      rw [hL (spB κ S k) (aft (aOw a) κ p k w) hspl hafl, ← frA_sp hS hk]
      refine V_ifeq (pc := 61) (tgt := 68) dX8_sureBy_61 (by decide) (fun h61 => ?_) (fun h61 => ?_)
      · have h61 := of_decide_eq_false (bI_e h61)
        refine V_iconst (pc := 68) (v := 0) dX8_sureBy_68 (by decide) ?_
        refine V_istore7 (pc := 69) dX8_sureBy_69 (by decide) rfl ?_
        refine V_iinc8 (pc := 71) (v := nI (w + 1)) dX8_sureBy_71 (nI_1 w) (by decide) rfl ?_
        refine V_goto (pc := 74) (tgt := 6) dX8_sureBy_74 (by decide) ?_
        refine ihA (w + 1) _ (by omega) (by omega) ?_
        first
        | (rw [decide_eq_true (hst.mpr ⟨h14, Or.inl h29⟩)]; rfl)
        | (rw [decide_eq_true (hst.mpr ⟨h14, Or.inr h61⟩)]; rfl)
        | (rw [decide_eq_false (fun q => h14 (hst.mp q).1)]; rfl)
        | (rw [decide_eq_false (fun q => (hst.mp q).2.elim h29 h61)]; rfl)
      have h61 := of_decide_eq_true (bI_ne h61)
      refine V_iconst (pc := 64) (v := 1) dX8_sureBy_64 (by decide) ?_
      refine V_goto (pc := 65) (tgt := 69) dX8_sureBy_65 (by decide) ?_
      refine V_istore7 (pc := 69) dX8_sureBy_69 (by decide) rfl ?_
      refine V_iinc8 (pc := 71) (v := nI (w + 1)) dX8_sureBy_71 (nI_1 w) (by decide) rfl ?_
      refine V_goto (pc := 74) (tgt := 6) dX8_sureBy_74 (by decide) ?_
      refine ihA (w + 1) _ (by omega) (by omega) ?_
      first
      | (rw [decide_eq_true (hst.mpr ⟨h14, Or.inl h29⟩)]; rfl)
      | (rw [decide_eq_true (hst.mpr ⟨h14, Or.inr h61⟩)]; rfl)
      | (rw [decide_eq_false (fun q => h14 (hst.mp q).1)]; rfl)
      | (rw [decide_eq_false (fun q => (hst.mp q).2.elim h29 h61)]; rfl)
  exact loopA (5 + 1) 0 _ (by omega) (by omega) (by rw [decide_eq_true (show cbT (aTn a) (aOw a) κ (chT (aTn a) (aOw a) κ d) p (63 - S) s k 0 = pfT (aTn a) s 0 * 30 ^ d from (Nat.zero_mul _).symm)]; rfl)
theorem dX8_isSure_0 : decode cX8_isSure 0 = .ok (.iconst 1, 1) := by decide +kernel
theorem dX8_isSure_1 : decode cX8_isSure 1 = .ok (.istore 5, 2) := by decide +kernel
theorem dX8_isSure_3 : decode cX8_isSure 3 = .ok (.iconst 0, 1) := by decide +kernel
theorem dX8_isSure_4 : decode cX8_isSure 4 = .ok (.istore 6, 2) := by decide +kernel
theorem dX8_isSure_6 : decode cX8_isSure 6 = .ok (.iload 6, 2) := by decide +kernel
theorem dX8_isSure_8 : decode cX8_isSure 8 = .ok (.iconst 3, 1) := by decide +kernel
theorem dX8_isSure_9 : decode cX8_isSure 9 = .ok (.if_icmp .ge 93, 3) := by decide +kernel
theorem dX8_isSure_12 : decode cX8_isSure 12 = .ok (.aload_n 0, 1) := by decide +kernel
theorem dX8_isSure_13 : decode cX8_isSure 13 = .ok (.iload_n 1, 1) := by decide +kernel
theorem dX8_isSure_14 : decode cX8_isSure 14 = .ok (.iload_n 2, 1) := by decide +kernel
theorem dX8_isSure_15 : decode cX8_isSure 15 = .ok (.iload_n 3, 1) := by decide +kernel
theorem dX8_isSure_16 : decode cX8_isSure 16 = .ok (.iload 4, 2) := by decide +kernel
theorem dX8_isSure_18 : decode cX8_isSure 18 = .ok (.iload 6, 2) := by decide +kernel
theorem dX8_isSure_20 : decode cX8_isSure 20 = .ok (.iconst (-1), 1) := by decide +kernel
theorem dX8_isSure_21 : decode cX8_isSure 21 = .ok (.invokevirtual 220, 3) := by decide +kernel
theorem dX8_isSure_24 : decode cX8_isSure 24 = .ok (.istore 7, 2) := by decide +kernel
theorem dX8_isSure_26 : decode cX8_isSure 26 = .ok (.iconst 0, 1) := by decide +kernel
theorem dX8_isSure_27 : decode cX8_isSure 27 = .ok (.istore 8, 2) := by decide +kernel
theorem dX8_isSure_29 : decode cX8_isSure 29 = .ok (.iload 8, 2) := by decide +kernel
theorem dX8_isSure_31 : decode cX8_isSure 31 = .ok (.bipush 6, 2) := by decide +kernel
theorem dX8_isSure_33 : decode cX8_isSure 33 = .ok (.if_icmp .ge 46, 3) := by decide +kernel
theorem dX8_isSure_36 : decode cX8_isSure 36 = .ok (.iload 7, 2) := by decide +kernel
theorem dX8_isSure_38 : decode cX8_isSure 38 = .ok (.ifCond .ne 41, 3) := by decide +kernel
theorem dX8_isSure_41 : decode cX8_isSure 41 = .ok (.iload_n 3, 1) := by decide +kernel
theorem dX8_isSure_42 : decode cX8_isSure 42 = .ok (.iload 8, 2) := by decide +kernel
theorem dX8_isSure_44 : decode cX8_isSure 44 = .ok (.invokestatic 156, 3) := by decide +kernel
theorem dX8_isSure_47 : decode cX8_isSure 47 = .ok (.ifCond .ne 23, 3) := by decide +kernel
theorem dX8_isSure_50 : decode cX8_isSure 50 = .ok (.aload_n 0, 1) := by decide +kernel
theorem dX8_isSure_51 : decode cX8_isSure 51 = .ok (.iload_n 1, 1) := by decide +kernel
theorem dX8_isSure_52 : decode cX8_isSure 52 = .ok (.iload_n 2, 1) := by decide +kernel
theorem dX8_isSure_53 : decode cX8_isSure 53 = .ok (.iload_n 3, 1) := by decide +kernel
theorem dX8_isSure_54 : decode cX8_isSure 54 = .ok (.iload 4, 2) := by decide +kernel
theorem dX8_isSure_56 : decode cX8_isSure 56 = .ok (.iload 6, 2) := by decide +kernel
theorem dX8_isSure_58 : decode cX8_isSure 58 = .ok (.iload 8, 2) := by decide +kernel
theorem dX8_isSure_60 : decode cX8_isSure 60 = .ok (.invokevirtual 220, 3) := by decide +kernel
theorem dX8_isSure_63 : decode cX8_isSure 63 = .ok (.ifCond .eq 7, 3) := by decide +kernel
theorem dX8_isSure_66 : decode cX8_isSure 66 = .ok (.iconst 1, 1) := by decide +kernel
theorem dX8_isSure_67 : decode cX8_isSure 67 = .ok (.goto 4, 3) := by decide +kernel
theorem dX8_isSure_70 : decode cX8_isSure 70 = .ok (.iconst 0, 1) := by decide +kernel
theorem dX8_isSure_71 : decode cX8_isSure 71 = .ok (.istore 7, 2) := by decide +kernel
theorem dX8_isSure_73 : decode cX8_isSure 73 = .ok (.iinc 8 1, 3) := by decide +kernel
theorem dX8_isSure_76 : decode cX8_isSure 76 = .ok (.goto (-47), 3) := by decide +kernel
theorem dX8_isSure_79 : decode cX8_isSure 79 = .ok (.iload 5, 2) := by decide +kernel
theorem dX8_isSure_81 : decode cX8_isSure 81 = .ok (.ifCond .eq 12, 3) := by decide +kernel
theorem dX8_isSure_84 : decode cX8_isSure 84 = .ok (.iload 7, 2) := by decide +kernel
theorem dX8_isSure_86 : decode cX8_isSure 86 = .ok (.ifCond .eq 7, 3) := by decide +kernel
theorem dX8_isSure_89 : decode cX8_isSure 89 = .ok (.iconst 1, 1) := by decide +kernel
theorem dX8_isSure_90 : decode cX8_isSure 90 = .ok (.goto 4, 3) := by decide +kernel
theorem dX8_isSure_93 : decode cX8_isSure 93 = .ok (.iconst 0, 1) := by decide +kernel
theorem dX8_isSure_94 : decode cX8_isSure 94 = .ok (.istore 5, 2) := by decide +kernel
theorem dX8_isSure_96 : decode cX8_isSure 96 = .ok (.iinc 6 1, 3) := by decide +kernel
theorem dX8_isSure_99 : decode cX8_isSure 99 = .ok (.goto (-93), 3) := by decide +kernel
theorem dX8_isSure_102 : decode cX8_isSure 102 = .ok (.iload 5, 2) := by decide +kernel
theorem dX8_isSure_104 : decode cX8_isSure 104 = .ok (.ireturn, 1) := by decide +kernel
set_option maxHeartbeats 4000000 in
set_option maxRecDepth 100000 in
theorem c_X8_isSure {l : Launch} {g : GW} {a : AT} {κ d S p : Nat} (μ : Mm) (hO : AOK a) (hM : RM μ a) (hnb : 0 < aNb a) (hκ : κ ≤ 4) (hd : d + 1 ≤ 4) (hS : S < 64) (hp : p ≤ 9) (hL : ChZ μ (aTn a) (aOw a) κ d) : Con l g yX8_isSure cX8_isSure 9 (some .boolean) 2 [.ref 65, .int (nI κ), .int (nI (d + 1)), .int (nI S), .int (nI p)] μ (fun r μ' => r = some (.int (bI (decide (suT (aTn a) (aOw a) κ (chT (aTn a) (aOw a) κ d) p (63 - S) 3 = 30 ^ (d + 1))))) ∧ μ' = μ) := by
  obtain ⟨m1, m2, m3, m4, m5, m6, m7, m8, m9, m10, m11, m12, m13⟩ := id hM
  obtain ⟨o1, o2, o3, o4, o5, ⟨s1, s2, s3, s4⟩, oK, o8, o9, o10⟩ := id hO
  have hcl : ∀ p F, chT (aTn a) (aOw a) κ d p F ≤ 30 ^ d := fun p F => chT_le (ow := aOw a) (κ := κ) o4 d p F
  have hB := m4 hnb
  refine Con.of [.ref 65, .int (nI κ), .int (nI (d + 1)), .int (nI S), .int (nI p), .null, .null, .null, .null] 4 (by decide +kernel) (Nat.le_of_ble_eq_true rfl) rfl ?_
  refine V_iconst (pc := 0) (v := 1) dX8_isSure_0 (by decide) ?_
  refine V_istore5 (pc := 1) dX8_isSure_1 (by decide) rfl ?_
  refine V_iconst (pc := 3) (v := 0) dX8_isSure_3 (by decide) ?_
  refine V_istore6 (pc := 4) dX8_isSure_4 (by decide) rfl ?_
  have loopA : ∀ (nA s : Nat) (u : Int32) (y7 y8 : Value), s ≤ 3 → 3 < s + nA → (u = bI (decide (suT (aTn a) (aOw a) κ (chT (aTn a) (aOw a) κ d) p (63 - S) s = 10 * s * 30 ^ d))) → V l g RX8 cX8_isSure 9 (some .boolean) 2 6 [.ref 65, .int (nI κ), .int (nI (d + 1)), .int (nI S), .int (nI p), .int u, .int (nI s), y7, y8] [] μ (fun r μ' => r = some (.int (bI (decide (suT (aTn a) (aOw a) κ (chT (aTn a) (aOw a) κ d) p (63 - S) 3 = 30 ^ (d + 1))))) ∧ μ' = μ) := by
    intro nA
    induction nA with
    | zero => intro s u y7 y8 h1 h2; exact absurd h2 (by omega)
    | succ nA ihA =>
      intro s u y7 y8 hleA hfuA hu
      refine V_iload (pc := 6) dX8_isSure_6 rfl ?_
      refine V_iconst (pc := 8) (v := 3) dX8_isSure_8 (by decide) ?_
      refine V_icmpge (pc := 9) (tgt := 102) dX8_isSure_9 (by decide) (fun h9 => ?_) (fun h9 => ?_)
      · have h9 := (nI_leI (a := 3) (b := s) (by decide) (by omega)).mp h9; obtain rfl : s = 3 := by omega
        refine V_iload (pc := 102) dX8_isSure_102 rfl ?_
        refine V_zret (pc := 104) dX8_isSure_104 rfl (by rw [hu]; exact bI_01 _) ?_
        exact ⟨by rw [hu, show 10 * 3 * 30 ^ d = 30 ^ (d + 1) by rw [Nat.pow_succ]; omega], rfl⟩
      have hlt : s < 3 := nI_l3 (a := 3) (by decide) (by omega) h9
      have hwl : ∀ k, woT (aTn a) (aOw a) κ (chT (aTn a) (aOw a) κ d) p (63 - S) s k ≤ 10 * 30 ^ d := fun k => woT_le (ow := aOw a) (κ := κ) (p := p) (F := 63 - S) (k := k) o4 hlt hcl
      have hso := suT_step (ow := aOw a) (κ := κ) (p := p) (F := 63 - S) o4 hcl s hlt
      refine V_aload_n (pc := 12) dX8_isSure_12 rfl rfl ?_
      refine V_iload_n (pc := 13) dX8_isSure_13 rfl rfl ?_
      refine V_iload_n (pc := 14) dX8_isSure_14 rfl rfl ?_
      refine V_iload_n (pc := 15) dX8_isSure_15 rfl rfl ?_
      refine V_iload (pc := 16) dX8_isSure_16 rfl ?_
      refine V_iload (pc := 18) dX8_isSure_18 rfl ?_
      refine V_iconst (pc := 20) (v := (-1)) dX8_isSure_20 (by decide) ?_
      refine V_inv6 (pc := 21) (ci := 8) dX8_isSure_21 ml_X8_220 (by decide) rfl ⟨by decide, rfl⟩ (by first | decide | omega) (Nat.le_of_ble_eq_true rfl) (cI_0 ▸ c_X8_sureBy (k := 0) μ hO hM hnb hκ hd hS hp hL hlt (by omega)) ?_
      rintro _ μ2 ⟨rfl, hμ⟩
      obtain rfl := hμ.symm
      refine V_istore7 (pc := 24) dX8_isSure_24 (by decide) rfl ?_
      refine V_iconst (pc := 26) (v := 0) dX8_isSure_26 (by decide) ?_
      refine V_istore8 (pc := 27) dX8_isSure_27 (by decide) rfl ?_
      have loopB : ∀ (nB n : Nat) (t : Int32), n ≤ 6 → 6 < n + nB → (t = bI (decide ((beT (aTn a) (aOw a) κ (chT (aTn a) (aOw a) κ d) p (63 - S) s n).2 = 10 * 30 ^ d))) → V l g RX8 cX8_isSure 9 (some .boolean) 2 29 [.ref 65, .int (nI κ), .int (nI (d + 1)), .int (nI S), .int (nI p), .int u, .int (nI s), .int t, .int (nI n)] [] μ (fun r μ' => r = some (.int (bI (decide (suT (aTn a) (aOw a) κ (chT (aTn a) (aOw a) κ d) p (63 - S) 3 = 30 ^ (d + 1))))) ∧ μ' = μ) := by
        intro nB
        induction nB with
        | zero => intro n t h1 h2; exact absurd h2 (by omega)
        | succ nB ihB =>
          intro n t hleB hfuB ht
          refine V_iload (pc := 29) dX8_isSure_29 rfl ?_
          refine V_bipush (pc := 31) (v := 6) dX8_isSure_31 (by decide) ?_
          refine V_icmpge (pc := 33) (tgt := 79) dX8_isSure_33 (by decide) (fun h33 => ?_) (fun h33 => ?_)
          · have h33 := (nI_leI (a := 6) (b := n) (by decide) (by omega)).mp h33; obtain rfl : n = 6 := (by omega); have hany := ht
            refine V_iload (pc := 79) dX8_isSure_79 rfl ?_
            refine V_ifeq (pc := 81) (tgt := 93) dX8_isSure_81 (by decide) (fun h81 => ?_) (fun h81 => ?_)
            · rw [hu] at h81; have h81 := of_decide_eq_false (bI_e h81)
              refine V_iconst (pc := 93) (v := 0) dX8_isSure_93 (by decide) ?_
              refine V_istore5 (pc := 94) dX8_isSure_94 (by decide) rfl ?_
              refine V_iinc6 (pc := 96) (v := nI (s + 1)) dX8_isSure_96 (nI_1 s) (by decide) rfl ?_
              refine V_goto (pc := 99) (tgt := 6) dX8_isSure_99 (by decide) ?_
              refine ihA (s + 1) _ _ _ (by omega) (by omega) ?_
              first
              | (rw [decide_eq_true (hso.mpr ⟨h81, h86⟩)]; rfl)
              | (rw [decide_eq_false (fun q => h81 (hso.mp q).1)]; rfl)
              | (rw [decide_eq_false (fun q => h86 (hso.mp q).2)]; rfl)
            rw [hu] at h81; have h81 := of_decide_eq_true (bI_ne h81)
            refine V_iload (pc := 84) dX8_isSure_84 rfl ?_
            refine V_ifeq (pc := 86) (tgt := 93) dX8_isSure_86 (by decide) (fun h86 => ?_) (fun h86 => ?_)
            · rw [hany] at h86; have h86 := of_decide_eq_false (bI_e h86)
              refine V_iconst (pc := 93) (v := 0) dX8_isSure_93 (by decide) ?_
              refine V_istore5 (pc := 94) dX8_isSure_94 (by decide) rfl ?_
              refine V_iinc6 (pc := 96) (v := nI (s + 1)) dX8_isSure_96 (nI_1 s) (by decide) rfl ?_
              refine V_goto (pc := 99) (tgt := 6) dX8_isSure_99 (by decide) ?_
              refine ihA (s + 1) _ _ _ (by omega) (by omega) ?_
              first
              | (rw [decide_eq_true (hso.mpr ⟨h81, h86⟩)]; rfl)
              | (rw [decide_eq_false (fun q => h81 (hso.mp q).1)]; rfl)
              | (rw [decide_eq_false (fun q => h86 (hso.mp q).2)]; rfl)
            rw [hany] at h86; have h86 := of_decide_eq_true (bI_ne h86)
            refine V_iconst (pc := 89) (v := 1) dX8_isSure_89 (by decide) ?_
            refine V_goto (pc := 90) (tgt := 94) dX8_isSure_90 (by decide) ?_
            refine V_istore5 (pc := 94) dX8_isSure_94 (by decide) rfl ?_
            refine V_iinc6 (pc := 96) (v := nI (s + 1)) dX8_isSure_96 (nI_1 s) (by decide) rfl ?_
            refine V_goto (pc := 99) (tgt := 6) dX8_isSure_99 (by decide) ?_
            refine ihA (s + 1) _ _ _ (by omega) (by omega) ?_
            first
            | (rw [decide_eq_true (hso.mpr ⟨h81, h86⟩)]; rfl)
            | (rw [decide_eq_false (fun q => h81 (hso.mp q).1)]; rfl)
            | (rw [decide_eq_false (fun q => h86 (hso.mp q).2)]; rfl)
          have hlt2 : n < 6 := nI_l3 (a := 6) (by decide) (by omega) h33
          have hbs := beT_step hwl n
          rw [tst_63 S hS n hlt2] at hbs
          refine V_iload (pc := 36) dX8_isSure_36 rfl ?_
          refine V_ifne (pc := 38) (tgt := 79) dX8_isSure_38 (by decide) (fun h38 => ?_) (fun h38 => ?_)
          · have h38 := of_decide_eq_true (bI_ne (ht ▸ h38)); have hany : t = bI (decide ((beT (aTn a) (aOw a) κ (chT (aTn a) (aOw a) κ d) p (63 - S) s 6).2 = 10 * 30 ^ d)) := by rw [ht, decide_eq_true h38, decide_eq_true (show (beT (aTn a) (aOw a) κ (chT (aTn a) (aOw a) κ d) p (63 - S) s 6).2 = 10 * 30 ^ d from by have q := beT_mono hwl h38 (6 - n); rwa [show n + (6 - n) = 6 by omega] at q)]
            refine V_iload (pc := 79) dX8_isSure_79 rfl ?_
            refine V_ifeq (pc := 81) (tgt := 93) dX8_isSure_81 (by decide) (fun h81 => ?_) (fun h81 => ?_)
            · rw [hu] at h81; have h81 := of_decide_eq_false (bI_e h81)
              refine V_iconst (pc := 93) (v := 0) dX8_isSure_93 (by decide) ?_
              refine V_istore5 (pc := 94) dX8_isSure_94 (by decide) rfl ?_
              refine V_iinc6 (pc := 96) (v := nI (s + 1)) dX8_isSure_96 (nI_1 s) (by decide) rfl ?_
              refine V_goto (pc := 99) (tgt := 6) dX8_isSure_99 (by decide) ?_
              refine ihA (s + 1) _ _ _ (by omega) (by omega) ?_
              first
              | (rw [decide_eq_true (hso.mpr ⟨h81, h86⟩)]; rfl)
              | (rw [decide_eq_false (fun q => h81 (hso.mp q).1)]; rfl)
              | (rw [decide_eq_false (fun q => h86 (hso.mp q).2)]; rfl)
            rw [hu] at h81; have h81 := of_decide_eq_true (bI_ne h81)
            refine V_iload (pc := 84) dX8_isSure_84 rfl ?_
            refine V_ifeq (pc := 86) (tgt := 93) dX8_isSure_86 (by decide) (fun h86 => ?_) (fun h86 => ?_)
            · rw [hany] at h86; have h86 := of_decide_eq_false (bI_e h86)
              refine V_iconst (pc := 93) (v := 0) dX8_isSure_93 (by decide) ?_
              refine V_istore5 (pc := 94) dX8_isSure_94 (by decide) rfl ?_
              refine V_iinc6 (pc := 96) (v := nI (s + 1)) dX8_isSure_96 (nI_1 s) (by decide) rfl ?_
              refine V_goto (pc := 99) (tgt := 6) dX8_isSure_99 (by decide) ?_
              refine ihA (s + 1) _ _ _ (by omega) (by omega) ?_
              first
              | (rw [decide_eq_true (hso.mpr ⟨h81, h86⟩)]; rfl)
              | (rw [decide_eq_false (fun q => h81 (hso.mp q).1)]; rfl)
              | (rw [decide_eq_false (fun q => h86 (hso.mp q).2)]; rfl)
            rw [hany] at h86; have h86 := of_decide_eq_true (bI_ne h86)
            refine V_iconst (pc := 89) (v := 1) dX8_isSure_89 (by decide) ?_
            refine V_goto (pc := 90) (tgt := 94) dX8_isSure_90 (by decide) ?_
            refine V_istore5 (pc := 94) dX8_isSure_94 (by decide) rfl ?_
            refine V_iinc6 (pc := 96) (v := nI (s + 1)) dX8_isSure_96 (nI_1 s) (by decide) rfl ?_
            refine V_goto (pc := 99) (tgt := 6) dX8_isSure_99 (by decide) ?_
            refine ihA (s + 1) _ _ _ (by omega) (by omega) ?_
            first
            | (rw [decide_eq_true (hso.mpr ⟨h81, h86⟩)]; rfl)
            | (rw [decide_eq_false (fun q => h81 (hso.mp q).1)]; rfl)
            | (rw [decide_eq_false (fun q => h86 (hso.mp q).2)]; rfl)
          rw [ht] at h38; have h38 := of_decide_eq_false (bI_e h38)
          refine V_iload_n (pc := 41) dX8_isSure_41 rfl rfl ?_
          refine V_iload (pc := 42) dX8_isSure_42 rfl ?_
          refine V_ins2 (pc := 44) dX8_isSure_44 ml_X8_156 (by first | decide | omega) (Nat.le_of_ble_eq_true rfl) (c_X8_has μ hS hlt2) ?_
          rintro _ μ2 ⟨rfl, hμ⟩
          obtain rfl := hμ.symm
          refine V_ifne (pc := 47) (tgt := 70) dX8_isSure_47 (by decide) (fun h47 => ?_) (fun h47 => ?_)
          · have h47 := bI_ne h47
            refine V_iconst (pc := 70) (v := 0) dX8_isSure_70 (by decide) ?_
            refine V_istore7 (pc := 71) dX8_isSure_71 (by decide) rfl ?_
            refine V_iinc8 (pc := 73) (v := nI (n + 1)) dX8_isSure_73 (nI_1 n) (by decide) rfl ?_
            refine V_goto (pc := 76) (tgt := 29) dX8_isSure_76 (by decide) ?_
            refine ihB (n + 1) _ (by omega) (by omega) ?_
            first
            | (rw [decide_eq_true (hbs.mpr (Or.inr ⟨by rw [h47]; rfl, h63⟩))]; rfl)
            | (rw [decide_eq_false (fun q => (hbs.mp q).elim h38 (fun r => h63 r.2))]; rfl)
            | (rw [decide_eq_false (fun q => (hbs.mp q).elim h38 (fun r => by rw [h47] at r; exact absurd r.1 (by decide)))]; rfl)
          have h47 := bI_e h47
          refine V_aload_n (pc := 50) dX8_isSure_50 rfl rfl ?_
          refine V_iload_n (pc := 51) dX8_isSure_51 rfl rfl ?_
          refine V_iload_n (pc := 52) dX8_isSure_52 rfl rfl ?_
          refine V_iload_n (pc := 53) dX8_isSure_53 rfl rfl ?_
          refine V_iload (pc := 54) dX8_isSure_54 rfl ?_
          refine V_iload (pc := 56) dX8_isSure_56 rfl ?_
          refine V_iload (pc := 58) dX8_isSure_58 rfl ?_
          refine V_inv6 (pc := 60) (ci := 8) dX8_isSure_60 ml_X8_220 (by decide) rfl ⟨by decide, rfl⟩ (by first | decide | omega) (Nat.le_of_ble_eq_true rfl) (cI_s n ▸ c_X8_sureBy (k := n + 1) μ hO hM hnb hκ hd hS hp hL hlt (by omega)) ?_
          rintro _ μ2 ⟨rfl, hμ⟩
          obtain rfl := hμ.symm
          refine V_ifeq (pc := 63) (tgt := 70) dX8_isSure_63 (by decide) (fun h63 => ?_) (fun h63 => ?_)
          · have h63 := of_decide_eq_false (bI_e h63)
            refine V_iconst (pc := 70) (v := 0) dX8_isSure_70 (by decide) ?_
            refine V_istore7 (pc := 71) dX8_isSure_71 (by decide) rfl ?_
            refine V_iinc8 (pc := 73) (v := nI (n + 1)) dX8_isSure_73 (nI_1 n) (by decide) rfl ?_
            refine V_goto (pc := 76) (tgt := 29) dX8_isSure_76 (by decide) ?_
            refine ihB (n + 1) _ (by omega) (by omega) ?_
            first
            | (rw [decide_eq_true (hbs.mpr (Or.inr ⟨by rw [h47]; rfl, h63⟩))]; rfl)
            | (rw [decide_eq_false (fun q => (hbs.mp q).elim h38 (fun r => h63 r.2))]; rfl)
            | (rw [decide_eq_false (fun q => (hbs.mp q).elim h38 (fun r => by rw [h47] at r; exact absurd r.1 (by decide)))]; rfl)
          have h63 := of_decide_eq_true (bI_ne h63)
          refine V_iconst (pc := 66) (v := 1) dX8_isSure_66 (by decide) ?_
          refine V_goto (pc := 67) (tgt := 71) dX8_isSure_67 (by decide) ?_
          refine V_istore7 (pc := 71) dX8_isSure_71 (by decide) rfl ?_
          refine V_iinc8 (pc := 73) (v := nI (n + 1)) dX8_isSure_73 (nI_1 n) (by decide) rfl ?_
          refine V_goto (pc := 76) (tgt := 29) dX8_isSure_76 (by decide) ?_
          refine ihB (n + 1) _ (by omega) (by omega) ?_
          first
          | (rw [decide_eq_true (hbs.mpr (Or.inr ⟨by rw [h47]; rfl, h63⟩))]; rfl)
          | (rw [decide_eq_false (fun q => (hbs.mp q).elim h38 (fun r => h63 r.2))]; rfl)
          | (rw [decide_eq_false (fun q => (hbs.mp q).elim h38 (fun r => by rw [h47] at r; exact absurd r.1 (by decide)))]; rfl)
      exact loopB (6 + 1) 0 _ (by omega) (by omega) rfl
  exact loopA (3 + 1) 0 _ _ _ (by omega) (by omega) (by rw [decide_eq_true (show suT (aTn a) (aOw a) κ (chT (aTn a) (aOw a) κ d) p (63 - S) 0 = 10 * 0 * 30 ^ d from (Nat.zero_mul _).symm)]; rfl)
theorem dX8_sureNow_0 : decode cX8_sureNow 0 = .ok (.iconst 0, 1) := by decide +kernel
theorem dX8_sureNow_1 : decode cX8_sureNow 1 = .ok (.istore_n 2, 1) := by decide +kernel
theorem dX8_sureNow_2 : decode cX8_sureNow 2 = .ok (.iload_n 2, 1) := by decide +kernel
theorem dX8_sureNow_3 : decode cX8_sureNow 3 = .ok (.iconst 4, 1) := by decide +kernel
theorem dX8_sureNow_4 : decode cX8_sureNow 4 = .ok (.if_icmp .gt 108, 3) := by decide +kernel
theorem dX8_sureNow_7 : decode cX8_sureNow 7 = .ok (.iconst 0, 1) := by decide +kernel
theorem dX8_sureNow_8 : decode cX8_sureNow 8 = .ok (.istore_n 3, 1) := by decide +kernel
theorem dX8_sureNow_9 : decode cX8_sureNow 9 = .ok (.iload_n 3, 1) := by decide +kernel
theorem dX8_sureNow_10 : decode cX8_sureNow 10 = .ok (.bipush 64, 2) := by decide +kernel
theorem dX8_sureNow_12 : decode cX8_sureNow 12 = .ok (.if_icmp .ge 70, 3) := by decide +kernel
theorem dX8_sureNow_15 : decode cX8_sureNow 15 = .ok (.iconst 0, 1) := by decide +kernel
theorem dX8_sureNow_16 : decode cX8_sureNow 16 = .ok (.istore 4, 2) := by decide +kernel
theorem dX8_sureNow_18 : decode cX8_sureNow 18 = .ok (.iload 4, 2) := by decide +kernel
theorem dX8_sureNow_20 : decode cX8_sureNow 20 = .ok (.bipush 10, 2) := by decide +kernel
theorem dX8_sureNow_22 : decode cX8_sureNow 22 = .ok (.if_icmp .ge 54, 3) := by decide +kernel
theorem dX8_sureNow_25 : decode cX8_sureNow 25 = .ok (.aload_n 0, 1) := by decide +kernel
theorem dX8_sureNow_26 : decode cX8_sureNow 26 = .ok (.getfield 55, 3) := by decide +kernel
theorem dX8_sureNow_29 : decode cX8_sureNow 29 = .ok (.iload_n 2, 1) := by decide +kernel
theorem dX8_sureNow_30 : decode cX8_sureNow 30 = .ok (.iload_n 3, 1) := by decide +kernel
theorem dX8_sureNow_31 : decode cX8_sureNow 31 = .ok (.iload 4, 2) := by decide +kernel
theorem dX8_sureNow_33 : decode cX8_sureNow 33 = .ok (.invokestatic 182, 3) := by decide +kernel
theorem dX8_sureNow_36 : decode cX8_sureNow 36 = .ok (.iload 4, 2) := by decide +kernel
theorem dX8_sureNow_38 : decode cX8_sureNow 38 = .ok (.bipush 9, 2) := by decide +kernel
theorem dX8_sureNow_40 : decode cX8_sureNow 40 = .ok (.if_icmp .eq 24, 3) := by decide +kernel
theorem dX8_sureNow_43 : decode cX8_sureNow 43 = .ok (.iload_n 2, 1) := by decide +kernel
theorem dX8_sureNow_44 : decode cX8_sureNow 44 = .ok (.ifCond .le 24, 3) := by decide +kernel
theorem dX8_sureNow_47 : decode cX8_sureNow 47 = .ok (.aload_n 0, 1) := by decide +kernel
theorem dX8_sureNow_48 : decode cX8_sureNow 48 = .ok (.aload_n 0, 1) := by decide +kernel
theorem dX8_sureNow_49 : decode cX8_sureNow 49 = .ok (.getfield 16, 3) := by decide +kernel
theorem dX8_sureNow_52 : decode cX8_sureNow 52 = .ok (.iload_n 1, 1) := by decide +kernel
theorem dX8_sureNow_53 : decode cX8_sureNow 53 = .ok (.iaload, 1) := by decide +kernel
theorem dX8_sureNow_54 : decode cX8_sureNow 54 = .ok (.iload_n 2, 1) := by decide +kernel
theorem dX8_sureNow_55 : decode cX8_sureNow 55 = .ok (.iload_n 3, 1) := by decide +kernel
theorem dX8_sureNow_56 : decode cX8_sureNow 56 = .ok (.iload 4, 2) := by decide +kernel
theorem dX8_sureNow_58 : decode cX8_sureNow 58 = .ok (.invokevirtual 224, 3) := by decide +kernel
theorem dX8_sureNow_61 : decode cX8_sureNow 61 = .ok (.ifCond .eq 7, 3) := by decide +kernel
theorem dX8_sureNow_64 : decode cX8_sureNow 64 = .ok (.iconst 1, 1) := by decide +kernel
theorem dX8_sureNow_65 : decode cX8_sureNow 65 = .ok (.goto 4, 3) := by decide +kernel
theorem dX8_sureNow_68 : decode cX8_sureNow 68 = .ok (.iconst 0, 1) := by decide +kernel
theorem dX8_sureNow_69 : decode cX8_sureNow 69 = .ok (.bastore, 1) := by decide +kernel
theorem dX8_sureNow_70 : decode cX8_sureNow 70 = .ok (.iinc 4 1, 3) := by decide +kernel
theorem dX8_sureNow_73 : decode cX8_sureNow 73 = .ok (.goto (-55), 3) := by decide +kernel
theorem dX8_sureNow_76 : decode cX8_sureNow 76 = .ok (.iinc 3 1, 3) := by decide +kernel
theorem dX8_sureNow_79 : decode cX8_sureNow 79 = .ok (.goto (-70), 3) := by decide +kernel
theorem dX8_sureNow_82 : decode cX8_sureNow 82 = .ok (.aload_n 0, 1) := by decide +kernel
theorem dX8_sureNow_83 : decode cX8_sureNow 83 = .ok (.getfield 55, 3) := by decide +kernel
theorem dX8_sureNow_86 : decode cX8_sureNow 86 = .ok (.iload_n 2, 1) := by decide +kernel
theorem dX8_sureNow_87 : decode cX8_sureNow 87 = .ok (.aload_n 0, 1) := by decide +kernel
theorem dX8_sureNow_88 : decode cX8_sureNow 88 = .ok (.getfield 132, 3) := by decide +kernel
theorem dX8_sureNow_91 : decode cX8_sureNow 91 = .ok (.aload_n 0, 1) := by decide +kernel
theorem dX8_sureNow_92 : decode cX8_sureNow 92 = .ok (.getfield 19, 3) := by decide +kernel
theorem dX8_sureNow_95 : decode cX8_sureNow 95 = .ok (.iload_n 1, 1) := by decide +kernel
theorem dX8_sureNow_96 : decode cX8_sureNow 96 = .ok (.iaload, 1) := by decide +kernel
theorem dX8_sureNow_97 : decode cX8_sureNow 97 = .ok (.invokestatic 182, 3) := by decide +kernel
theorem dX8_sureNow_100 : decode cX8_sureNow 100 = .ok (.baload, 1) := by decide +kernel
theorem dX8_sureNow_101 : decode cX8_sureNow 101 = .ok (.ifCond .eq 5, 3) := by decide +kernel
theorem dX8_sureNow_104 : decode cX8_sureNow 104 = .ok (.iload_n 2, 1) := by decide +kernel
theorem dX8_sureNow_105 : decode cX8_sureNow 105 = .ok (.ireturn, 1) := by decide +kernel
theorem dX8_sureNow_106 : decode cX8_sureNow 106 = .ok (.iinc 2 1, 3) := by decide +kernel
theorem dX8_sureNow_109 : decode cX8_sureNow 109 = .ok (.goto (-107), 3) := by decide +kernel
theorem dX8_sureNow_112 : decode cX8_sureNow 112 = .ok (.iconst (-1), 1) := by decide +kernel
theorem dX8_sureNow_113 : decode cX8_sureNow 113 = .ok (.ireturn, 1) := by decide +kernel
set_option maxHeartbeats 4000000 in
set_option maxRecDepth 100000 in
theorem c_X8_sureNow {l : Launch} {g : GW} {a : AT} {i : Nat} (μ : Mm) (hO : AOK a) (hM : RM μ a) (hnb : 0 < aNb a) (hi : i < sN (aS a)) : Con l g yX8_sureNow cX8_sureNow 5 (some .int) 3 [.ref 65, .int (nI i)] μ (fun r μ' => r = some (.int (if suD (aTn a) (aOw a) (sK (aS a) i) (sP (aS a) i) (63 - sS (aS a)) 5 = 5 then -1 else nI (suD (aTn a) (aOw a) (sK (aS a) i) (sP (aS a) i) (63 - sS (aS a)) 5))) ∧ FrK 79 μ μ') := by
  obtain ⟨m1, m2, m3, m4, m5, m6, m7, m8, m9, m10, m11, m12, m13⟩ := id hM
  obtain ⟨o1, o2, o3, o4, o5, ⟨s1, s2, s3, s4⟩, oK, o8, o9, o10⟩ := id hO
  obtain ⟨n1, n2, n3, n4, n5⟩ := m6 i hi
  obtain ⟨k4, p9, c6⟩ := s4 i (by omega)
  refine Con.of [.ref 65, .int (nI i), .null, .null, .null] 3 (by decide +kernel) (Nat.le_of_ble_eq_true rfl) rfl ?_
  refine V_iconst (pc := 0) (v := 0) dX8_sureNow_0 (by decide) ?_
  refine V_istore2 (pc := 1) dX8_sureNow_1 (by decide) rfl ?_
  have loopA : ∀ (nA d : Nat) (μ1 : Mm) (y3 y4 : Value), d ≤ 5 → 5 < d + nA → (∀ e, e < d → ChZ μ1 (aTn a) (aOw a) (sK (aS a) i) e) → (FrK 79 μ μ1) → (suD (aTn a) (aOw a) (sK (aS a) i) (sP (aS a) i) (63 - sS (aS a)) 5 = suD (aTn a) (aOw a) (sK (aS a) i) (sP (aS a) i) (63 - sS (aS a)) (5 - d)) → V l g RX8 cX8_sureNow 5 (some .int) 3 2 [.ref 65, .int (nI i), .int (nI d), y3, y4] [] μ1 (fun r μ' => r = some (.int (if suD (aTn a) (aOw a) (sK (aS a) i) (sP (aS a) i) (63 - sS (aS a)) 5 = 5 then -1 else nI (suD (aTn a) (aOw a) (sK (aS a) i) (sP (aS a) i) (63 - sS (aS a)) 5))) ∧ FrK 79 μ μ') := by
    intro nA
    induction nA with
    | zero => intro d μ1 y3 y4 h1 h2; exact absurd h2 (by omega)
    | succ nA ihA =>
      intro d μ1 y3 y4 hleA hfuA hv hF hsd
      refine V_iload_n (pc := 2) dX8_sureNow_2 rfl rfl ?_
      refine V_iconst (pc := 3) (v := 4) dX8_sureNow_3 (by decide) ?_
      refine V_icmpgt (pc := 4) (tgt := 112) dX8_sureNow_4 (by decide) (fun h4 => ?_) (fun h4 => ?_)
      · have h4 := (nI_ltI (a := 4) (b := d) (by omega) (by omega)).mp h4; obtain rfl : d = 5 := by omega
        refine V_iconst (pc := 112) (v := (-1)) dX8_sureNow_112 (by decide) ?_
        refine V_iret (pc := 113) dX8_sureNow_113 rfl ?_
        exact ⟨by rw [hsd]; exact congrArg (fun z => some (Value.int z)) (if_pos rfl).symm, hF⟩
      have hlt : d < 5 := by have := mt (nI_ltI (a := 4) (b := d) (by omega) (by omega)).mpr h4; omega
      refine V_iconst (pc := 7) (v := 0) dX8_sureNow_7 (by decide) ?_
      refine V_istore3 (pc := 8) dX8_sureNow_8 (by decide) rfl ?_
      have loopB : ∀ (nB S : Nat) (μ2 : Mm) (y4 : Value), S ≤ 64 → 64 < S + nB → (∀ e, e < d → ChZ μ2 (aTn a) (aOw a) (sK (aS a) i) e) → (FrK 79 μ μ2) → (∀ T p, T < S → p ≤ 9 → μ2.1 79 (640 * d + 10 * T + p) = bI (decide (chT (aTn a) (aOw a) (sK (aS a) i) d p (63 - T) = 30 ^ d))) → V l g RX8 cX8_sureNow 5 (some .int) 3 9 [.ref 65, .int (nI i), .int (nI d), .int (nI S), y4] [] μ2 (fun r μ' => r = some (.int (if suD (aTn a) (aOw a) (sK (aS a) i) (sP (aS a) i) (63 - sS (aS a)) 5 = 5 then -1 else nI (suD (aTn a) (aOw a) (sK (aS a) i) (sP (aS a) i) (63 - sS (aS a)) 5))) ∧ FrK 79 μ μ') := by
        intro nB
        induction nB with
        | zero => intro S μ2 y4 h1 h2; exact absurd h2 (by omega)
        | succ nB ihB =>
          intro S μ2 y4 hleB hfuB hv2 hF2 hw2
          refine V_iload_n (pc := 9) dX8_sureNow_9 rfl rfl ?_
          refine V_bipush (pc := 10) (v := 64) dX8_sureNow_10 (by decide) ?_
          refine V_icmpge (pc := 12) (tgt := 82) dX8_sureNow_12 (by decide) (fun h12 => ?_) (fun h12 => ?_)
          · have h12 := (nI_leI (a := 64) (b := S) (by decide) (by omega)).mp h12; obtain rfl : S = 64 := by omega
            refine V_aload_n (pc := 82) dX8_sureNow_82 rfl rfl ?_
            refine V_getR (pc := 83) (ci := 8) (j := 27) (k2 := 79) dX8_sureNow_83 fl_X8_55 (fun _ _ _ _ => rfl) (by decide) rfl (rf_8_27 rfl) ?_
            refine V_iload_n (pc := 86) dX8_sureNow_86 rfl rfl ?_
            refine V_aload_n (pc := 87) dX8_sureNow_87 rfl rfl ?_
            refine V_getI (pc := 88) (ci := 8) (j := 11) dX8_sureNow_88 fl_X8_132 (fun _ _ _ _ => rfl) (by decide) rfl ?_
            rw [show μ2.1 65 11 = nI (sS (aS a)) from by rw [hF2.1 65 (by decide)]; exact m7]
            refine V_aload_n (pc := 91) dX8_sureNow_91 rfl rfl ?_
            refine V_getR (pc := 92) (ci := 8) (j := 7) (k2 := 69) dX8_sureNow_92 fl_X8_19 (fun _ _ _ _ => rfl) (by decide) rfl (rf_8_7 rfl) ?_
            refine V_iload_n (pc := 95) dX8_sureNow_95 rfl rfl ?_
            refine V_iald (pc := 96) (j := i) dX8_sureNow_96 (by decide) rfl rfl (by show i < 6; omega) ?_
            rw [show μ2.1 69 i = nI (sP (aS a) i) from by rw [hF2.1 69 (by decide)]; exact n2]
            refine V_ins3 (pc := 97) dX8_sureNow_97 ml_X8_182 (by first | decide | omega) (Nat.le_of_ble_eq_true rfl) (c_X8_at μ2) ?_
            rintro _ μ2 ⟨rfl, hμ⟩
            obtain rfl := hμ.symm
            refine V_zald (pc := 100) (j := (640 * d + 10 * sS (aS a) + sP (aS a) i)) dX8_sureNow_100 (by decide) rfl rfl (by show _ < 3200; omega) ?_
            rw [hw2 (sS (aS a)) (sP (aS a) i) s2 p9]
            refine V_ifeq (pc := 101) (tgt := 106) dX8_sureNow_101 (by decide) (fun h101 => ?_) (fun h101 => ?_)
            · have h101 := of_decide_eq_false (bI_e h101)
              refine V_iinc2 (pc := 106) (v := nI (d + 1)) dX8_sureNow_106 (nI_1 d) (by decide) rfl ?_
              refine V_goto (pc := 109) (tgt := 2) dX8_sureNow_109 (by decide) ?_
              refine ihA (d + 1) μ2 _ _ (by omega) (by omega) (fun e1 he => ?_) hF2 (by rw [hsd]; exact suD_miss hlt h101)
              by_cases ee : e1 = d
              · rw [ee]; exact fun T q hT hq => hw2 T q hT hq
              · exact hv2 e1 (by omega)
            have h101 := of_decide_eq_true (bI_ne h101)
            refine V_iload_n (pc := 104) dX8_sureNow_104 rfl rfl ?_
            refine V_iret (pc := 105) dX8_sureNow_105 rfl ?_
            exact ⟨by rw [hsd, suD_hit hlt h101, if_neg (by omega)], hF2⟩
          have hlt : S < 64 := nI_l3 (a := 64) (by decide) (by omega) h12
          refine V_iconst (pc := 15) (v := 0) dX8_sureNow_15 (by decide) ?_
          refine V_istore4 (pc := 16) dX8_sureNow_16 (by decide) rfl ?_
          have loopC : ∀ (nC p : Nat) (μ3 : Mm), p ≤ 10 → 10 < p + nC → (∀ e, e < d → ChZ μ3 (aTn a) (aOw a) (sK (aS a) i) e) → (FrK 79 μ μ3) → (∀ T p, T < S → p ≤ 9 → μ3.1 79 (640 * d + 10 * T + p) = bI (decide (chT (aTn a) (aOw a) (sK (aS a) i) d p (63 - T) = 30 ^ d))) → (∀ q, q < p → μ3.1 79 (640 * d + 10 * S + q) = bI (decide (chT (aTn a) (aOw a) (sK (aS a) i) d q (63 - S) = 30 ^ d))) → V l g RX8 cX8_sureNow 5 (some .int) 3 18 [.ref 65, .int (nI i), .int (nI d), .int (nI S), .int (nI p)] [] μ3 (fun r μ' => r = some (.int (if suD (aTn a) (aOw a) (sK (aS a) i) (sP (aS a) i) (63 - sS (aS a)) 5 = 5 then -1 else nI (suD (aTn a) (aOw a) (sK (aS a) i) (sP (aS a) i) (63 - sS (aS a)) 5))) ∧ FrK 79 μ μ') := by
            intro nC
            induction nC with
            | zero => intro p μ3 h1 h2; exact absurd h2 (by omega)
            | succ nC ihC =>
              intro p μ3 hleC hfuC hv3 hF3 hw3 hz3
              refine V_iload (pc := 18) dX8_sureNow_18 rfl ?_
              refine V_bipush (pc := 20) (v := 10) dX8_sureNow_20 (by decide) ?_
              refine V_icmpge (pc := 22) (tgt := 76) dX8_sureNow_22 (by decide) (fun h22 => ?_) (fun h22 => ?_)
              · have h22 := (nI_leI (a := 10) (b := p) (by decide) (by omega)).mp h22; obtain rfl : p = 10 := by omega
                refine V_iinc3 (pc := 76) (v := nI (S + 1)) dX8_sureNow_76 (nI_1 S) (by decide) rfl ?_
                refine V_goto (pc := 79) (tgt := 9) dX8_sureNow_79 (by decide) ?_
                exact ihB (S + 1) μ3 _ (by omega) (by omega) hv3 hF3 (fun T q hT hq => by
                  by_cases eT : T = S
                  · rw [eT]; exact hz3 q (by omega)
                  · exact hw3 T q (by omega) hq)
              have hlt : p < 10 := nI_l3 (a := 10) (by decide) (by omega) h22
              refine V_aload_n (pc := 25) dX8_sureNow_25 rfl rfl ?_
              refine V_getR (pc := 26) (ci := 8) (j := 27) (k2 := 79) dX8_sureNow_26 fl_X8_55 (fun _ _ _ _ => rfl) (by decide) rfl (rf_8_27 rfl) ?_
              refine V_iload_n (pc := 29) dX8_sureNow_29 rfl rfl ?_
              refine V_iload_n (pc := 30) dX8_sureNow_30 rfl rfl ?_
              refine V_iload (pc := 31) dX8_sureNow_31 rfl ?_
              refine V_ins3 (pc := 33) dX8_sureNow_33 ml_X8_182 (by first | decide | omega) (Nat.le_of_ble_eq_true rfl) (c_X8_at μ3) ?_
              rintro _ μ2 ⟨rfl, hμ⟩
              obtain rfl := hμ.symm
              refine V_iload (pc := 36) dX8_sureNow_36 rfl ?_
              refine V_bipush (pc := 38) (v := 9) dX8_sureNow_38 (by decide) ?_
              refine V_icmpeq (pc := 40) (tgt := 64) dX8_sureNow_40 (by decide) (fun h40 => ?_) (fun h40 => ?_)
              · have h40 := (nI_eq (a := p) (b := 9) (by omega) (by decide)).mp h40; have hval : bI (decide (chT (aTn a) (aOw a) (sK (aS a) i) d p (63 - S) = 30 ^ d)) = 1 := by rw [h40, chT9, decide_eq_true rfl]; rfl
                refine V_iconst (pc := 64) (v := 1) dX8_sureNow_64 (by decide) ?_
                refine V_goto (pc := 65) (tgt := 69) dX8_sureNow_65 (by decide) ?_
                refine V_zast (pc := 69) dX8_sureNow_69 (by decide) rfl rfl (by show _ < 3200; omega) ?_
                refine V_iinc4 (pc := 70) (v := nI (p + 1)) dX8_sureNow_70 (nI_1 p) (by decide) rfl ?_
                refine V_goto (pc := 73) (tgt := 18) dX8_sureNow_73 (by decide) ?_
                refine ihC (p + 1) _ (by omega) (by omega) (fun e1 he T q hT hq => by rw [get_ne (by omega)]; exact hv3 e1 he T q hT hq) hF3.set (fun T q hT hq => by rw [get_ne (by omega)]; exact hw3 T q hT hq) (fun q hq => ?_)
                by_cases eq : q = p
                · rw [eq, get_eq, hval]; rfl
                · rw [get_ne (by omega)]; exact hz3 q (by omega)
              have h40 := mt (nI_eq (a := p) (b := 9) (by omega) (by omega)).mpr h40
              refine V_iload_n (pc := 43) dX8_sureNow_43 rfl rfl ?_
              refine V_ifle (pc := 44) (tgt := 68) dX8_sureNow_44 (by decide) (fun h44 => ?_) (fun h44 => ?_)
              · have h44 := (nI_leI (a := d) (b := 0) (by omega) (by decide)).mp h44; have h44 : d = 0 := (by omega); have hval : bI (decide (chT (aTn a) (aOw a) (sK (aS a) i) d p (63 - S) = 30 ^ d)) = 0 := by subst h44; rw [decide_eq_false (show ¬ chT (aTn a) (aOw a) (sK (aS a) i) 0 p (63 - S) = 30 ^ 0 from by rw [show chT (aTn a) (aOw a) (sK (aS a) i) 0 p (63 - S) = 0 from if_neg h40]; decide)]; rfl
                refine V_iconst (pc := 68) (v := 0) dX8_sureNow_68 (by decide) ?_
                refine V_zast (pc := 69) dX8_sureNow_69 (by decide) rfl rfl (by show _ < 3200; omega) ?_
                refine V_iinc4 (pc := 70) (v := nI (p + 1)) dX8_sureNow_70 (nI_1 p) (by decide) rfl ?_
                refine V_goto (pc := 73) (tgt := 18) dX8_sureNow_73 (by decide) ?_
                refine ihC (p + 1) _ (by omega) (by omega) (fun e1 he T q hT hq => by rw [get_ne (by omega)]; exact hv3 e1 he T q hT hq) hF3.set (fun T q hT hq => by rw [get_ne (by omega)]; exact hw3 T q hT hq) (fun q hq => ?_)
                by_cases eq : q = p
                · rw [eq, get_eq, hval]; rfl
                · rw [get_ne (by omega)]; exact hz3 q (by omega)
              have h44 := mt (nI_leI (a := d) (b := 0) (by omega) (by decide)).mpr h44; obtain ⟨e, rfl⟩ : ∃ e, d = e + 1 := ⟨d - 1, by omega⟩
              refine V_aload_n (pc := 47) dX8_sureNow_47 rfl rfl ?_
              refine V_aload_n (pc := 48) dX8_sureNow_48 rfl rfl ?_
              refine V_getR (pc := 49) (ci := 8) (j := 6) (k2 := 68) dX8_sureNow_49 fl_X8_16 (fun _ _ _ _ => rfl) (by decide) rfl (rf_8_6 rfl) ?_
              refine V_iload_n (pc := 52) dX8_sureNow_52 rfl rfl ?_
              refine V_iald (pc := 53) (j := i) dX8_sureNow_53 (by decide) rfl rfl (by show i < 6; omega) ?_
              rw [show μ3.1 68 i = nI (sK (aS a) i) from by rw [hF3.1 68 (by decide)]; exact n1]
              refine V_iload_n (pc := 54) dX8_sureNow_54 rfl rfl ?_
              refine V_iload_n (pc := 55) dX8_sureNow_55 rfl rfl ?_
              refine V_iload (pc := 56) dX8_sureNow_56 rfl ?_
              refine V_inv4 (pc := 58) (ci := 8) dX8_sureNow_58 ml_X8_224 (by decide) rfl ⟨by decide, rfl⟩ (by first | decide | omega) (Nat.le_of_ble_eq_true rfl) (c_X8_isSure (d := e) μ3 hO (hM.ofK hF3 (by omega)) hnb k4 (by omega) (show S < 64 by omega) (by omega) (hv3 e (by omega))) ?_
              rintro _ μ2 ⟨rfl, hμ⟩
              obtain rfl := hμ.symm
              refine V_ifeq (pc := 61) (tgt := 68) dX8_sureNow_61 (by decide) (fun h61 => ?_) (fun h61 => ?_)
              · have h61 := of_decide_eq_false (bI_e h61); have hval : bI (decide (chT (aTn a) (aOw a) (sK (aS a) i) (e + 1) p (63 - S) = 30 ^ (e + 1))) = 0 := by rw [decide_eq_false (fun q => h61 (by rw [← q]; exact (show chT (aTn a) (aOw a) (sK (aS a) i) (e + 1) p (63 - S) = suT (aTn a) (aOw a) (sK (aS a) i) (chT (aTn a) (aOw a) (sK (aS a) i) e) p (63 - S) 3 from if_neg h40).symm))]; rfl
                refine V_iconst (pc := 68) (v := 0) dX8_sureNow_68 (by decide) ?_
                refine V_zast (pc := 69) dX8_sureNow_69 (by decide) rfl rfl (by show _ < 3200; omega) ?_
                refine V_iinc4 (pc := 70) (v := nI (p + 1)) dX8_sureNow_70 (nI_1 p) (by decide) rfl ?_
                refine V_goto (pc := 73) (tgt := 18) dX8_sureNow_73 (by decide) ?_
                refine ihC (p + 1) _ (by omega) (by omega) (fun e1 he T q hT hq => by rw [get_ne (by omega)]; exact hv3 e1 he T q hT hq) hF3.set (fun T q hT hq => by rw [get_ne (by omega)]; exact hw3 T q hT hq) (fun q hq => ?_)
                by_cases eq : q = p
                · rw [eq, get_eq, hval]; rfl
                · rw [get_ne (by omega)]; exact hz3 q (by omega)
              have h61 := of_decide_eq_true (bI_ne h61); have hval : bI (decide (chT (aTn a) (aOw a) (sK (aS a) i) (e + 1) p (63 - S) = 30 ^ (e + 1))) = 1 := by rw [decide_eq_true (show chT (aTn a) (aOw a) (sK (aS a) i) (e + 1) p (63 - S) = 30 ^ (e + 1) by rw [show chT (aTn a) (aOw a) (sK (aS a) i) (e + 1) p (63 - S) = suT (aTn a) (aOw a) (sK (aS a) i) (chT (aTn a) (aOw a) (sK (aS a) i) e) p (63 - S) 3 from if_neg h40]; exact h61)]; rfl
              refine V_iconst (pc := 64) (v := 1) dX8_sureNow_64 (by decide) ?_
              refine V_goto (pc := 65) (tgt := 69) dX8_sureNow_65 (by decide) ?_
              refine V_zast (pc := 69) dX8_sureNow_69 (by decide) rfl rfl (by show _ < 3200; omega) ?_
              refine V_iinc4 (pc := 70) (v := nI (p + 1)) dX8_sureNow_70 (nI_1 p) (by decide) rfl ?_
              refine V_goto (pc := 73) (tgt := 18) dX8_sureNow_73 (by decide) ?_
              refine ihC (p + 1) _ (by omega) (by omega) (fun e1 he T q hT hq => by rw [get_ne (by omega)]; exact hv3 e1 he T q hT hq) hF3.set (fun T q hT hq => by rw [get_ne (by omega)]; exact hw3 T q hT hq) (fun q hq => ?_)
              by_cases eq : q = p
              · rw [eq, get_eq, hval]; rfl
              · rw [get_ne (by omega)]; exact hz3 q (by omega)
          exact loopC (10 + 1) 0 _ (by omega) (by omega) hv2 hF2 hw2 (fun q hq => absurd hq (by omega))
      exact loopB (64 + 1) 0 _ _ (by omega) (by omega) hv hF (fun T p hT => absurd hT (by omega))
  exact loopA (5 + 1) 0 _ _ _ (by omega) (by omega) (fun e he => absurd he (by omega)) FrK.rf rfl
theorem dX8_sure_0 : decode cX8_sure 0 = .ok (.aload_n 0, 1) := by decide +kernel
theorem dX8_sure_1 : decode cX8_sure 1 = .ok (.iload_n 1, 1) := by decide +kernel
theorem dX8_sure_2 : decode cX8_sure 2 = .ok (.invokevirtual 150, 3) := by decide +kernel
theorem dX8_sure_5 : decode cX8_sure 5 = .ok (.ifCond .eq 11, 3) := by decide +kernel
theorem dX8_sure_8 : decode cX8_sure 8 = .ok (.aload_n 0, 1) := by decide +kernel
theorem dX8_sure_9 : decode cX8_sure 9 = .ok (.iload_n 1, 1) := by decide +kernel
theorem dX8_sure_10 : decode cX8_sure 10 = .ok (.invokevirtual 228, 3) := by decide +kernel
theorem dX8_sure_13 : decode cX8_sure 13 = .ok (.goto 5, 3) := by decide +kernel
theorem dX8_sure_16 : decode cX8_sure 16 = .ok (.bipush (-101), 2) := by decide +kernel
theorem dX8_sure_18 : decode cX8_sure 18 = .ok (.ireturn, 1) := by decide +kernel
set_option maxHeartbeats 4000000 in
set_option maxRecDepth 100000 in
theorem c_X8_sure {l : Launch} {g : GW} {a : AT} {x : Int32} (μ : Mm) (hO : AOK a) (hM : RM μ a) (hJ : AJ a) : Con l g yX8_sure cX8_sure 2 (some .int) 4 [.ref 65, .int x] μ (fun r μ' => r = some (.int (fSure a x)) ∧ RM μ' a ∧ FrX μ μ') := by
  obtain ⟨m1, m2, m3, m4, m5, m6, m7, m8, m9, m10, m11, m12, m13⟩ := id hM
  obtain ⟨o1, o2, o3, o4, o5, ⟨s1, s2, s3, s4⟩, oK, o8, o9, o10⟩ := id hO
  refine Con.of [.ref 65, .int x] 0 (by decide +kernel) (Nat.le_of_ble_eq_true rfl) rfl ?_
  refine V_aload_n (pc := 0) dX8_sure_0 rfl rfl ?_
  refine V_iload_n (pc := 1) dX8_sure_1 rfl rfl ?_
  refine V_inv1 (pc := 2) (ci := 8) dX8_sure_2 ml_X8_150 (by decide) rfl ⟨by decide, rfl⟩ (by first | decide | omega) (Nat.le_of_ble_eq_true rfl) (c_X8_isShip μ hO hM) ?_
  rintro _ μ2 ⟨rfl, hμ⟩
  obtain rfl := hμ.symm
  refine V_ifeq (pc := 5) (tgt := 16) dX8_sure_5 (by decide) (fun h5 => ?_) (fun h5 => ?_)
  · have h5 := bI_e h5
    refine V_bipush (pc := 16) (v := (-101)) dX8_sure_16 (by decide) ?_
    refine V_iret (pc := 18) dX8_sure_18 rfl ?_
    first
    | (refine ⟨congrArg (fun z => some (Value.int z)) ?_, hM.ofK q2 (by omega), q2.X (by omega)⟩; simp only [fSure, h5, if_true, nn_nI (j := i) (by omega)]; done)
    | (refine ⟨congrArg (fun z => some (Value.int z)) ?_, hM, FrX.rf⟩; simp [fSure, h5]; done)
  have h5 := bI_ne h5; obtain ⟨i, hi, rfl⟩ := inN_of (by omega) h5; have hnb : 0 < aNb a := by rcases Nat.eq_zero_or_pos (aNb a) with q | q; have := (hJ.1 q).1; omega; exact q
  refine V_aload_n (pc := 8) dX8_sure_8 rfl rfl ?_
  refine V_iload_n (pc := 9) dX8_sure_9 rfl rfl ?_
  refine V_inv1 (pc := 10) (ci := 8) dX8_sure_10 ml_X8_228 (by decide) rfl ⟨by decide, rfl⟩ (by first | decide | omega) (Nat.le_of_ble_eq_true rfl) (c_X8_sureNow μ hO hM hnb hi) ?_
  rintro _ μ1 ⟨rfl, q2⟩
  refine V_goto (pc := 13) (tgt := 18) dX8_sure_13 (by decide) ?_
  refine V_iret (pc := 18) dX8_sure_18 rfl ?_
  first
  | (refine ⟨congrArg (fun z => some (Value.int z)) ?_, hM.ofK q2 (by omega), q2.X (by omega)⟩; simp only [fSure, h5, if_true, nn_nI (j := i) (by omega)]; done)
  | (refine ⟨congrArg (fun z => some (Value.int z)) ?_, hM, FrX.rf⟩; simp [fSure, h5]; done)
