theorem dJ7_fill_53178_0 : decode cJ7_fill_53178 0 = .ok (.iconst 0, 1) := by decide +kernel
theorem dJ7_fill_53178_1 : decode cJ7_fill_53178 1 = .ok (.istore_n 2, 1) := by decide +kernel
theorem dJ7_fill_53178_2 : decode cJ7_fill_53178 2 = .ok (.aload_n 0, 1) := by decide +kernel
theorem dJ7_fill_53178_3 : decode cJ7_fill_53178 3 = .ok (.arraylength, 1) := by decide +kernel
theorem dJ7_fill_53178_4 : decode cJ7_fill_53178 4 = .ok (.istore_n 3, 1) := by decide +kernel
theorem dJ7_fill_53178_5 : decode cJ7_fill_53178 5 = .ok (.iload_n 2, 1) := by decide +kernel
theorem dJ7_fill_53178_6 : decode cJ7_fill_53178 6 = .ok (.iload_n 3, 1) := by decide +kernel
theorem dJ7_fill_53178_7 : decode cJ7_fill_53178 7 = .ok (.if_icmp .ge 13, 3) := by decide +kernel
theorem dJ7_fill_53178_10 : decode cJ7_fill_53178 10 = .ok (.aload_n 0, 1) := by decide +kernel
theorem dJ7_fill_53178_11 : decode cJ7_fill_53178 11 = .ok (.iload_n 2, 1) := by decide +kernel
theorem dJ7_fill_53178_12 : decode cJ7_fill_53178 12 = .ok (.iload_n 1, 1) := by decide +kernel
theorem dJ7_fill_53178_13 : decode cJ7_fill_53178 13 = .ok (.iastore, 1) := by decide +kernel
theorem dJ7_fill_53178_14 : decode cJ7_fill_53178 14 = .ok (.iinc 2 1, 3) := by decide +kernel
theorem dJ7_fill_53178_17 : decode cJ7_fill_53178 17 = .ok (.goto (-12), 3) := by decide +kernel
theorem dJ7_fill_53178_20 : decode cJ7_fill_53178 20 = .ok (.return_, 1) := by decide +kernel
set_option maxHeartbeats 4000000 in
set_option maxRecDepth 100000 in
theorem c_J7_fill_53178 {l : Launch} {g : GW} {z : Nat} {v : Int32} (μ : Mm) (hz : z < 88) (hzt : kt z = 10) : Con l g yJ7_fill_53178 cJ7_fill_53178 4 none 0 [.ref z, .int v] μ (fun r μ' => r = none ∧ (∀ j, j < kn z → μ'.1 z j = v) ∧ FrM (fun k => k = z) μ μ') := by
  have hkn := kn_lt z
  refine Con.of [.ref z, .int v, .null, .null] 2 (by decide +kernel) (Nat.le_of_ble_eq_true rfl) rfl ?_
  refine V_iconst (pc := 0) (v := 0) dJ7_fill_53178_0 (by decide) ?_
  refine V_istore2 (pc := 1) dJ7_fill_53178_1 (by decide) rfl ?_
  refine V_aload_n (pc := 2) dJ7_fill_53178_2 rfl rfl ?_
  refine V_alen (pc := 3) dJ7_fill_53178_3 (by first | decide | omega) (by first | rfl | assumption | decide) ?_
  refine V_istore3 (pc := 4) dJ7_fill_53178_4 (by decide) rfl ?_
  have loop : ∀ (n i : Nat) (μ1 : Mm), i ≤ kn z → kn z < i + n → (∀ j, j < i → μ1.1 z j = v) → (FrM (fun k => k = z) μ μ1) → V l g RJ7 cJ7_fill_53178 4 none 0 5 [.ref z, .int v, .int (nI i), .int (nI (kn z))] [] μ1 (fun r μ' => r = none ∧ (∀ j, j < kn z → μ'.1 z j = v) ∧ FrM (fun k => k = z) μ μ') := by
    intro n
    induction n with
    | zero => intro i μ1 h1 h2; exact absurd h2 (by omega)
    | succ n ih =>
      intro i μ1 hle hfu hv hF
      refine V_iload_n (pc := 5) dJ7_fill_53178_5 rfl rfl ?_
      refine V_iload_n (pc := 6) dJ7_fill_53178_6 rfl rfl ?_
      refine V_icmpge (pc := 7) (tgt := 20) dJ7_fill_53178_7 (by decide) (fun h7 => ?_) (fun h7 => ?_)
      · have h7 := (nI_leI (a := kn z) (b := i) (by omega) (by omega)).mp h7; obtain rfl : i = kn z := by omega
        refine V_vret (pc := 20) dJ7_fill_53178_20 rfl ?_
        exact ⟨rfl, hv, hF⟩
      have hlt : i < kn z := nI_l3 (by omega) (by omega) h7
      refine V_aload_n (pc := 10) dJ7_fill_53178_10 rfl rfl ?_
      refine V_iload_n (pc := 11) dJ7_fill_53178_11 rfl rfl ?_
      refine V_iload_n (pc := 12) dJ7_fill_53178_12 rfl rfl ?_
      refine V_iast (pc := 13) (j := i) dJ7_fill_53178_13 (by first | decide | omega) (by first | rfl | assumption | decide) rfl hlt ?_
      refine V_iinc2 (pc := 14) (v := nI (i + 1)) dJ7_fill_53178_14 (nI_1 i) (by decide) rfl ?_
      refine V_goto (pc := 17) (tgt := 5) dJ7_fill_53178_17 (by decide) ?_
      refine ih (i + 1) _ (by omega) (by omega) (fun j hj => ?_) (FrM.set hF rfl)
      by_cases e : j = i
      · rw [e]; exact get_eq
      · rw [get_ne (fun q => e q.2)]; exact hv j (by omega)
  exact loop (kn z + 1) 0 _ (by omega) (by omega) (fun j hj => absurd hj (by omega)) FrM.rf
theorem dX0_clear_0 : decode cX0_clear 0 = .ok (.iconst 0, 1) := by decide +kernel
theorem dX0_clear_1 : decode cX0_clear 1 = .ok (.istore_n 1, 1) := by decide +kernel
theorem dX0_clear_2 : decode cX0_clear 2 = .ok (.iload_n 1, 1) := by decide +kernel
theorem dX0_clear_3 : decode cX0_clear 3 = .ok (.iconst 4, 1) := by decide +kernel
theorem dX0_clear_4 : decode cX0_clear 4 = .ok (.if_icmp .ge 19, 3) := by decide +kernel
theorem dX0_clear_7 : decode cX0_clear 7 = .ok (.aload_n 0, 1) := by decide +kernel
theorem dX0_clear_8 : decode cX0_clear 8 = .ok (.getfield 11, 3) := by decide +kernel
theorem dX0_clear_11 : decode cX0_clear 11 = .ok (.iload_n 1, 1) := by decide +kernel
theorem dX0_clear_12 : decode cX0_clear 12 = .ok (.aaload, 1) := by decide +kernel
theorem dX0_clear_13 : decode cX0_clear 13 = .ok (.iconst 0, 1) := by decide +kernel
theorem dX0_clear_14 : decode cX0_clear 14 = .ok (.invokestatic 23, 3) := by decide +kernel
theorem dX0_clear_17 : decode cX0_clear 17 = .ok (.iinc 1 1, 3) := by decide +kernel
theorem dX0_clear_20 : decode cX0_clear 20 = .ok (.goto (-18), 3) := by decide +kernel
theorem dX0_clear_23 : decode cX0_clear 23 = .ok (.aload_n 0, 1) := by decide +kernel
theorem dX0_clear_24 : decode cX0_clear 24 = .ok (.getfield 11, 3) := by decide +kernel
theorem dX0_clear_27 : decode cX0_clear 27 = .ok (.iconst 4, 1) := by decide +kernel
theorem dX0_clear_28 : decode cX0_clear 28 = .ok (.aaload, 1) := by decide +kernel
theorem dX0_clear_29 : decode cX0_clear 29 = .ok (.bipush 10, 2) := by decide +kernel
theorem dX0_clear_31 : decode cX0_clear 31 = .ok (.invokestatic 23, 3) := by decide +kernel
theorem dX0_clear_34 : decode cX0_clear 34 = .ok (.aload_n 0, 1) := by decide +kernel
theorem dX0_clear_35 : decode cX0_clear 35 = .ok (.getfield 16, 3) := by decide +kernel
theorem dX0_clear_38 : decode cX0_clear 38 = .ok (.iconst (-1), 1) := by decide +kernel
theorem dX0_clear_39 : decode cX0_clear 39 = .ok (.invokestatic 23, 3) := by decide +kernel
theorem dX0_clear_42 : decode cX0_clear 42 = .ok (.return_, 1) := by decide +kernel
set_option maxHeartbeats 4000000 in
set_option maxRecDepth 100000 in
theorem c_X0_clear {l : Launch} {g : GW} {b : Nat} (μ : Mm) (hb : b = 49 ∨ b = 57) : Con l g yX0_clear cX0_clear 2 none 1 [.ref b] μ (fun r μ' => r = none ∧ BkR μ' b (fun w _ => if w = 4 then 10 else 0) (fun _ => 0) ∧ FrM (fun k => b + 2 ≤ k ∧ k ≤ b + 7) μ μ') := by
  obtain ⟨hb1, hb2, hb3, hb4, hb5, hb6, hrow⟩ := bkF hb
  refine Con.of [.ref b, .null] 1 (by decide +kernel) (Nat.le_of_ble_eq_true rfl) rfl ?_
  refine V_iconst (pc := 0) (v := 0) dX0_clear_0 (by decide) ?_
  refine V_istore1 (pc := 1) dX0_clear_1 (by decide) rfl ?_
  have loop : ∀ (n i : Nat) (μ1 : Mm), i ≤ 4 → 4 < i + n → (∀ w, w < i → ∀ s, s < 3 → μ1.1 (b + 1 + 1 + w) s = 0) → (FrM (fun k => b + 2 ≤ k ∧ k ≤ b + 7) μ μ1) → V l g RX0 cX0_clear 2 none 1 2 [.ref b, .int (nI i)] [] μ1 (fun r μ' => r = none ∧ BkR μ' b (fun w _ => if w = 4 then 10 else 0) (fun _ => 0) ∧ FrM (fun k => b + 2 ≤ k ∧ k ≤ b + 7) μ μ') := by
    intro n
    induction n with
    | zero => intro i μ1 h1 h2; exact absurd h2 (by omega)
    | succ n ih =>
      intro i μ1 hle hfu hv hF
      refine V_iload_n (pc := 2) dX0_clear_2 rfl rfl ?_
      refine V_iconst (pc := 3) (v := 4) dX0_clear_3 (by decide) ?_
      refine V_icmpge (pc := 4) (tgt := 23) dX0_clear_4 (by decide) (fun h4 => ?_) (fun h4 => ?_)
      · have h4 := (nI_leI (a := 4) (b := i) (by decide) (by omega)).mp h4; obtain rfl : i = 4 := by omega
        refine V_aload_n (pc := 23) dX0_clear_23 rfl rfl ?_
        refine V_getR (pc := 24) (ci := 0) (j := 0) (k2 := (b + 1)) dX0_clear_24 fl_X0_11 (fun _ _ _ _ => rfl) (by first | decide | omega) (by first | rfl | assumption | exact (hrow _ (by omega)).2.1 | decide) (rf_0_0 (by first | rfl | assumption | exact (hrow _ (by omega)).2.1 | decide)) ?_
        refine V_iconst (pc := 27) (v := 4) dX0_clear_27 (by decide) ?_
        refine V_aald15 (pc := 28) (j := 4) dX0_clear_28 (by first | decide | omega) (by first | rfl | assumption | exact (hrow _ (by omega)).2.1 | decide) rfl (by omega) ?_
        refine V_bipush (pc := 29) (v := 10) dX0_clear_29 (by decide) ?_
        refine V_ins2 (pc := 31) dX0_clear_31 ml_X0_23 (by first | decide | omega) (Nat.le_of_ble_eq_true rfl) (c_J7_fill_53178 μ1 (hrow 4 (by omega)).1 (hrow 4 (by omega)).2.1) ?_
        rintro _ μ2 ⟨rfl, hv2, hF2⟩
        refine V_aload_n (pc := 34) dX0_clear_34 rfl rfl ?_
        refine V_getR (pc := 35) (ci := 0) (j := 1) (k2 := (b + 7)) dX0_clear_35 fl_X0_16 (fun _ _ _ _ => rfl) (by first | decide | omega) (by first | rfl | assumption | exact (hrow _ (by omega)).2.1 | decide) (rf_0_1 (by first | rfl | assumption | exact (hrow _ (by omega)).2.1 | decide)) ?_
        refine V_iconst (pc := 38) (v := (-1)) dX0_clear_38 (by decide) ?_
        refine V_ins2 (pc := 39) dX0_clear_39 ml_X0_23 (by first | decide | omega) (Nat.le_of_ble_eq_true rfl) (c_J7_fill_53178 μ2 (by omega) hb5) ?_
        rintro _ μ3 ⟨rfl, hv3, hF3⟩
        refine V_vret (pc := 42) dX0_clear_42 rfl ?_
        refine ⟨rfl, ⟨fun w s hw hs => ?_, fun n hn => ?_, fun n hn => Nat.zero_le 4, fun s hs => by simp⟩, (hF.tr hF2 (fun k hk => by have : k = b + 1 + 1 + 4 := hk; omega)).tr hF3 (fun k hk => by have : k = b + 7 := hk; omega)⟩
        · rw [hF3.1 _ (fun q => by have : b + 1 + 1 + w = b + 7 := q; omega)]
          by_cases e : w = 4
          · subst e
            exact hv2 s (by have := (hrow 4 (by omega)).2.2; omega)
          · rw [hF2.1 _ (fun q => e (by have : b + 1 + 1 + w = b + 1 + 1 + 4 := q; omega))]
            show _ = nI (if w = 4 then 10 else 0)
            rw [if_neg e]
            exact hv w (by omega) s hs
        · rw [hv3 n (by omega)]; rfl
      have hlt : i < 4 := nI_l3 (a := 4) (by decide) (by omega) h4
      refine V_aload_n (pc := 7) dX0_clear_7 rfl rfl ?_
      refine V_getR (pc := 8) (ci := 0) (j := 0) (k2 := (b + 1)) dX0_clear_8 fl_X0_11 (fun _ _ _ _ => rfl) (by first | decide | omega) (by first | rfl | assumption | exact (hrow _ (by omega)).2.1 | decide) (rf_0_0 (by first | rfl | assumption | exact (hrow _ (by omega)).2.1 | decide)) ?_
      refine V_iload_n (pc := 11) dX0_clear_11 rfl rfl ?_
      refine V_aald15 (pc := 12) (j := i) dX0_clear_12 (by first | decide | omega) (by first | rfl | assumption | exact (hrow _ (by omega)).2.1 | decide) rfl (by omega) ?_
      refine V_iconst (pc := 13) (v := 0) dX0_clear_13 (by decide) ?_
      refine V_ins2 (pc := 14) dX0_clear_14 ml_X0_23 (by first | decide | omega) (Nat.le_of_ble_eq_true rfl) (c_J7_fill_53178 μ1 (hrow i (by omega)).1 (hrow i (by omega)).2.1) ?_
      rintro _ μ2 ⟨rfl, hv2, hF2⟩
      refine V_iinc1 (pc := 17) (v := nI (i + 1)) dX0_clear_17 (nI_1 i) (by decide) rfl ?_
      refine V_goto (pc := 20) (tgt := 2) dX0_clear_20 (by decide) ?_
      refine ih (i + 1) μ2 (by omega) (by omega) (fun w hw s hs => ?_) (hF.tr hF2 (fun k hk => by have : k = b + 1 + 1 + i := hk; omega))
      by_cases e : w = i
      · rw [e]; exact hv2 s (by have := (hrow i (by omega)).2.2; omega)
      · rw [hF2.1 _ (fun q => e (by have : b + 1 + 1 + w = b + 1 + 1 + i := q; omega))]; exact hv w (by omega) s hs
  exact loop (4 + 1) 0 _ (by omega) (by omega) (fun j hj => absurd hj (by omega)) FrM.rf
theorem dX1_begin_0 : decode cX1_begin 0 = .ok (.aload_n 0, 1) := by decide +kernel
theorem dX1_begin_1 : decode cX1_begin 1 = .ok (.iload_n 2, 1) := by decide +kernel
theorem dX1_begin_2 : decode cX1_begin 2 = .ok (.putfield 23, 3) := by decide +kernel
theorem dX1_begin_5 : decode cX1_begin 5 = .ok (.iconst 1, 1) := by decide +kernel
theorem dX1_begin_6 : decode cX1_begin 6 = .ok (.istore 4, 2) := by decide +kernel
theorem dX1_begin_8 : decode cX1_begin 8 = .ok (.iload 4, 2) := by decide +kernel
theorem dX1_begin_10 : decode cX1_begin 10 = .ok (.iload_n 3, 1) := by decide +kernel
theorem dX1_begin_11 : decode cX1_begin 11 = .ok (.if_icmp .gt 20, 3) := by decide +kernel
theorem dX1_begin_14 : decode cX1_begin 14 = .ok (.aload_n 0, 1) := by decide +kernel
theorem dX1_begin_15 : decode cX1_begin 15 = .ok (.getfield 11, 3) := by decide +kernel
theorem dX1_begin_18 : decode cX1_begin 18 = .ok (.iload 4, 2) := by decide +kernel
theorem dX1_begin_20 : decode cX1_begin 20 = .ok (.aaload, 1) := by decide +kernel
theorem dX1_begin_21 : decode cX1_begin 21 = .ok (.iconst (-1), 1) := by decide +kernel
theorem dX1_begin_22 : decode cX1_begin 22 = .ok (.invokestatic 27, 3) := by decide +kernel
theorem dX1_begin_25 : decode cX1_begin 25 = .ok (.iinc 4 1, 3) := by decide +kernel
theorem dX1_begin_28 : decode cX1_begin 28 = .ok (.goto (-20), 3) := by decide +kernel
theorem dX1_begin_31 : decode cX1_begin 31 = .ok (.iconst 0, 1) := by decide +kernel
theorem dX1_begin_32 : decode cX1_begin 32 = .ok (.istore 4, 2) := by decide +kernel
theorem dX1_begin_34 : decode cX1_begin 34 = .ok (.iload 4, 2) := by decide +kernel
theorem dX1_begin_36 : decode cX1_begin 36 = .ok (.iconst 3, 1) := by decide +kernel
theorem dX1_begin_37 : decode cX1_begin 37 = .ok (.if_icmp .ge 61, 3) := by decide +kernel
theorem dX1_begin_40 : decode cX1_begin 40 = .ok (.aload_n 0, 1) := by decide +kernel
theorem dX1_begin_41 : decode cX1_begin 41 = .ok (.getfield 19, 3) := by decide +kernel
theorem dX1_begin_44 : decode cX1_begin 44 = .ok (.iload 4, 2) := by decide +kernel
theorem dX1_begin_46 : decode cX1_begin 46 = .ok (.aload_n 1, 1) := by decide +kernel
theorem dX1_begin_47 : decode cX1_begin 47 = .ok (.getfield 33, 3) := by decide +kernel
theorem dX1_begin_50 : decode cX1_begin 50 = .ok (.iconst 4, 1) := by decide +kernel
theorem dX1_begin_51 : decode cX1_begin 51 = .ok (.aaload, 1) := by decide +kernel
theorem dX1_begin_52 : decode cX1_begin 52 = .ok (.iload 4, 2) := by decide +kernel
theorem dX1_begin_54 : decode cX1_begin 54 = .ok (.iaload, 1) := by decide +kernel
theorem dX1_begin_55 : decode cX1_begin 55 = .ok (.iastore, 1) := by decide +kernel
theorem dX1_begin_56 : decode cX1_begin 56 = .ok (.iconst (-1), 1) := by decide +kernel
theorem dX1_begin_57 : decode cX1_begin 57 = .ok (.istore 5, 2) := by decide +kernel
theorem dX1_begin_59 : decode cX1_begin 59 = .ok (.iload 5, 2) := by decide +kernel
theorem dX1_begin_61 : decode cX1_begin 61 = .ok (.bipush 6, 2) := by decide +kernel
theorem dX1_begin_63 : decode cX1_begin 63 = .ok (.if_icmp .ge 29, 3) := by decide +kernel
theorem dX1_begin_66 : decode cX1_begin 66 = .ok (.aload_n 0, 1) := by decide +kernel
theorem dX1_begin_67 : decode cX1_begin 67 = .ok (.getfield 16, 3) := by decide +kernel
theorem dX1_begin_70 : decode cX1_begin 70 = .ok (.iload 5, 2) := by decide +kernel
theorem dX1_begin_72 : decode cX1_begin 72 = .ok (.iconst 1, 1) := by decide +kernel
theorem dX1_begin_73 : decode cX1_begin 73 = .ok (.iadd, 1) := by decide +kernel
theorem dX1_begin_74 : decode cX1_begin 74 = .ok (.aaload, 1) := by decide +kernel
theorem dX1_begin_75 : decode cX1_begin 75 = .ok (.iload 4, 2) := by decide +kernel
theorem dX1_begin_77 : decode cX1_begin 77 = .ok (.aload_n 1, 1) := by decide +kernel
theorem dX1_begin_78 : decode cX1_begin 78 = .ok (.iload 5, 2) := by decide +kernel
theorem dX1_begin_80 : decode cX1_begin 80 = .ok (.iload 4, 2) := by decide +kernel
theorem dX1_begin_82 : decode cX1_begin 82 = .ok (.invokevirtual 38, 3) := by decide +kernel
theorem dX1_begin_85 : decode cX1_begin 85 = .ok (.iastore, 1) := by decide +kernel
theorem dX1_begin_86 : decode cX1_begin 86 = .ok (.iinc 5 1, 3) := by decide +kernel
theorem dX1_begin_89 : decode cX1_begin 89 = .ok (.goto (-30), 3) := by decide +kernel
theorem dX1_begin_92 : decode cX1_begin 92 = .ok (.iinc 4 1, 3) := by decide +kernel
theorem dX1_begin_95 : decode cX1_begin 95 = .ok (.goto (-61), 3) := by decide +kernel
theorem dX1_begin_98 : decode cX1_begin 98 = .ok (.return_, 1) := by decide +kernel
set_option maxHeartbeats 4000000 in
set_option maxRecDepth 100000 in
theorem c_X1_begin {l : Launch} {g : GW} {b : Nat} {tn : Nat → Nat → Nat} {ow : Nat → Nat} {κ N : Nat} (μ : Mm) (hb : b = 49 ∨ b = 57) (hB : BkR μ b tn ow) (hκ : κ ≤ 4) (hN : N ≤ 4) : Con l g yX1_begin cX1_begin 6 none 2 [.ref 33, .ref b, .int (nI κ), .int (nI N)] μ (fun r μ' => r = none ∧ FcR μ' tn ow κ ∧ MmR μ' tn ow κ N ∧ FrM (fun k => 33 ≤ k ∧ k ≤ 48) μ μ') := by
  obtain ⟨hb1, hb2, hb3, hb4, hb5, hb6, hrow⟩ := bkF hb
  refine Con.of [.ref 33, .ref b, .int (nI κ), .int (nI N), .null, .null] 2 (by decide +kernel) (Nat.le_of_ble_eq_true rfl) rfl ?_
  refine V_aload_n (pc := 0) dX1_begin_0 rfl rfl ?_
  refine V_iload_n (pc := 1) dX1_begin_1 rfl rfl ?_
  refine V_putI (pc := 2) (ci := 1) (j := 3) dX1_begin_2 fl_X1_23 (fun _ _ _ _ _ => rfl) rfl rfl (by decide) rfl ?_
  refine V_iconst (pc := 5) (v := 1) dX1_begin_5 (by decide) ?_
  refine V_istore4 (pc := 6) dX1_begin_6 (by decide) rfl ?_
  have loopA : ∀ (nA i : Nat) (μ1 : Mm), i ≤ N + 1 → N + 1 < i + nA → (∀ d, 1 ≤ d → d < i → ∀ j, j < 640 → μ1.1 (35 + d) j = -1) → (FrM (fun k => 33 ≤ k ∧ k ≤ 48) μ μ1) → (μ1.1 33 3 = nI κ) → (1 ≤ i) → V l g RX1 cX1_begin 6 none 2 8 [.ref 33, .ref b, .int (nI κ), .int (nI N), .int (nI i), .null] [] μ1 (fun r μ' => r = none ∧ FcR μ' tn ow κ ∧ MmR μ' tn ow κ N ∧ FrM (fun k => 33 ≤ k ∧ k ≤ 48) μ μ') := by
    intro nA
    induction nA with
    | zero => intro i μ1 h1 h2; exact absurd h2 (by omega)
    | succ nA ihA =>
      intro i μ1 hleA hfuA hv hF hk3 hi1
      refine V_iload (pc := 8) dX1_begin_8 rfl ?_
      refine V_iload_n (pc := 10) dX1_begin_10 rfl rfl ?_
      refine V_icmpgt (pc := 11) (tgt := 31) dX1_begin_11 (by decide) (fun h11 => ?_) (fun h11 => ?_)
      · have h11 := (nI_ltI (a := N) (b := i) (by omega) (by omega)).mp h11; obtain rfl : i = N + 1 := by omega
        refine V_iconst (pc := 31) (v := 0) dX1_begin_31 (by decide) ?_
        refine V_istore4 (pc := 32) dX1_begin_32 (by decide) rfl ?_
        have loopB : ∀ (nB s : Nat) (μ2 : Mm) (y5 : Value), s ≤ 3 → 3 < s + nB → (∀ d, 1 ≤ d → d ≤ N → ∀ j, j < 640 → μ2.1 (35 + d) j = -1) → (FrM (fun k => 33 ≤ k ∧ k ≤ 48) μ μ2) → (μ2.1 33 3 = nI κ) → (∀ k t, k < 7 → t < s → μ2.1 (41 + k) t = nI (favT tn ow k t 4)) → (∀ t, t < s → μ2.1 48 t = nI (tn 4 t)) → V l g RX1 cX1_begin 6 none 2 34 [.ref 33, .ref b, .int (nI κ), .int (nI N), .int (nI s), y5] [] μ2 (fun r μ' => r = none ∧ FcR μ' tn ow κ ∧ MmR μ' tn ow κ N ∧ FrM (fun k => 33 ≤ k ∧ k ≤ 48) μ μ') := by
          intro nB
          induction nB with
          | zero => intro s μ2 y5 h1 h2; exact absurd h2 (by omega)
          | succ nB ihB =>
            intro s μ2 y5 hleB hfuB hv2 hF2 hk2 ha2 hc2
            refine V_iload (pc := 34) dX1_begin_34 rfl ?_
            refine V_iconst (pc := 36) (v := 3) dX1_begin_36 (by decide) ?_
            refine V_icmpge (pc := 37) (tgt := 98) dX1_begin_37 (by decide) (fun h37 => ?_) (fun h37 => ?_)
            · have h37 := (nI_leI (a := 3) (b := s) (by decide) (by omega)).mp h37; obtain rfl : s = 3 := by omega
              refine V_vret (pc := 98) dX1_begin_98 rfl ?_
              exact ⟨rfl, ⟨hk2, hκ, fun k s hk hs => ha2 k s hk hs, fun s hs => hc2 s hs⟩, fun d p F h1 h2 h3 h4 => Or.inl (hv2 d h1 h2 _ (by omega)), hF2⟩
            have hlt : s < 3 := nI_l3 (a := 3) (by decide) (by omega) h37
            refine V_aload_n (pc := 40) dX1_begin_40 rfl rfl ?_
            refine V_getR (pc := 41) (ci := 1) (j := 2) (k2 := 48) dX1_begin_41 fl_X1_19 (fun _ _ _ _ => rfl) (by decide) rfl (rf_1_2 rfl) ?_
            refine V_iload (pc := 44) dX1_begin_44 rfl ?_
            refine V_aload_n (pc := 46) dX1_begin_46 rfl rfl ?_
            refine V_getR (pc := 47) (ci := 0) (j := 0) (k2 := (b + 1)) dX1_begin_47 fl_X1_33 (fun _ _ _ _ => rfl) (by first | decide | omega) (by first | rfl | assumption | exact (hrow _ (by omega)).2.1 | exact (fcF _ (by omega)).1 | exact (fcA _ (by omega)).1 | decide) (rf_0_0 (by first | rfl | assumption | exact (hrow _ (by omega)).2.1 | exact (fcF _ (by omega)).1 | exact (fcA _ (by omega)).1 | decide)) ?_
            refine V_iconst (pc := 50) (v := 4) dX1_begin_50 (by decide) ?_
            refine V_aald15 (pc := 51) (j := 4) dX1_begin_51 (by first | decide | omega) (by first | rfl | assumption | exact (hrow _ (by omega)).2.1 | exact (fcF _ (by omega)).1 | exact (fcA _ (by omega)).1 | decide) rfl (by omega) ?_
            refine V_iload (pc := 52) dX1_begin_52 rfl ?_
            refine V_iald (pc := 54) (j := s) dX1_begin_54 (by first | decide | omega) (by first | rfl | assumption | exact (hrow _ (by omega)).2.1 | exact (fcF _ (by omega)).1 | exact (fcA _ (by omega)).1 | decide) rfl (by have := (hrow 4 (by omega)).2.2; omega) ?_
            rw [(hB.kept hF2 (fun k h1 h2 q => by omega)).1 4 s (by omega) (by omega)]
            refine V_iast (pc := 55) (j := s) dX1_begin_55 (by decide) rfl rfl (by show s < 3; omega) ?_
            refine V_iconst (pc := 56) (v := (-1)) dX1_begin_56 (by decide) ?_
            refine V_istore5 (pc := 57) dX1_begin_57 (by decide) rfl ?_
            have hcc : ∀ t, t < s + 1 → (setI μ2 48 s (nI (tn 4 s))).1 48 t = nI (tn 4 t) := by
              intro t ht
              by_cases e : t = s
              · rw [e]; exact get_eq
              · rw [get_ne (fun q => e q.2)]; exact hc2 t (by omega)
            have loopC : ∀ (nC k : Nat) (μ3 : Mm), k ≤ 7 → 7 < k + nC → (∀ d, 1 ≤ d → d ≤ N → ∀ j, j < 640 → μ3.1 (35 + d) j = -1) → (FrM (fun k => 33 ≤ k ∧ k ≤ 48) μ μ3) → (μ3.1 33 3 = nI κ) → (∀ q t, q < 7 → t < s → μ3.1 (41 + q) t = nI (favT tn ow q t 4)) → (∀ q, q < k → μ3.1 (41 + q) s = nI (favT tn ow q s 4)) → (∀ t, t < s + 1 → μ3.1 48 t = nI (tn 4 t)) → V l g RX1 cX1_begin 6 none 2 59 [.ref 33, .ref b, .int (nI κ), .int (nI N), .int (nI s), .int (cI k)] [] μ3 (fun r μ' => r = none ∧ FcR μ' tn ow κ ∧ MmR μ' tn ow κ N ∧ FrM (fun k => 33 ≤ k ∧ k ≤ 48) μ μ') := by
              intro nC
              induction nC with
              | zero => intro k μ3 h1 h2; exact absurd h2 (by omega)
              | succ nC ihC =>
                intro k μ3 hleC hfuC hv3 hF3 hk3 ha3 hb3 hc3
                refine V_iload (pc := 59) dX1_begin_59 rfl ?_
                refine V_bipush (pc := 61) (v := 6) dX1_begin_61 (by decide) ?_
                refine V_icmpge (pc := 63) (tgt := 92) dX1_begin_63 (by decide) (fun h63 => ?_) (fun h63 => ?_)
                · rw [show (6 : Int32) = cI 7 from rfl] at h63; have h63 : 7 ≤ k := cI_le (by omega) (by omega) h63; obtain rfl : k = 7 := by omega
                  refine V_iinc4 (pc := 92) (v := nI (s + 1)) dX1_begin_92 (nI_1 s) (by decide) rfl ?_
                  refine V_goto (pc := 95) (tgt := 34) dX1_begin_95 (by decide) ?_
                  refine ihB (s + 1) μ3 _ (by omega) (by omega) hv3 hF3 hk3 (fun q t h1 h2 => ?_) hc3
                  by_cases e : t = s
                  · rw [e]; exact hb3 q h1
                  · exact ha3 q t h1 (by omega)
                have hltk : k < 7 := by rcases Nat.lt_or_ge k 7 with q | q; exact q; exact absurd (cI_le2 (a := 7) (b := k) (by omega) (by omega) q) h63
                refine V_aload_n (pc := 66) dX1_begin_66 rfl rfl ?_
                refine V_getR (pc := 67) (ci := 1) (j := 1) (k2 := 40) dX1_begin_67 fl_X1_16 (fun _ _ _ _ => rfl) (by decide) rfl (rf_1_1 rfl) ?_
                refine V_iload (pc := 70) dX1_begin_70 rfl ?_
                refine V_iconst (pc := 72) (v := 1) dX1_begin_72 (by decide) ?_
                refine V_iadd (pc := 73) dX1_begin_73 ?_
                refine V_aald15 (pc := 74) (j := k) dX1_begin_74 (by decide) rfl (cI_1 k) (by show k < 7; omega) ?_
                refine V_iload (pc := 75) dX1_begin_75 rfl ?_
                refine V_aload_n (pc := 77) dX1_begin_77 rfl rfl ?_
                refine V_iload (pc := 78) dX1_begin_78 rfl ?_
                refine V_iload (pc := 80) dX1_begin_80 rfl ?_
                refine V_inv2 (pc := 82) (ci := 0) dX1_begin_82 ml_X1_38 (by first | decide | omega) (by first | rfl | assumption | exact (hrow _ (by omega)).2.1 | exact (fcF _ (by omega)).1 | exact (fcA _ (by omega)).1 | decide) ⟨by decide, rfl⟩ (by decide) (Nat.le_of_ble_eq_true rfl) (c_X0_favour μ3 hb (hB.kept hF3 (fun k h1 h2 q => by omega)) (show k ≤ 6 by omega) (show s ≤ 2 by omega)) ?_
                rintro _ μ2 ⟨rfl, hμ⟩
                obtain rfl := hμ.symm
                refine V_iast (pc := 85) (j := s) dX1_begin_85 (by first | decide | omega) (by first | rfl | assumption | exact (hrow _ (by omega)).2.1 | exact (fcF _ (by omega)).1 | exact (fcA _ (by omega)).1 | decide) rfl (by have := (fcA k (by omega)).2; show s < kn (41 + k); omega) ?_
                refine V_iinc5 (pc := 86) (v := cI (k + 1)) dX1_begin_86 (cI_n k) (by decide) rfl ?_
                refine V_goto (pc := 89) (tgt := 59) dX1_begin_89 (by decide) ?_
                refine ihC (k + 1) _ (by omega) (by omega) (fun d h1 h2 j hj => ?_) (hF3.set (by omega)) ?_ (fun q t h1 h2 => ?_) (fun q hq => ?_) (fun t ht => ?_)
                · rw [get_ne (by omega)]; exact hv3 d h1 h2 j hj
                · rw [get_ne (by omega)]; exact hk3
                · rw [get_ne (by omega)]; exact ha3 q t h1 h2
                · by_cases e : q = k
                  · rw [e]; exact get_eq
                  · rw [get_ne (by omega)]; exact hb3 q (by omega)
                · rw [get_ne (by omega)]; exact hc3 t ht
            exact loopC (7 + 1) 0 _ (by omega) (by omega) (fun d h1 h2 j hj => by rw [get_ne (by omega)]; exact hv2 d h1 h2 j hj) (hF2.set (by omega)) (by rw [get_ne (by omega)]; exact hk2) (fun q t h1 h2 => by rw [get_ne (by omega)]; exact ha2 q t h1 h2) (fun q h => absurd h (by omega)) hcc
        exact loopB (3 + 1) 0 _ _ (by omega) (by omega) (fun d h1 h2 => hv d h1 (by omega)) hF hk3 (fun k t _ h => absurd h (by omega)) (fun t h => absurd h (by omega))
      have h11 := mt (nI_ltI (a := N) (b := i) (by omega) (by omega)).mpr h11
      refine V_aload_n (pc := 14) dX1_begin_14 rfl rfl ?_
      refine V_getR (pc := 15) (ci := 1) (j := 0) (k2 := 34) dX1_begin_15 fl_X1_11 (fun _ _ _ _ => rfl) (by decide) rfl (rf_1_0 rfl) ?_
      refine V_iload (pc := 18) dX1_begin_18 rfl ?_
      refine V_aald15 (pc := 20) (j := i) dX1_begin_20 (by decide) rfl rfl (by show i < 5; omega) ?_
      refine V_iconst (pc := 21) (v := (-1)) dX1_begin_21 (by decide) ?_
      refine V_ins2 (pc := 22) dX1_begin_22 ml_X1_27 (by first | decide | omega) (Nat.le_of_ble_eq_true rfl) (c_J7_fill_53178 μ1 (show 34 + 1 + i < 88 by omega) (fcF i (by omega)).1) ?_
      rintro _ μ2 ⟨rfl, hv2, hF2⟩
      refine V_iinc4 (pc := 25) (v := nI (i + 1)) dX1_begin_25 (nI_1 i) (by decide) rfl ?_
      refine V_goto (pc := 28) (tgt := 8) dX1_begin_28 (by decide) ?_
      refine ihA (i + 1) μ2 (by omega) (by omega) (fun d h1 h2 j hj => ?_) (hF.tr hF2 (fun k hk => by have : k = 34 + 1 + i := hk; omega)) (by rw [hF2.1 33 (fun q => by have : 33 = 34 + 1 + i := q; omega)]; exact hk3) (by omega)
      by_cases e : d = i
      · rw [e]; exact hv2 j (by have := (fcF i (by omega)).2; show j < kn (35 + i); omega)
      · rw [hF2.1 _ (fun q => e (by have : 35 + d = 34 + 1 + i := q; omega))]; exact hv d h1 (by omega) j hj
  exact loopA (N + 1 + 1) 1 _ (by omega) (by omega) (fun d h1 h2 => absurd h2 (by omega)) (FrM.rf.set (by omega)) get_eq (by omega)
